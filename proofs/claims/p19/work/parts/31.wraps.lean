section
/-! the wraps of a method: which, how many, in which order -/
def isWb (V : Vf) (o m ph : Int32) (j : Nat) : Bool := decide (V 41 (12 * nwh V + j) = m ∧ V 43 (12 * nwh V + j) = ph ∧ (V 21 (24 * (24 * nwh V + (V 61 (Int32.toNatClampNeg o)).toInt.toNat) + (V 40 (12 * nwh V + j)).toInt.toNat)).toInt ≠ 0)
def wnum (V : Vf) (j : Nat) : Int := (V 42 (12 * nwh V + j)).toInt
def wmany (V : Vf) : Nat := (V 39 (nwh V)).toInt.toNat
def gwc (f : Nat → Bool) (g : Nat → Int) (n : Int) (w : Nat) : Nat → Nat
  | 0 => 0
  | j + 1 => gwc f g n w j + (if f j = true ∧ (g j < n ∨ (g j = n ∧ j < w)) then 1 else 0)
def wcn (f : Nat → Bool) : Nat → Nat
  | 0 => 0
  | j + 1 => wcn f j + (if f j = true then 1 else 0)
theorem wcn_s (f : Nat → Bool) (W : Nat) : wcn f (W + 1) = wcn f W + (if f W = true then 1 else 0) := rfl
theorem w1803 : Cond.fieldLink RX12 225 "WiringHouseModel" "pile" "[I" ∈ GW := gw_k tk9_7 208 (by decide +kernel) rfl
theorem w2307 : Cond.code yX12_push cX12_push 2 none ∈ GW := gw_k tk9_9 232 (rfl) rfl
theorem w2304 : Cond.methodLink RX12 554 yX12_push ∈ GW := gw_k tk9_9 229 (by decide +kernel) rfl
theorem w2306 : Cond.instanceMethod yX12_push ∈ GW := gw_k tk9_9 231 (by decide +kernel) rfl
theorem w145 : Cond.selects RX12 yX12_push yX12_push ∈ GW := gw_mem 145 (by decide +kernel) rfl
theorem hdV_yX12_push : yX12_push.cls = RX12 ∧ yX12_push.cls ≠ "java/lang/invoke/MethodHandle" ∧ yX12_push.cls ≠ "java/lang/invoke/VarHandle" ∧ (parseMethodDescriptor yX12_push.desc).map (fun d => d.parameters.length) = some 1 := by decide +kernel
theorem w2279 : Cond.code yX12_pop cX12_pop 1 (some .int) ∈ GW := gw_k tk9_9 204 (rfl) rfl
theorem w2276 : Cond.methodLink RX12 551 yX12_pop ∈ GW := gw_k tk9_9 201 (by decide +kernel) rfl
theorem w2278 : Cond.instanceMethod yX12_pop ∈ GW := gw_k tk9_9 203 (by decide +kernel) rfl
theorem w138 : Cond.selects RX12 yX12_pop yX12_pop ∈ GW := gw_mem 138 (by decide +kernel) rfl
theorem hdV_yX12_pop : yX12_pop.cls = RX12 ∧ yX12_pop.cls ≠ "java/lang/invoke/MethodHandle" ∧ yX12_pop.cls ≠ "java/lang/invoke/VarHandle" ∧ (parseMethodDescriptor yX12_pop.desc).map (fun d => d.parameters.length) = some 0 := by decide +kernel
theorem w2250 : Cond.code yX12_fails cX12_fails 2 (some .int) ∈ GW := gw_k tk9_9 175 (rfl) rfl
theorem w2247 : Cond.methodLink RX12 484 yX12_fails ∈ GW := gw_k tk9_9 172 (by decide +kernel) rfl
theorem w2249 : Cond.instanceMethod yX12_fails ∈ GW := gw_k tk9_9 174 (by decide +kernel) rfl
theorem w131 : Cond.selects RX12 yX12_fails yX12_fails ∈ GW := gw_mem 131 (by decide +kernel) rfl
theorem hdV_yX12_fails : yX12_fails.cls = RX12 ∧ yX12_fails.cls ≠ "java/lang/invoke/MethodHandle" ∧ yX12_fails.cls ≠ "java/lang/invoke/VarHandle" ∧ (parseMethodDescriptor yX12_fails.desc).map (fun d => d.parameters.length) = some 1 := by decide +kernel
theorem w2262 : Cond.code yX12_step cX12_step 1 (some .boolean) ∈ GW := gw_k tk9_9 187 (rfl) rfl
theorem w2259 : Cond.methodLink RX12 497 yX12_step ∈ GW := gw_k tk9_9 184 (by decide +kernel) rfl
theorem w2261 : Cond.instanceMethod yX12_step ∈ GW := gw_k tk9_9 186 (by decide +kernel) rfl
theorem w134 : Cond.selects RX12 yX12_step yX12_step ∈ GW := gw_mem 134 (by decide +kernel) rfl
theorem hdV_yX12_step : yX12_step.cls = RX12 ∧ yX12_step.cls ≠ "java/lang/invoke/MethodHandle" ∧ yX12_step.cls ≠ "java/lang/invoke/VarHandle" ∧ (parseMethodDescriptor yX12_step.desc).map (fun d => d.parameters.length) = some 0 := by decide +kernel
theorem w2291 : Cond.code yX12_isWrap cX12_isWrap 6 (some .boolean) ∈ GW := gw_k tk9_9 216 (rfl) rfl
theorem w2288 : Cond.methodLink RX12 516 yX12_isWrap ∈ GW := gw_k tk9_9 213 (by decide +kernel) rfl
theorem w2290 : Cond.instanceMethod yX12_isWrap ∈ GW := gw_k tk9_9 215 (by decide +kernel) rfl
theorem w141 : Cond.selects RX12 yX12_isWrap yX12_isWrap ∈ GW := gw_mem 141 (by decide +kernel) rfl
theorem hdV_yX12_isWrap : yX12_isWrap.cls = RX12 ∧ yX12_isWrap.cls ≠ "java/lang/invoke/MethodHandle" ∧ yX12_isWrap.cls ≠ "java/lang/invoke/VarHandle" ∧ (parseMethodDescriptor yX12_isWrap.desc).map (fun d => d.parameters.length) = some 4 := by decide +kernel
theorem dk9_dX12_push_0_0 : dOk cX12_push [(0, .aload_n 0, 1), (1, .getfield 225, 3), (4, .aload_n 0, 1), (5, .getfield 548, 3), (8, .iload_n 1, 1), (9, .iastore, 1), (10, .aload_n 0, 1), (11, .dup, 1), (12, .getfield 548, 3), (15, .iconst 1, 1), (16, .iadd, 1), (17, .putfield 548, 3), (20, .return_, 1)] = true := by decide +kernel
theorem dX12_push_0 : decode cX12_push 0 = .ok (.aload_n 0, 1) := dr9 dk9_dX12_push_0_0 0 (0, .aload_n 0, 1) rfl
theorem dX12_push_1 : decode cX12_push 1 = .ok (.getfield 225, 3) := dr9 dk9_dX12_push_0_0 1 (1, .getfield 225, 3) rfl
theorem dX12_push_4 : decode cX12_push 4 = .ok (.aload_n 0, 1) := dr9 dk9_dX12_push_0_0 2 (4, .aload_n 0, 1) rfl
theorem dX12_push_5 : decode cX12_push 5 = .ok (.getfield 548, 3) := dr9 dk9_dX12_push_0_0 3 (5, .getfield 548, 3) rfl
theorem dX12_push_8 : decode cX12_push 8 = .ok (.iload_n 1, 1) := dr9 dk9_dX12_push_0_0 4 (8, .iload_n 1, 1) rfl
theorem dX12_push_9 : decode cX12_push 9 = .ok (.iastore, 1) := dr9 dk9_dX12_push_0_0 5 (9, .iastore, 1) rfl
theorem dX12_push_10 : decode cX12_push 10 = .ok (.aload_n 0, 1) := dr9 dk9_dX12_push_0_0 6 (10, .aload_n 0, 1) rfl
theorem dX12_push_11 : decode cX12_push 11 = .ok (.dup, 1) := dr9 dk9_dX12_push_0_0 7 (11, .dup, 1) rfl
theorem dX12_push_12 : decode cX12_push 12 = .ok (.getfield 548, 3) := dr9 dk9_dX12_push_0_0 8 (12, .getfield 548, 3) rfl
theorem dX12_push_15 : decode cX12_push 15 = .ok (.iconst 1, 1) := dr9 dk9_dX12_push_0_0 9 (15, .iconst 1, 1) rfl
theorem dX12_push_16 : decode cX12_push 16 = .ok (.iadd, 1) := dr9 dk9_dX12_push_0_0 10 (16, .iadd, 1) rfl
theorem dX12_push_17 : decode cX12_push 17 = .ok (.putfield 548, 3) := dr9 dk9_dX12_push_0_0 11 (17, .putfield 548, 3) rfl
theorem dX12_push_20 : decode cX12_push 20 = .ok (.return_, 1) := dr9 dk9_dX12_push_0_0 12 (20, .return_, 1) rfl
theorem dk9_dX12_pop_0_0 : dOk cX12_pop [(0, .aload_n 0, 1), (1, .dup, 1), (2, .getfield 548, 3), (5, .iconst 1, 1), (6, .isub, 1), (7, .putfield 548, 3), (10, .aload_n 0, 1), (11, .getfield 225, 3), (14, .aload_n 0, 1), (15, .getfield 548, 3), (18, .iaload, 1), (19, .ireturn, 1)] = true := by decide +kernel
theorem dX12_pop_0 : decode cX12_pop 0 = .ok (.aload_n 0, 1) := dr9 dk9_dX12_pop_0_0 0 (0, .aload_n 0, 1) rfl
theorem dX12_pop_1 : decode cX12_pop 1 = .ok (.dup, 1) := dr9 dk9_dX12_pop_0_0 1 (1, .dup, 1) rfl
theorem dX12_pop_2 : decode cX12_pop 2 = .ok (.getfield 548, 3) := dr9 dk9_dX12_pop_0_0 2 (2, .getfield 548, 3) rfl
theorem dX12_pop_5 : decode cX12_pop 5 = .ok (.iconst 1, 1) := dr9 dk9_dX12_pop_0_0 3 (5, .iconst 1, 1) rfl
theorem dX12_pop_6 : decode cX12_pop 6 = .ok (.isub, 1) := dr9 dk9_dX12_pop_0_0 4 (6, .isub, 1) rfl
theorem dX12_pop_7 : decode cX12_pop 7 = .ok (.putfield 548, 3) := dr9 dk9_dX12_pop_0_0 5 (7, .putfield 548, 3) rfl
theorem dX12_pop_10 : decode cX12_pop 10 = .ok (.aload_n 0, 1) := dr9 dk9_dX12_pop_0_0 6 (10, .aload_n 0, 1) rfl
theorem dX12_pop_11 : decode cX12_pop 11 = .ok (.getfield 225, 3) := dr9 dk9_dX12_pop_0_0 7 (11, .getfield 225, 3) rfl
theorem dX12_pop_14 : decode cX12_pop 14 = .ok (.aload_n 0, 1) := dr9 dk9_dX12_pop_0_0 8 (14, .aload_n 0, 1) rfl
theorem dX12_pop_15 : decode cX12_pop 15 = .ok (.getfield 548, 3) := dr9 dk9_dX12_pop_0_0 9 (15, .getfield 548, 3) rfl
theorem dX12_pop_18 : decode cX12_pop 18 = .ok (.iaload, 1) := dr9 dk9_dX12_pop_0_0 10 (18, .iaload, 1) rfl
theorem dX12_pop_19 : decode cX12_pop 19 = .ok (.ireturn, 1) := dr9 dk9_dX12_pop_0_0 11 (19, .ireturn, 1) rfl
theorem dk9_dX12_reckons_0_0 : dOk cX12_reckons [(0, .iload_n 1, 1), (1, .iconst 1, 1), (2, .if_icmp .ne 16, 3), (18, .iload_n 1, 1), (19, .bipush 10, 2), (21, .if_icmp .ne 9, 3), (30, .iload_n 1, 1), (31, .iconst 2, 1), (32, .if_icmp .eq 9, 3), (41, .aload_n 0, 1), (42, .iload_n 1, 1), (43, .iconst 2, 1), (44, .if_icmp .ne 7, 3), (47, .iload_n 2, 1), (48, .goto 17, 3), (65, .invokevirtual 554, 3), (68, .goto 104, 3), (172, .iconst 0, 1), (173, .ireturn, 1), (35, .iload_n 1, 1), (36, .bipush 11, 2), (38, .if_icmp .ne 33, 3), (71, .iload_n 1, 1), (72, .iconst 4, 1)] = true ∧ dOk cX12_reckons [(73, .if_icmp .ne 15, 3), (88, .aload_n 0, 1), (89, .invokevirtual 551, 3), (92, .istore_n 3, 1), (93, .aload_n 0, 1), (94, .invokevirtual 551, 3), (97, .istore 4, 2), (99, .aload_n 0, 1), (100, .iload_n 1, 1), (101, .iconst 5, 1), (102, .if_icmp .ne 10, 3), (112, .iload_n 1, 1), (113, .bipush 6, 2), (115, .if_icmp .ne 10, 3), (125, .iload_n 1, 1), (126, .bipush 7, 2), (128, .if_icmp .ne 10, 3), (138, .iload_n 1, 1), (139, .bipush 8, 2), (141, .if_icmp .ne 17, 3), (158, .iload 4, 2), (160, .iload_n 3, 1), (161, .if_icmp .ne 7, 3), (168, .iconst 0, 1)] = true ∧ dOk cX12_reckons [(169, .invokevirtual 554, 3), (164, .iconst 1, 1), (165, .goto 4, 3), (144, .iload 4, 2), (146, .iload_n 3, 1), (147, .if_icmp .ge 7, 3), (154, .iconst 0, 1), (155, .goto 14, 3), (150, .iconst 1, 1), (151, .goto 18, 3), (131, .iload 4, 2), (133, .iload_n 3, 1), (134, .isub, 1), (135, .goto 34, 3), (118, .iload 4, 2), (120, .iload_n 3, 1), (121, .iadd, 1), (122, .goto 47, 3), (105, .iload 4, 2), (107, .iload_n 3, 1), (108, .imul, 1), (109, .goto 60, 3), (76, .aload_n 0, 1), (77, .aload_n 0, 1)] = true ∧ dOk cX12_reckons [(78, .invokevirtual 551, 3), (81, .ineg, 1), (82, .invokevirtual 554, 3), (85, .goto 87, 3), (51, .aload_n 0, 1), (52, .getfield 59, 3), (55, .bipush 12, 2), (57, .aload_n 0, 1), (58, .getfield 286, 3), (61, .imul, 1), (62, .iload_n 2, 1), (63, .iadd, 1), (64, .iaload, 1), (24, .aload_n 0, 1), (25, .iload_n 2, 1), (26, .invokevirtual 484, 3), (29, .ireturn, 1), (5, .aload_n 0, 1), (6, .invokevirtual 497, 3), (9, .ifCond .eq 7, 3), (16, .iconst 2, 1), (17, .ireturn, 1), (12, .iconst 0, 1), (13, .goto 4, 3)] = true := by decide +kernel
theorem dX12_reckons_0 : decode cX12_reckons 0 = .ok (.iload_n 1, 1) := dr9 dk9_dX12_reckons_0_0.1 0 (0, .iload_n 1, 1) rfl
theorem dX12_reckons_1 : decode cX12_reckons 1 = .ok (.iconst 1, 1) := dr9 dk9_dX12_reckons_0_0.1 1 (1, .iconst 1, 1) rfl
theorem dX12_reckons_2 : decode cX12_reckons 2 = .ok (.if_icmp .ne 16, 3) := dr9 dk9_dX12_reckons_0_0.1 2 (2, .if_icmp .ne 16, 3) rfl
theorem dX12_reckons_18 : decode cX12_reckons 18 = .ok (.iload_n 1, 1) := dr9 dk9_dX12_reckons_0_0.1 3 (18, .iload_n 1, 1) rfl
theorem dX12_reckons_19 : decode cX12_reckons 19 = .ok (.bipush 10, 2) := dr9 dk9_dX12_reckons_0_0.1 4 (19, .bipush 10, 2) rfl
theorem dX12_reckons_21 : decode cX12_reckons 21 = .ok (.if_icmp .ne 9, 3) := dr9 dk9_dX12_reckons_0_0.1 5 (21, .if_icmp .ne 9, 3) rfl
theorem dX12_reckons_30 : decode cX12_reckons 30 = .ok (.iload_n 1, 1) := dr9 dk9_dX12_reckons_0_0.1 6 (30, .iload_n 1, 1) rfl
theorem dX12_reckons_31 : decode cX12_reckons 31 = .ok (.iconst 2, 1) := dr9 dk9_dX12_reckons_0_0.1 7 (31, .iconst 2, 1) rfl
theorem dX12_reckons_32 : decode cX12_reckons 32 = .ok (.if_icmp .eq 9, 3) := dr9 dk9_dX12_reckons_0_0.1 8 (32, .if_icmp .eq 9, 3) rfl
theorem dX12_reckons_41 : decode cX12_reckons 41 = .ok (.aload_n 0, 1) := dr9 dk9_dX12_reckons_0_0.1 9 (41, .aload_n 0, 1) rfl
theorem dX12_reckons_42 : decode cX12_reckons 42 = .ok (.iload_n 1, 1) := dr9 dk9_dX12_reckons_0_0.1 10 (42, .iload_n 1, 1) rfl
theorem dX12_reckons_43 : decode cX12_reckons 43 = .ok (.iconst 2, 1) := dr9 dk9_dX12_reckons_0_0.1 11 (43, .iconst 2, 1) rfl
theorem dX12_reckons_44 : decode cX12_reckons 44 = .ok (.if_icmp .ne 7, 3) := dr9 dk9_dX12_reckons_0_0.1 12 (44, .if_icmp .ne 7, 3) rfl
theorem dX12_reckons_47 : decode cX12_reckons 47 = .ok (.iload_n 2, 1) := dr9 dk9_dX12_reckons_0_0.1 13 (47, .iload_n 2, 1) rfl
theorem dX12_reckons_48 : decode cX12_reckons 48 = .ok (.goto 17, 3) := dr9 dk9_dX12_reckons_0_0.1 14 (48, .goto 17, 3) rfl
theorem dX12_reckons_65 : decode cX12_reckons 65 = .ok (.invokevirtual 554, 3) := dr9 dk9_dX12_reckons_0_0.1 15 (65, .invokevirtual 554, 3) rfl
theorem dX12_reckons_68 : decode cX12_reckons 68 = .ok (.goto 104, 3) := dr9 dk9_dX12_reckons_0_0.1 16 (68, .goto 104, 3) rfl
theorem dX12_reckons_172 : decode cX12_reckons 172 = .ok (.iconst 0, 1) := dr9 dk9_dX12_reckons_0_0.1 17 (172, .iconst 0, 1) rfl
theorem dX12_reckons_173 : decode cX12_reckons 173 = .ok (.ireturn, 1) := dr9 dk9_dX12_reckons_0_0.1 18 (173, .ireturn, 1) rfl
theorem dX12_reckons_35 : decode cX12_reckons 35 = .ok (.iload_n 1, 1) := dr9 dk9_dX12_reckons_0_0.1 19 (35, .iload_n 1, 1) rfl
theorem dX12_reckons_36 : decode cX12_reckons 36 = .ok (.bipush 11, 2) := dr9 dk9_dX12_reckons_0_0.1 20 (36, .bipush 11, 2) rfl
theorem dX12_reckons_38 : decode cX12_reckons 38 = .ok (.if_icmp .ne 33, 3) := dr9 dk9_dX12_reckons_0_0.1 21 (38, .if_icmp .ne 33, 3) rfl
theorem dX12_reckons_71 : decode cX12_reckons 71 = .ok (.iload_n 1, 1) := dr9 dk9_dX12_reckons_0_0.1 22 (71, .iload_n 1, 1) rfl
theorem dX12_reckons_72 : decode cX12_reckons 72 = .ok (.iconst 4, 1) := dr9 dk9_dX12_reckons_0_0.1 23 (72, .iconst 4, 1) rfl
theorem dX12_reckons_73 : decode cX12_reckons 73 = .ok (.if_icmp .ne 15, 3) := dr9 dk9_dX12_reckons_0_0.2.1 0 (73, .if_icmp .ne 15, 3) rfl
theorem dX12_reckons_88 : decode cX12_reckons 88 = .ok (.aload_n 0, 1) := dr9 dk9_dX12_reckons_0_0.2.1 1 (88, .aload_n 0, 1) rfl
theorem dX12_reckons_89 : decode cX12_reckons 89 = .ok (.invokevirtual 551, 3) := dr9 dk9_dX12_reckons_0_0.2.1 2 (89, .invokevirtual 551, 3) rfl
theorem dX12_reckons_92 : decode cX12_reckons 92 = .ok (.istore_n 3, 1) := dr9 dk9_dX12_reckons_0_0.2.1 3 (92, .istore_n 3, 1) rfl
theorem dX12_reckons_93 : decode cX12_reckons 93 = .ok (.aload_n 0, 1) := dr9 dk9_dX12_reckons_0_0.2.1 4 (93, .aload_n 0, 1) rfl
theorem dX12_reckons_94 : decode cX12_reckons 94 = .ok (.invokevirtual 551, 3) := dr9 dk9_dX12_reckons_0_0.2.1 5 (94, .invokevirtual 551, 3) rfl
theorem dX12_reckons_97 : decode cX12_reckons 97 = .ok (.istore 4, 2) := dr9 dk9_dX12_reckons_0_0.2.1 6 (97, .istore 4, 2) rfl
theorem dX12_reckons_99 : decode cX12_reckons 99 = .ok (.aload_n 0, 1) := dr9 dk9_dX12_reckons_0_0.2.1 7 (99, .aload_n 0, 1) rfl
theorem dX12_reckons_100 : decode cX12_reckons 100 = .ok (.iload_n 1, 1) := dr9 dk9_dX12_reckons_0_0.2.1 8 (100, .iload_n 1, 1) rfl
theorem dX12_reckons_101 : decode cX12_reckons 101 = .ok (.iconst 5, 1) := dr9 dk9_dX12_reckons_0_0.2.1 9 (101, .iconst 5, 1) rfl
theorem dX12_reckons_102 : decode cX12_reckons 102 = .ok (.if_icmp .ne 10, 3) := dr9 dk9_dX12_reckons_0_0.2.1 10 (102, .if_icmp .ne 10, 3) rfl
theorem dX12_reckons_112 : decode cX12_reckons 112 = .ok (.iload_n 1, 1) := dr9 dk9_dX12_reckons_0_0.2.1 11 (112, .iload_n 1, 1) rfl
theorem dX12_reckons_113 : decode cX12_reckons 113 = .ok (.bipush 6, 2) := dr9 dk9_dX12_reckons_0_0.2.1 12 (113, .bipush 6, 2) rfl
theorem dX12_reckons_115 : decode cX12_reckons 115 = .ok (.if_icmp .ne 10, 3) := dr9 dk9_dX12_reckons_0_0.2.1 13 (115, .if_icmp .ne 10, 3) rfl
theorem dX12_reckons_125 : decode cX12_reckons 125 = .ok (.iload_n 1, 1) := dr9 dk9_dX12_reckons_0_0.2.1 14 (125, .iload_n 1, 1) rfl
theorem dX12_reckons_126 : decode cX12_reckons 126 = .ok (.bipush 7, 2) := dr9 dk9_dX12_reckons_0_0.2.1 15 (126, .bipush 7, 2) rfl
theorem dX12_reckons_128 : decode cX12_reckons 128 = .ok (.if_icmp .ne 10, 3) := dr9 dk9_dX12_reckons_0_0.2.1 16 (128, .if_icmp .ne 10, 3) rfl
theorem dX12_reckons_138 : decode cX12_reckons 138 = .ok (.iload_n 1, 1) := dr9 dk9_dX12_reckons_0_0.2.1 17 (138, .iload_n 1, 1) rfl
theorem dX12_reckons_139 : decode cX12_reckons 139 = .ok (.bipush 8, 2) := dr9 dk9_dX12_reckons_0_0.2.1 18 (139, .bipush 8, 2) rfl
theorem dX12_reckons_141 : decode cX12_reckons 141 = .ok (.if_icmp .ne 17, 3) := dr9 dk9_dX12_reckons_0_0.2.1 19 (141, .if_icmp .ne 17, 3) rfl
theorem dX12_reckons_158 : decode cX12_reckons 158 = .ok (.iload 4, 2) := dr9 dk9_dX12_reckons_0_0.2.1 20 (158, .iload 4, 2) rfl
theorem dX12_reckons_160 : decode cX12_reckons 160 = .ok (.iload_n 3, 1) := dr9 dk9_dX12_reckons_0_0.2.1 21 (160, .iload_n 3, 1) rfl
theorem dX12_reckons_161 : decode cX12_reckons 161 = .ok (.if_icmp .ne 7, 3) := dr9 dk9_dX12_reckons_0_0.2.1 22 (161, .if_icmp .ne 7, 3) rfl
theorem dX12_reckons_168 : decode cX12_reckons 168 = .ok (.iconst 0, 1) := dr9 dk9_dX12_reckons_0_0.2.1 23 (168, .iconst 0, 1) rfl
theorem dX12_reckons_169 : decode cX12_reckons 169 = .ok (.invokevirtual 554, 3) := dr9 dk9_dX12_reckons_0_0.2.2.1 0 (169, .invokevirtual 554, 3) rfl
theorem dX12_reckons_164 : decode cX12_reckons 164 = .ok (.iconst 1, 1) := dr9 dk9_dX12_reckons_0_0.2.2.1 1 (164, .iconst 1, 1) rfl
theorem dX12_reckons_165 : decode cX12_reckons 165 = .ok (.goto 4, 3) := dr9 dk9_dX12_reckons_0_0.2.2.1 2 (165, .goto 4, 3) rfl
theorem dX12_reckons_144 : decode cX12_reckons 144 = .ok (.iload 4, 2) := dr9 dk9_dX12_reckons_0_0.2.2.1 3 (144, .iload 4, 2) rfl
theorem dX12_reckons_146 : decode cX12_reckons 146 = .ok (.iload_n 3, 1) := dr9 dk9_dX12_reckons_0_0.2.2.1 4 (146, .iload_n 3, 1) rfl
theorem dX12_reckons_147 : decode cX12_reckons 147 = .ok (.if_icmp .ge 7, 3) := dr9 dk9_dX12_reckons_0_0.2.2.1 5 (147, .if_icmp .ge 7, 3) rfl
theorem dX12_reckons_154 : decode cX12_reckons 154 = .ok (.iconst 0, 1) := dr9 dk9_dX12_reckons_0_0.2.2.1 6 (154, .iconst 0, 1) rfl
theorem dX12_reckons_155 : decode cX12_reckons 155 = .ok (.goto 14, 3) := dr9 dk9_dX12_reckons_0_0.2.2.1 7 (155, .goto 14, 3) rfl
theorem dX12_reckons_150 : decode cX12_reckons 150 = .ok (.iconst 1, 1) := dr9 dk9_dX12_reckons_0_0.2.2.1 8 (150, .iconst 1, 1) rfl
theorem dX12_reckons_151 : decode cX12_reckons 151 = .ok (.goto 18, 3) := dr9 dk9_dX12_reckons_0_0.2.2.1 9 (151, .goto 18, 3) rfl
theorem dX12_reckons_131 : decode cX12_reckons 131 = .ok (.iload 4, 2) := dr9 dk9_dX12_reckons_0_0.2.2.1 10 (131, .iload 4, 2) rfl
theorem dX12_reckons_133 : decode cX12_reckons 133 = .ok (.iload_n 3, 1) := dr9 dk9_dX12_reckons_0_0.2.2.1 11 (133, .iload_n 3, 1) rfl
theorem dX12_reckons_134 : decode cX12_reckons 134 = .ok (.isub, 1) := dr9 dk9_dX12_reckons_0_0.2.2.1 12 (134, .isub, 1) rfl
theorem dX12_reckons_135 : decode cX12_reckons 135 = .ok (.goto 34, 3) := dr9 dk9_dX12_reckons_0_0.2.2.1 13 (135, .goto 34, 3) rfl
theorem dX12_reckons_118 : decode cX12_reckons 118 = .ok (.iload 4, 2) := dr9 dk9_dX12_reckons_0_0.2.2.1 14 (118, .iload 4, 2) rfl
theorem dX12_reckons_120 : decode cX12_reckons 120 = .ok (.iload_n 3, 1) := dr9 dk9_dX12_reckons_0_0.2.2.1 15 (120, .iload_n 3, 1) rfl
theorem dX12_reckons_121 : decode cX12_reckons 121 = .ok (.iadd, 1) := dr9 dk9_dX12_reckons_0_0.2.2.1 16 (121, .iadd, 1) rfl
theorem dX12_reckons_122 : decode cX12_reckons 122 = .ok (.goto 47, 3) := dr9 dk9_dX12_reckons_0_0.2.2.1 17 (122, .goto 47, 3) rfl
theorem dX12_reckons_105 : decode cX12_reckons 105 = .ok (.iload 4, 2) := dr9 dk9_dX12_reckons_0_0.2.2.1 18 (105, .iload 4, 2) rfl
theorem dX12_reckons_107 : decode cX12_reckons 107 = .ok (.iload_n 3, 1) := dr9 dk9_dX12_reckons_0_0.2.2.1 19 (107, .iload_n 3, 1) rfl
theorem dX12_reckons_108 : decode cX12_reckons 108 = .ok (.imul, 1) := dr9 dk9_dX12_reckons_0_0.2.2.1 20 (108, .imul, 1) rfl
theorem dX12_reckons_109 : decode cX12_reckons 109 = .ok (.goto 60, 3) := dr9 dk9_dX12_reckons_0_0.2.2.1 21 (109, .goto 60, 3) rfl
theorem dX12_reckons_76 : decode cX12_reckons 76 = .ok (.aload_n 0, 1) := dr9 dk9_dX12_reckons_0_0.2.2.1 22 (76, .aload_n 0, 1) rfl
theorem dX12_reckons_77 : decode cX12_reckons 77 = .ok (.aload_n 0, 1) := dr9 dk9_dX12_reckons_0_0.2.2.1 23 (77, .aload_n 0, 1) rfl
theorem dX12_reckons_78 : decode cX12_reckons 78 = .ok (.invokevirtual 551, 3) := dr9 dk9_dX12_reckons_0_0.2.2.2 0 (78, .invokevirtual 551, 3) rfl
theorem dX12_reckons_81 : decode cX12_reckons 81 = .ok (.ineg, 1) := dr9 dk9_dX12_reckons_0_0.2.2.2 1 (81, .ineg, 1) rfl
theorem dX12_reckons_82 : decode cX12_reckons 82 = .ok (.invokevirtual 554, 3) := dr9 dk9_dX12_reckons_0_0.2.2.2 2 (82, .invokevirtual 554, 3) rfl
theorem dX12_reckons_85 : decode cX12_reckons 85 = .ok (.goto 87, 3) := dr9 dk9_dX12_reckons_0_0.2.2.2 3 (85, .goto 87, 3) rfl
theorem dX12_reckons_51 : decode cX12_reckons 51 = .ok (.aload_n 0, 1) := dr9 dk9_dX12_reckons_0_0.2.2.2 4 (51, .aload_n 0, 1) rfl
theorem dX12_reckons_52 : decode cX12_reckons 52 = .ok (.getfield 59, 3) := dr9 dk9_dX12_reckons_0_0.2.2.2 5 (52, .getfield 59, 3) rfl
theorem dX12_reckons_55 : decode cX12_reckons 55 = .ok (.bipush 12, 2) := dr9 dk9_dX12_reckons_0_0.2.2.2 6 (55, .bipush 12, 2) rfl
theorem dX12_reckons_57 : decode cX12_reckons 57 = .ok (.aload_n 0, 1) := dr9 dk9_dX12_reckons_0_0.2.2.2 7 (57, .aload_n 0, 1) rfl
theorem dX12_reckons_58 : decode cX12_reckons 58 = .ok (.getfield 286, 3) := dr9 dk9_dX12_reckons_0_0.2.2.2 8 (58, .getfield 286, 3) rfl
theorem dX12_reckons_61 : decode cX12_reckons 61 = .ok (.imul, 1) := dr9 dk9_dX12_reckons_0_0.2.2.2 9 (61, .imul, 1) rfl
theorem dX12_reckons_62 : decode cX12_reckons 62 = .ok (.iload_n 2, 1) := dr9 dk9_dX12_reckons_0_0.2.2.2 10 (62, .iload_n 2, 1) rfl
theorem dX12_reckons_63 : decode cX12_reckons 63 = .ok (.iadd, 1) := dr9 dk9_dX12_reckons_0_0.2.2.2 11 (63, .iadd, 1) rfl
theorem dX12_reckons_64 : decode cX12_reckons 64 = .ok (.iaload, 1) := dr9 dk9_dX12_reckons_0_0.2.2.2 12 (64, .iaload, 1) rfl
theorem dX12_reckons_24 : decode cX12_reckons 24 = .ok (.aload_n 0, 1) := dr9 dk9_dX12_reckons_0_0.2.2.2 13 (24, .aload_n 0, 1) rfl
theorem dX12_reckons_25 : decode cX12_reckons 25 = .ok (.iload_n 2, 1) := dr9 dk9_dX12_reckons_0_0.2.2.2 14 (25, .iload_n 2, 1) rfl
theorem dX12_reckons_26 : decode cX12_reckons 26 = .ok (.invokevirtual 484, 3) := dr9 dk9_dX12_reckons_0_0.2.2.2 15 (26, .invokevirtual 484, 3) rfl
theorem dX12_reckons_29 : decode cX12_reckons 29 = .ok (.ireturn, 1) := dr9 dk9_dX12_reckons_0_0.2.2.2 16 (29, .ireturn, 1) rfl
theorem dX12_reckons_5 : decode cX12_reckons 5 = .ok (.aload_n 0, 1) := dr9 dk9_dX12_reckons_0_0.2.2.2 17 (5, .aload_n 0, 1) rfl
theorem dX12_reckons_6 : decode cX12_reckons 6 = .ok (.invokevirtual 497, 3) := dr9 dk9_dX12_reckons_0_0.2.2.2 18 (6, .invokevirtual 497, 3) rfl
theorem dX12_reckons_9 : decode cX12_reckons 9 = .ok (.ifCond .eq 7, 3) := dr9 dk9_dX12_reckons_0_0.2.2.2 19 (9, .ifCond .eq 7, 3) rfl
theorem dX12_reckons_16 : decode cX12_reckons 16 = .ok (.iconst 2, 1) := dr9 dk9_dX12_reckons_0_0.2.2.2 20 (16, .iconst 2, 1) rfl
theorem dX12_reckons_17 : decode cX12_reckons 17 = .ok (.ireturn, 1) := dr9 dk9_dX12_reckons_0_0.2.2.2 21 (17, .ireturn, 1) rfl
theorem dX12_reckons_12 : decode cX12_reckons 12 = .ok (.iconst 0, 1) := dr9 dk9_dX12_reckons_0_0.2.2.2 22 (12, .iconst 0, 1) rfl
theorem dX12_reckons_13 : decode cX12_reckons 13 = .ok (.goto 4, 3) := dr9 dk9_dX12_reckons_0_0.2.2.2 23 (13, .goto 4, 3) rfl
theorem dk9_dX12_isWrap_0_0 : dOk cX12_isWrap [(0, .bipush 12, 2), (2, .aload_n 0, 1), (3, .getfield 286, 3), (6, .imul, 1), (7, .iload_n 1, 1), (8, .iadd, 1), (9, .istore 5, 2), (11, .aload_n 0, 1), (12, .getfield 128, 3), (15, .iload 5, 2), (17, .iaload, 1), (18, .iload_n 3, 1), (19, .if_icmp .ne 52, 3), (71, .iconst 0, 1), (72, .ireturn, 1), (22, .aload_n 0, 1), (23, .getfield 134, 3), (26, .iload 5, 2), (28, .iaload, 1), (29, .iload 4, 2), (31, .if_icmp .ne 40, 3), (34, .aload_n 0, 1), (35, .getfield 68, 3), (38, .bipush 24, 2)] = true ∧ dOk cX12_isWrap [(40, .bipush 24, 2), (42, .aload_n 0, 1), (43, .getfield 286, 3), (46, .imul, 1), (47, .aload_n 0, 1), (48, .getfield 164, 3), (51, .iload_n 2, 1), (52, .iaload, 1), (53, .iadd, 1), (54, .imul, 1), (55, .aload_n 0, 1), (56, .getfield 125, 3), (59, .iload 5, 2), (61, .iaload, 1), (62, .iadd, 1), (63, .baload, 1), (64, .ifCond .eq 7, 3), (67, .iconst 1, 1), (68, .goto 4, 3)] = true := by decide +kernel
theorem dX12_isWrap_0 : decode cX12_isWrap 0 = .ok (.bipush 12, 2) := dr9 dk9_dX12_isWrap_0_0.1 0 (0, .bipush 12, 2) rfl
theorem dX12_isWrap_2 : decode cX12_isWrap 2 = .ok (.aload_n 0, 1) := dr9 dk9_dX12_isWrap_0_0.1 1 (2, .aload_n 0, 1) rfl
theorem dX12_isWrap_3 : decode cX12_isWrap 3 = .ok (.getfield 286, 3) := dr9 dk9_dX12_isWrap_0_0.1 2 (3, .getfield 286, 3) rfl
theorem dX12_isWrap_6 : decode cX12_isWrap 6 = .ok (.imul, 1) := dr9 dk9_dX12_isWrap_0_0.1 3 (6, .imul, 1) rfl
theorem dX12_isWrap_7 : decode cX12_isWrap 7 = .ok (.iload_n 1, 1) := dr9 dk9_dX12_isWrap_0_0.1 4 (7, .iload_n 1, 1) rfl
theorem dX12_isWrap_8 : decode cX12_isWrap 8 = .ok (.iadd, 1) := dr9 dk9_dX12_isWrap_0_0.1 5 (8, .iadd, 1) rfl
theorem dX12_isWrap_9 : decode cX12_isWrap 9 = .ok (.istore 5, 2) := dr9 dk9_dX12_isWrap_0_0.1 6 (9, .istore 5, 2) rfl
theorem dX12_isWrap_11 : decode cX12_isWrap 11 = .ok (.aload_n 0, 1) := dr9 dk9_dX12_isWrap_0_0.1 7 (11, .aload_n 0, 1) rfl
theorem dX12_isWrap_12 : decode cX12_isWrap 12 = .ok (.getfield 128, 3) := dr9 dk9_dX12_isWrap_0_0.1 8 (12, .getfield 128, 3) rfl
theorem dX12_isWrap_15 : decode cX12_isWrap 15 = .ok (.iload 5, 2) := dr9 dk9_dX12_isWrap_0_0.1 9 (15, .iload 5, 2) rfl
theorem dX12_isWrap_17 : decode cX12_isWrap 17 = .ok (.iaload, 1) := dr9 dk9_dX12_isWrap_0_0.1 10 (17, .iaload, 1) rfl
theorem dX12_isWrap_18 : decode cX12_isWrap 18 = .ok (.iload_n 3, 1) := dr9 dk9_dX12_isWrap_0_0.1 11 (18, .iload_n 3, 1) rfl
theorem dX12_isWrap_19 : decode cX12_isWrap 19 = .ok (.if_icmp .ne 52, 3) := dr9 dk9_dX12_isWrap_0_0.1 12 (19, .if_icmp .ne 52, 3) rfl
theorem dX12_isWrap_71 : decode cX12_isWrap 71 = .ok (.iconst 0, 1) := dr9 dk9_dX12_isWrap_0_0.1 13 (71, .iconst 0, 1) rfl
theorem dX12_isWrap_72 : decode cX12_isWrap 72 = .ok (.ireturn, 1) := dr9 dk9_dX12_isWrap_0_0.1 14 (72, .ireturn, 1) rfl
theorem dX12_isWrap_22 : decode cX12_isWrap 22 = .ok (.aload_n 0, 1) := dr9 dk9_dX12_isWrap_0_0.1 15 (22, .aload_n 0, 1) rfl
theorem dX12_isWrap_23 : decode cX12_isWrap 23 = .ok (.getfield 134, 3) := dr9 dk9_dX12_isWrap_0_0.1 16 (23, .getfield 134, 3) rfl
theorem dX12_isWrap_26 : decode cX12_isWrap 26 = .ok (.iload 5, 2) := dr9 dk9_dX12_isWrap_0_0.1 17 (26, .iload 5, 2) rfl
theorem dX12_isWrap_28 : decode cX12_isWrap 28 = .ok (.iaload, 1) := dr9 dk9_dX12_isWrap_0_0.1 18 (28, .iaload, 1) rfl
theorem dX12_isWrap_29 : decode cX12_isWrap 29 = .ok (.iload 4, 2) := dr9 dk9_dX12_isWrap_0_0.1 19 (29, .iload 4, 2) rfl
theorem dX12_isWrap_31 : decode cX12_isWrap 31 = .ok (.if_icmp .ne 40, 3) := dr9 dk9_dX12_isWrap_0_0.1 20 (31, .if_icmp .ne 40, 3) rfl
theorem dX12_isWrap_34 : decode cX12_isWrap 34 = .ok (.aload_n 0, 1) := dr9 dk9_dX12_isWrap_0_0.1 21 (34, .aload_n 0, 1) rfl
theorem dX12_isWrap_35 : decode cX12_isWrap 35 = .ok (.getfield 68, 3) := dr9 dk9_dX12_isWrap_0_0.1 22 (35, .getfield 68, 3) rfl
theorem dX12_isWrap_38 : decode cX12_isWrap 38 = .ok (.bipush 24, 2) := dr9 dk9_dX12_isWrap_0_0.1 23 (38, .bipush 24, 2) rfl
theorem dX12_isWrap_40 : decode cX12_isWrap 40 = .ok (.bipush 24, 2) := dr9 dk9_dX12_isWrap_0_0.2 0 (40, .bipush 24, 2) rfl
theorem dX12_isWrap_42 : decode cX12_isWrap 42 = .ok (.aload_n 0, 1) := dr9 dk9_dX12_isWrap_0_0.2 1 (42, .aload_n 0, 1) rfl
theorem dX12_isWrap_43 : decode cX12_isWrap 43 = .ok (.getfield 286, 3) := dr9 dk9_dX12_isWrap_0_0.2 2 (43, .getfield 286, 3) rfl
theorem dX12_isWrap_46 : decode cX12_isWrap 46 = .ok (.imul, 1) := dr9 dk9_dX12_isWrap_0_0.2 3 (46, .imul, 1) rfl
theorem dX12_isWrap_47 : decode cX12_isWrap 47 = .ok (.aload_n 0, 1) := dr9 dk9_dX12_isWrap_0_0.2 4 (47, .aload_n 0, 1) rfl
theorem dX12_isWrap_48 : decode cX12_isWrap 48 = .ok (.getfield 164, 3) := dr9 dk9_dX12_isWrap_0_0.2 5 (48, .getfield 164, 3) rfl
theorem dX12_isWrap_51 : decode cX12_isWrap 51 = .ok (.iload_n 2, 1) := dr9 dk9_dX12_isWrap_0_0.2 6 (51, .iload_n 2, 1) rfl
theorem dX12_isWrap_52 : decode cX12_isWrap 52 = .ok (.iaload, 1) := dr9 dk9_dX12_isWrap_0_0.2 7 (52, .iaload, 1) rfl
theorem dX12_isWrap_53 : decode cX12_isWrap 53 = .ok (.iadd, 1) := dr9 dk9_dX12_isWrap_0_0.2 8 (53, .iadd, 1) rfl
theorem dX12_isWrap_54 : decode cX12_isWrap 54 = .ok (.imul, 1) := dr9 dk9_dX12_isWrap_0_0.2 9 (54, .imul, 1) rfl
theorem dX12_isWrap_55 : decode cX12_isWrap 55 = .ok (.aload_n 0, 1) := dr9 dk9_dX12_isWrap_0_0.2 10 (55, .aload_n 0, 1) rfl
theorem dX12_isWrap_56 : decode cX12_isWrap 56 = .ok (.getfield 125, 3) := dr9 dk9_dX12_isWrap_0_0.2 11 (56, .getfield 125, 3) rfl
theorem dX12_isWrap_59 : decode cX12_isWrap 59 = .ok (.iload 5, 2) := dr9 dk9_dX12_isWrap_0_0.2 12 (59, .iload 5, 2) rfl
theorem dX12_isWrap_61 : decode cX12_isWrap 61 = .ok (.iaload, 1) := dr9 dk9_dX12_isWrap_0_0.2 13 (61, .iaload, 1) rfl
theorem dX12_isWrap_62 : decode cX12_isWrap 62 = .ok (.iadd, 1) := dr9 dk9_dX12_isWrap_0_0.2 14 (62, .iadd, 1) rfl
theorem dX12_isWrap_63 : decode cX12_isWrap 63 = .ok (.baload, 1) := dr9 dk9_dX12_isWrap_0_0.2 15 (63, .baload, 1) rfl
theorem dX12_isWrap_64 : decode cX12_isWrap 64 = .ok (.ifCond .eq 7, 3) := dr9 dk9_dX12_isWrap_0_0.2 16 (64, .ifCond .eq 7, 3) rfl
theorem dX12_isWrap_67 : decode cX12_isWrap 67 = .ok (.iconst 1, 1) := dr9 dk9_dX12_isWrap_0_0.2 17 (67, .iconst 1, 1) rfl
theorem dX12_isWrap_68 : decode cX12_isWrap 68 = .ok (.goto 4, 3) := dr9 dk9_dX12_isWrap_0_0.2 18 (68, .goto 4, 3) rfl
theorem dk9_dX12_wrapsOf_0_0 : dOk cX12_wrapsOf [(0, .iconst 0, 1), (1, .istore 4, 2), (3, .iconst 0, 1), (4, .istore 5, 2), (6, .iload 5, 2), (8, .aload_n 0, 1), (9, .getfield 122, 3), (12, .aload_n 0, 1), (13, .getfield 286, 3), (16, .iaload, 1), (17, .if_icmp .ge 31, 3), (48, .iload 4, 2), (50, .ireturn, 1), (20, .iload 4, 2), (22, .aload_n 0, 1), (23, .iload 5, 2), (25, .iload_n 1, 1), (26, .iload_n 2, 1), (27, .iload_n 3, 1), (28, .invokevirtual 516, 3), (31, .ifCond .eq 7, 3), (38, .iconst 0, 1), (39, .iadd, 1), (40, .istore 4, 2)] = true ∧ dOk cX12_wrapsOf [(42, .iinc 5 1, 3), (45, .goto (-39), 3), (34, .iconst 1, 1), (35, .goto 4, 3)] = true := by decide +kernel
theorem dX12_wrapsOf_0 : decode cX12_wrapsOf 0 = .ok (.iconst 0, 1) := dr9 dk9_dX12_wrapsOf_0_0.1 0 (0, .iconst 0, 1) rfl
theorem dX12_wrapsOf_1 : decode cX12_wrapsOf 1 = .ok (.istore 4, 2) := dr9 dk9_dX12_wrapsOf_0_0.1 1 (1, .istore 4, 2) rfl
theorem dX12_wrapsOf_3 : decode cX12_wrapsOf 3 = .ok (.iconst 0, 1) := dr9 dk9_dX12_wrapsOf_0_0.1 2 (3, .iconst 0, 1) rfl
theorem dX12_wrapsOf_4 : decode cX12_wrapsOf 4 = .ok (.istore 5, 2) := dr9 dk9_dX12_wrapsOf_0_0.1 3 (4, .istore 5, 2) rfl
theorem dX12_wrapsOf_6 : decode cX12_wrapsOf 6 = .ok (.iload 5, 2) := dr9 dk9_dX12_wrapsOf_0_0.1 4 (6, .iload 5, 2) rfl
theorem dX12_wrapsOf_8 : decode cX12_wrapsOf 8 = .ok (.aload_n 0, 1) := dr9 dk9_dX12_wrapsOf_0_0.1 5 (8, .aload_n 0, 1) rfl
theorem dX12_wrapsOf_9 : decode cX12_wrapsOf 9 = .ok (.getfield 122, 3) := dr9 dk9_dX12_wrapsOf_0_0.1 6 (9, .getfield 122, 3) rfl
theorem dX12_wrapsOf_12 : decode cX12_wrapsOf 12 = .ok (.aload_n 0, 1) := dr9 dk9_dX12_wrapsOf_0_0.1 7 (12, .aload_n 0, 1) rfl
theorem dX12_wrapsOf_13 : decode cX12_wrapsOf 13 = .ok (.getfield 286, 3) := dr9 dk9_dX12_wrapsOf_0_0.1 8 (13, .getfield 286, 3) rfl
theorem dX12_wrapsOf_16 : decode cX12_wrapsOf 16 = .ok (.iaload, 1) := dr9 dk9_dX12_wrapsOf_0_0.1 9 (16, .iaload, 1) rfl
theorem dX12_wrapsOf_17 : decode cX12_wrapsOf 17 = .ok (.if_icmp .ge 31, 3) := dr9 dk9_dX12_wrapsOf_0_0.1 10 (17, .if_icmp .ge 31, 3) rfl
theorem dX12_wrapsOf_48 : decode cX12_wrapsOf 48 = .ok (.iload 4, 2) := dr9 dk9_dX12_wrapsOf_0_0.1 11 (48, .iload 4, 2) rfl
theorem dX12_wrapsOf_50 : decode cX12_wrapsOf 50 = .ok (.ireturn, 1) := dr9 dk9_dX12_wrapsOf_0_0.1 12 (50, .ireturn, 1) rfl
theorem dX12_wrapsOf_20 : decode cX12_wrapsOf 20 = .ok (.iload 4, 2) := dr9 dk9_dX12_wrapsOf_0_0.1 13 (20, .iload 4, 2) rfl
theorem dX12_wrapsOf_22 : decode cX12_wrapsOf 22 = .ok (.aload_n 0, 1) := dr9 dk9_dX12_wrapsOf_0_0.1 14 (22, .aload_n 0, 1) rfl
theorem dX12_wrapsOf_23 : decode cX12_wrapsOf 23 = .ok (.iload 5, 2) := dr9 dk9_dX12_wrapsOf_0_0.1 15 (23, .iload 5, 2) rfl
theorem dX12_wrapsOf_25 : decode cX12_wrapsOf 25 = .ok (.iload_n 1, 1) := dr9 dk9_dX12_wrapsOf_0_0.1 16 (25, .iload_n 1, 1) rfl
theorem dX12_wrapsOf_26 : decode cX12_wrapsOf 26 = .ok (.iload_n 2, 1) := dr9 dk9_dX12_wrapsOf_0_0.1 17 (26, .iload_n 2, 1) rfl
theorem dX12_wrapsOf_27 : decode cX12_wrapsOf 27 = .ok (.iload_n 3, 1) := dr9 dk9_dX12_wrapsOf_0_0.1 18 (27, .iload_n 3, 1) rfl
theorem dX12_wrapsOf_28 : decode cX12_wrapsOf 28 = .ok (.invokevirtual 516, 3) := dr9 dk9_dX12_wrapsOf_0_0.1 19 (28, .invokevirtual 516, 3) rfl
theorem dX12_wrapsOf_31 : decode cX12_wrapsOf 31 = .ok (.ifCond .eq 7, 3) := dr9 dk9_dX12_wrapsOf_0_0.1 20 (31, .ifCond .eq 7, 3) rfl
theorem dX12_wrapsOf_38 : decode cX12_wrapsOf 38 = .ok (.iconst 0, 1) := dr9 dk9_dX12_wrapsOf_0_0.1 21 (38, .iconst 0, 1) rfl
theorem dX12_wrapsOf_39 : decode cX12_wrapsOf 39 = .ok (.iadd, 1) := dr9 dk9_dX12_wrapsOf_0_0.1 22 (39, .iadd, 1) rfl
theorem dX12_wrapsOf_40 : decode cX12_wrapsOf 40 = .ok (.istore 4, 2) := dr9 dk9_dX12_wrapsOf_0_0.1 23 (40, .istore 4, 2) rfl
theorem dX12_wrapsOf_42 : decode cX12_wrapsOf 42 = .ok (.iinc 5 1, 3) := dr9 dk9_dX12_wrapsOf_0_0.2 0 (42, .iinc 5 1, 3) rfl
theorem dX12_wrapsOf_45 : decode cX12_wrapsOf 45 = .ok (.goto (-39), 3) := dr9 dk9_dX12_wrapsOf_0_0.2 1 (45, .goto (-39), 3) rfl
theorem dX12_wrapsOf_34 : decode cX12_wrapsOf 34 = .ok (.iconst 1, 1) := dr9 dk9_dX12_wrapsOf_0_0.2 2 (34, .iconst 1, 1) rfl
theorem dX12_wrapsOf_35 : decode cX12_wrapsOf 35 = .ok (.goto 4, 3) := dr9 dk9_dX12_wrapsOf_0_0.2 3 (35, .goto 4, 3) rfl
theorem dk9_dX12_wrapAt_0_0 : dOk cX12_wrapAt [(0, .iload_n 1, 1), (1, .istore 5, 2), (3, .iconst 0, 1), (4, .istore 6, 2), (6, .iload 6, 2), (8, .bipush 100, 2), (10, .if_icmp .ge 76, 3), (86, .iconst (-1), 1), (87, .ireturn, 1), (13, .iconst 0, 1), (14, .istore 7, 2), (16, .iload 7, 2), (18, .aload_n 0, 1), (19, .getfield 122, 3), (22, .aload_n 0, 1), (23, .getfield 286, 3), (26, .iaload, 1), (27, .if_icmp .ge 53, 3), (80, .iinc 6 1, 3), (83, .goto (-77), 3), (30, .aload_n 0, 1), (31, .iload 7, 2), (33, .iload_n 2, 1), (34, .iload_n 3, 1)] = true ∧ dOk cX12_wrapAt [(35, .iload 4, 2), (37, .invokevirtual 516, 3), (40, .ifCond .eq 34, 3), (74, .iinc 7 1, 3), (77, .goto (-61), 3), (43, .aload_n 0, 1), (44, .getfield 131, 3), (47, .bipush 12, 2), (49, .aload_n 0, 1), (50, .getfield 286, 3), (53, .imul, 1), (54, .iload 7, 2), (56, .iadd, 1), (57, .iaload, 1), (58, .iload 6, 2), (60, .if_icmp .ne 14, 3), (63, .iload 5, 2), (65, .ifCond .ne 6, 3), (71, .iinc 5 (-1), 3), (68, .iload 7, 2), (70, .ireturn, 1)] = true := by decide +kernel
theorem dX12_wrapAt_0 : decode cX12_wrapAt 0 = .ok (.iload_n 1, 1) := dr9 dk9_dX12_wrapAt_0_0.1 0 (0, .iload_n 1, 1) rfl
theorem dX12_wrapAt_1 : decode cX12_wrapAt 1 = .ok (.istore 5, 2) := dr9 dk9_dX12_wrapAt_0_0.1 1 (1, .istore 5, 2) rfl
theorem dX12_wrapAt_3 : decode cX12_wrapAt 3 = .ok (.iconst 0, 1) := dr9 dk9_dX12_wrapAt_0_0.1 2 (3, .iconst 0, 1) rfl
theorem dX12_wrapAt_4 : decode cX12_wrapAt 4 = .ok (.istore 6, 2) := dr9 dk9_dX12_wrapAt_0_0.1 3 (4, .istore 6, 2) rfl
theorem dX12_wrapAt_6 : decode cX12_wrapAt 6 = .ok (.iload 6, 2) := dr9 dk9_dX12_wrapAt_0_0.1 4 (6, .iload 6, 2) rfl
theorem dX12_wrapAt_8 : decode cX12_wrapAt 8 = .ok (.bipush 100, 2) := dr9 dk9_dX12_wrapAt_0_0.1 5 (8, .bipush 100, 2) rfl
theorem dX12_wrapAt_10 : decode cX12_wrapAt 10 = .ok (.if_icmp .ge 76, 3) := dr9 dk9_dX12_wrapAt_0_0.1 6 (10, .if_icmp .ge 76, 3) rfl
theorem dX12_wrapAt_86 : decode cX12_wrapAt 86 = .ok (.iconst (-1), 1) := dr9 dk9_dX12_wrapAt_0_0.1 7 (86, .iconst (-1), 1) rfl
theorem dX12_wrapAt_87 : decode cX12_wrapAt 87 = .ok (.ireturn, 1) := dr9 dk9_dX12_wrapAt_0_0.1 8 (87, .ireturn, 1) rfl
theorem dX12_wrapAt_13 : decode cX12_wrapAt 13 = .ok (.iconst 0, 1) := dr9 dk9_dX12_wrapAt_0_0.1 9 (13, .iconst 0, 1) rfl
theorem dX12_wrapAt_14 : decode cX12_wrapAt 14 = .ok (.istore 7, 2) := dr9 dk9_dX12_wrapAt_0_0.1 10 (14, .istore 7, 2) rfl
theorem dX12_wrapAt_16 : decode cX12_wrapAt 16 = .ok (.iload 7, 2) := dr9 dk9_dX12_wrapAt_0_0.1 11 (16, .iload 7, 2) rfl
theorem dX12_wrapAt_18 : decode cX12_wrapAt 18 = .ok (.aload_n 0, 1) := dr9 dk9_dX12_wrapAt_0_0.1 12 (18, .aload_n 0, 1) rfl
theorem dX12_wrapAt_19 : decode cX12_wrapAt 19 = .ok (.getfield 122, 3) := dr9 dk9_dX12_wrapAt_0_0.1 13 (19, .getfield 122, 3) rfl
theorem dX12_wrapAt_22 : decode cX12_wrapAt 22 = .ok (.aload_n 0, 1) := dr9 dk9_dX12_wrapAt_0_0.1 14 (22, .aload_n 0, 1) rfl
theorem dX12_wrapAt_23 : decode cX12_wrapAt 23 = .ok (.getfield 286, 3) := dr9 dk9_dX12_wrapAt_0_0.1 15 (23, .getfield 286, 3) rfl
theorem dX12_wrapAt_26 : decode cX12_wrapAt 26 = .ok (.iaload, 1) := dr9 dk9_dX12_wrapAt_0_0.1 16 (26, .iaload, 1) rfl
theorem dX12_wrapAt_27 : decode cX12_wrapAt 27 = .ok (.if_icmp .ge 53, 3) := dr9 dk9_dX12_wrapAt_0_0.1 17 (27, .if_icmp .ge 53, 3) rfl
theorem dX12_wrapAt_80 : decode cX12_wrapAt 80 = .ok (.iinc 6 1, 3) := dr9 dk9_dX12_wrapAt_0_0.1 18 (80, .iinc 6 1, 3) rfl
theorem dX12_wrapAt_83 : decode cX12_wrapAt 83 = .ok (.goto (-77), 3) := dr9 dk9_dX12_wrapAt_0_0.1 19 (83, .goto (-77), 3) rfl
theorem dX12_wrapAt_30 : decode cX12_wrapAt 30 = .ok (.aload_n 0, 1) := dr9 dk9_dX12_wrapAt_0_0.1 20 (30, .aload_n 0, 1) rfl
theorem dX12_wrapAt_31 : decode cX12_wrapAt 31 = .ok (.iload 7, 2) := dr9 dk9_dX12_wrapAt_0_0.1 21 (31, .iload 7, 2) rfl
theorem dX12_wrapAt_33 : decode cX12_wrapAt 33 = .ok (.iload_n 2, 1) := dr9 dk9_dX12_wrapAt_0_0.1 22 (33, .iload_n 2, 1) rfl
theorem dX12_wrapAt_34 : decode cX12_wrapAt 34 = .ok (.iload_n 3, 1) := dr9 dk9_dX12_wrapAt_0_0.1 23 (34, .iload_n 3, 1) rfl
theorem dX12_wrapAt_35 : decode cX12_wrapAt 35 = .ok (.iload 4, 2) := dr9 dk9_dX12_wrapAt_0_0.2 0 (35, .iload 4, 2) rfl
theorem dX12_wrapAt_37 : decode cX12_wrapAt 37 = .ok (.invokevirtual 516, 3) := dr9 dk9_dX12_wrapAt_0_0.2 1 (37, .invokevirtual 516, 3) rfl
theorem dX12_wrapAt_40 : decode cX12_wrapAt 40 = .ok (.ifCond .eq 34, 3) := dr9 dk9_dX12_wrapAt_0_0.2 2 (40, .ifCond .eq 34, 3) rfl
theorem dX12_wrapAt_74 : decode cX12_wrapAt 74 = .ok (.iinc 7 1, 3) := dr9 dk9_dX12_wrapAt_0_0.2 3 (74, .iinc 7 1, 3) rfl
theorem dX12_wrapAt_77 : decode cX12_wrapAt 77 = .ok (.goto (-61), 3) := dr9 dk9_dX12_wrapAt_0_0.2 4 (77, .goto (-61), 3) rfl
theorem dX12_wrapAt_43 : decode cX12_wrapAt 43 = .ok (.aload_n 0, 1) := dr9 dk9_dX12_wrapAt_0_0.2 5 (43, .aload_n 0, 1) rfl
theorem dX12_wrapAt_44 : decode cX12_wrapAt 44 = .ok (.getfield 131, 3) := dr9 dk9_dX12_wrapAt_0_0.2 6 (44, .getfield 131, 3) rfl
theorem dX12_wrapAt_47 : decode cX12_wrapAt 47 = .ok (.bipush 12, 2) := dr9 dk9_dX12_wrapAt_0_0.2 7 (47, .bipush 12, 2) rfl
theorem dX12_wrapAt_49 : decode cX12_wrapAt 49 = .ok (.aload_n 0, 1) := dr9 dk9_dX12_wrapAt_0_0.2 8 (49, .aload_n 0, 1) rfl
theorem dX12_wrapAt_50 : decode cX12_wrapAt 50 = .ok (.getfield 286, 3) := dr9 dk9_dX12_wrapAt_0_0.2 9 (50, .getfield 286, 3) rfl
theorem dX12_wrapAt_53 : decode cX12_wrapAt 53 = .ok (.imul, 1) := dr9 dk9_dX12_wrapAt_0_0.2 10 (53, .imul, 1) rfl
theorem dX12_wrapAt_54 : decode cX12_wrapAt 54 = .ok (.iload 7, 2) := dr9 dk9_dX12_wrapAt_0_0.2 11 (54, .iload 7, 2) rfl
theorem dX12_wrapAt_56 : decode cX12_wrapAt 56 = .ok (.iadd, 1) := dr9 dk9_dX12_wrapAt_0_0.2 12 (56, .iadd, 1) rfl
theorem dX12_wrapAt_57 : decode cX12_wrapAt 57 = .ok (.iaload, 1) := dr9 dk9_dX12_wrapAt_0_0.2 13 (57, .iaload, 1) rfl
theorem dX12_wrapAt_58 : decode cX12_wrapAt 58 = .ok (.iload 6, 2) := dr9 dk9_dX12_wrapAt_0_0.2 14 (58, .iload 6, 2) rfl
theorem dX12_wrapAt_60 : decode cX12_wrapAt 60 = .ok (.if_icmp .ne 14, 3) := dr9 dk9_dX12_wrapAt_0_0.2 15 (60, .if_icmp .ne 14, 3) rfl
theorem dX12_wrapAt_63 : decode cX12_wrapAt 63 = .ok (.iload 5, 2) := dr9 dk9_dX12_wrapAt_0_0.2 16 (63, .iload 5, 2) rfl
theorem dX12_wrapAt_65 : decode cX12_wrapAt 65 = .ok (.ifCond .ne 6, 3) := dr9 dk9_dX12_wrapAt_0_0.2 17 (65, .ifCond .ne 6, 3) rfl
theorem dX12_wrapAt_71 : decode cX12_wrapAt 71 = .ok (.iinc 5 (-1), 3) := dr9 dk9_dX12_wrapAt_0_0.2 18 (71, .iinc 5 (-1), 3) rfl
theorem dX12_wrapAt_68 : decode cX12_wrapAt 68 = .ok (.iload 7, 2) := dr9 dk9_dX12_wrapAt_0_0.2 19 (68, .iload 7, 2) rfl
theorem dX12_wrapAt_70 : decode cX12_wrapAt 70 = .ok (.ireturn, 1) := dr9 dk9_dX12_wrapAt_0_0.2 20 (70, .ireturn, 1) rfl
abbrev r_s_step2 : Room := { frames := 0, cells := 0, slots := 0, locals := 0 }
abbrev q_s_step2 (D : va_G) (ks : KS) (ad : Nat → Nat) (kk : Nat → ClassId) (V : Vf) (L : Lf) (A : Nat → Prop) : Array Value → State → Outcome → State → Prop := va_Qi (fun (r : Int32) (u : Vf × Lf) => rgd bM u.1 ∧ agr [(0, 68), (0, 69)] [] V u.1 ∧ u.2 = L ∧ (0 ≤ r.toInt ∧ r.toInt ≤ 1) ∧ (Imp (r.toInt = 1) ((u.1 0 69).toInt = (V 0 69).toInt + 1 ∧ (u.1 0 68).toInt = (V 0 68).toInt + 1)) ∧ (Imp (r.toInt = 0) ((u.1 0 69).toInt = (V 0 69).toInt ∧ (u.1 0 68).toInt = (V 0 68).toInt))) (fun u t => gq D A (mw ad kk ks.1 u.1 u.2) (mty kk) t) A
abbrev r_s_fails2 : Room := { frames := 0, cells := 0, slots := 0, locals := 0 }
abbrev q_s_fails2 (D : va_G) (ks : KS) (ad : Nat → Nat) (kk : Nat → ClassId) (V : Vf) (L : Lf) (p0 : Int32) (A : Nat → Prop) : Array Value → State → Outcome → State → Prop := va_Qi (fun (r : Int32) (u : Vf × Lf) => rgd bM u.1 ∧ agr [(0, 90), (0, 91)] [] V u.1 ∧ u.2 = L ∧ (1 ≤ r.toInt ∧ r.toInt ≤ 1)) (fun u t => gq D A (mw ad kk ks.1 u.1 u.2) (mty kk) t) A
abbrev r_s_push2 : Room := { frames := 0, cells := 0, slots := 0, locals := 0 }
abbrev q_s_push2 (D : va_G) (ks : KS) (ad : Nat → Nat) (kk : Nat → ClassId) (V : Vf) (L : Lf) (p0 : Int32) (A : Nat → Prop) : Array Value → State → Outcome → State → Prop := va_Qv (fun (u : Vf × Lf) => rgd bM u.1 ∧ agr [(0, 98)] [97] V u.1 ∧ u.2 = L ∧ ((u.1 0 98).toInt = (V 0 98).toInt + 1)) (fun u t => gq D A (mw ad kk ks.1 u.1 u.2) (mty kk) t) A
abbrev r_s_pop2 : Room := { frames := 0, cells := 0, slots := 0, locals := 0 }
abbrev q_s_pop2 (D : va_G) (ks : KS) (ad : Nat → Nat) (kk : Nat → ClassId) (V : Vf) (L : Lf) (A : Nat → Prop) : Array Value → State → Outcome → State → Prop := va_Qi (fun (r : Int32) (u : Vf × Lf) => rgd bM u.1 ∧ agr [(0, 98)] [] V u.1 ∧ u.2 = L ∧ ((u.1 0 98).toInt = (V 0 98).toInt - 1)) (fun u t => gq D A (mw ad kk ks.1 u.1 u.2) (mty kk) t) A
abbrev r_s_notes2 : Room := { frames := 0, cells := 0, slots := 0, locals := 0 }
abbrev q_s_notes2 (D : va_G) (ks : KS) (ad : Nat → Nat) (kk : Nat → ClassId) (V : Vf) (L : Lf) (p0 : Int32) (p1 : Int32) (p2 : Int32) (A : Nat → Prop) : Array Value → State → Outcome → State → Prop := va_Qv (fun (u : Vf × Lf) => rgd bM u.1 ∧ agr [(0, 76)] [77, 78, 79] V u.1 ∧ u.2 = L ∧ ((u.1 0 76).toInt = (V 0 76).toInt + 1)) (fun u t => gq D A (mw ad kk ks.1 u.1 u.2) (mty kk) t) A
set_option maxHeartbeats 4000000 in
set_option maxRecDepth 100000 in
theorem s_notes2 (l : Launch) (D : va_G) (ks : KS) (sz : Nat) (ad : Nat → Nat) (kk : Nat → ClassId) (V : Vf) (L : Lf) (p0 : Int32) (p1 : Int32) (p2 : Int32) (hMV : rgd bM V) (y1 : (V 0 76).toInt ≤ 1999999999)  : Met l yX12_notes (Cond.code yX12_notes cX12_notes 4 none :: GW) r_s_notes2 (va_Pc [.ref (ad 0), .int p0, .int p1, .int p2] (gp D ks (mw ad kk ks.1 V L) (mty kk) sz)) (q_s_notes2 D ks ad kk V L p0 p1 p2 (va_A (mw ad kk ks.1 V L) sz)) 0 0 (va_A (mw ad kk ks.1 V L) sz) := by
  refine g_met (q_s_notes2 D ks ad kk V L p0 p1 p2) (by decide) (Nat.le_of_ble_eq_true rfl) ?_
  intro p e s m below meth c A ls H locs hx hb hr hml hown hg hlocks hin hnw hgk hP hK hD hS hA hl
  have hown : s.vm.findClass RX12 = some m.cls := hown
  have hl : lv_has ls 4 [(0, .ref (ad 0)), (1, .int p0), (2, .int p1), (3, .int p2)] := hl
  have hP : va_P D vwCl (mw ad kk ks.1 V L) H := hP
  have hD : va_D A (mw ad kk ks.1 V L) := hD
  have hK : va_K D vwCl (mty kk) s := hK
  have agV : agr [(0, 76)] [77, 78, 79] V V := agr.rf
  have r1 : 0 ≤ ((V 0 76)).toInt ∧ ((V 0 76)).toInt ≤ 2000000000 := hMV 0 76
  refine lv_aload_n hx hb dX12_notes_0 rfl (lv_at hl 0 rfl) ?_
  refine va_get (D := D) (ci := 12) (v := .int (V 0 76)) (C := RX12) (T := TX12) (N := 100) hx hb hg inX12 hown hK hP 0 rfl rfl 76 (by decide) (hg _ w1782) (fun _ h9 => h9) rfl dX12_notes_1 ?_
  refine lv_bipush (v := 100) hx hb dX12_notes_4 (by decide) ?_
  have J2 : ∀ (V3 : Vf) (H : Heap) (locs : List Loc) (ls : Array Slot), agr [] [77, 78, 79] V V3 → rgd bM V3 → va_P D vwCl (mw ad kk ks.1 V3 L) H → va_D A (mw ad kk ks.1 V3 L) → va_S A s.heap H locs → lv_has ls 4 [(0, .ref (ad 0)), (1, .int p0), (2, .int p1), (3, .int p2)] → W p l e r_s_notes2 s m ([.ref (ad 0), .int p0, .int p1, .int p2] : List Value).toArray below meth c H locs 0 0 (MQ below (q_s_notes2 D ks ad kk V L p0 p1 p2 A) ([.ref (ad 0), .int p0, .int p1, .int p2] : List Value).toArray s 0 0 A) (F0 m 39 ls []) := by
    intro V3 H locs ls ajV3 hMV3 hP hD hS hl
    have agV3 : agr [(0, 76)] [77, 78, 79] V V3 := agV.tr ajV3 (by decide) (by decide)
    refine lv_aload_n hx hb dX12_notes_39 rfl (lv_at hl 0 rfl) ?_
    refine lv_dup hx hb dX12_notes_40 rfl ?_
    refine va_get (D := D) (ci := 12) (v := .int (V3 0 76)) (C := RX12) (T := TX12) (N := 100) hx hb hg inX12 hown hK hP 0 rfl rfl 76 (by decide) (hg _ w1782) (fun _ h9 => h9) rfl dX12_notes_41 ?_
    refine g_top (v := (V 0 76)) (ajV3 0 76 rfl) ?_
    refine lv_iconst (v := 1) hx hb dX12_notes_44 (by decide) ?_
    refine lv_iadd hx hb dX12_notes_45 ?_
    refine lv_topi (fun z4 ez4 => ?_)
    have hz4 : z4.toInt = ((V 0 76)).toInt + 1 := i_add ez4 rfl (by decide) (by (first | exact om_7a636f26a41c y1 r1.1 | omega))
    refine va_put (D := D) (ci := 12) (v := .int z4) (ty := tyX12 76) (C := RX12) (T := TX12) (N := 100) hx hb hg inX12 tyX12 tyX12_ok nmX12 hown hK hP hD hS 0 rfl rfl 76 (by decide) (hg _ w1782) (fun _ h9 => h9) rfl (tyX12_ok 76 (by decide)) rfl rfl (Nat.le_of_ble_eq_true rfl) dX12_notes_46 (fun H locs hP hD hS => ?_)
    obtain ⟨V5, hV5⟩ : ∃ z, z = up2 V3 0 76 z4 := ⟨_, rfl⟩
    have hP : va_P D vwCl (mw ad kk ks.1 V5 L) H := by rw [hV5]; exact hP
    have hD : va_D A (mw ad kk ks.1 V5 L) := by rw [hV5]; exact hD
    have hMV5 : rgd bM V5 := hMV3.put hV5 (show 0 ≤ z4.toInt ∧ z4.toInt ≤ 2000000000 from by (first | exact om_baf450322de8 y1 r1.1 hz4 | omega))
    have agV5 : agr [(0, 76)] [77, 78, 79] V V5 := agV3.up hV5 rfl
    have pq6 : (V5 0 76).toInt = z4.toInt := congrArg Int32.toInt (up2_s hV5)
    exact W.vret hx hb hr (fun t ht hW => ⟨⟨(V5, L), rfl, ⟨hMV5, agV5, rfl, (show (V5 0 76).toInt = (V 0 76).toInt + 1 from by (first | exact om_689eeacb6d53 hz4 pq6 | omega))⟩, by rw [ht]; exact hP, va_K.moved hW.alike hK, hD⟩, hS.F ht⟩) hS.2.2 dX12_notes_49
  refine lv_icmp_ge (tgt := 39) hx hb dX12_notes_6 (by decide) (fun c7 => ?_) (fun c7 => ?_)
  · skip
    have f8 : 100 ≤ ((V 0 76)).toInt := b_le (by decide) rfl c7
    exact J2 V H locs ls agr.rf hMV hP hD hS (lv_sub hl [0, 1, 2, 3] rfl)
  · skip
    have f9 : ((V 0 76)).toInt < 100 := b_nle (by decide) rfl c7
    refine lv_aload_n hx hb dX12_notes_9 rfl (lv_at hl 0 rfl) ?_
    refine va_get (D := D) (ci := 12) (v := .ref (ad 77)) (C := RX12) (T := TX12) (N := 100) hx hb hg inX12 hown hK hP 0 rfl rfl 77 (by decide) (hg _ w1783) (fun _ h9 => h9) rfl dX12_notes_10 ?_
    refine lv_aload_n hx hb dX12_notes_13 rfl (lv_at hl 0 rfl) ?_
    refine va_get (D := D) (ci := 12) (v := .int (V 0 76)) (C := RX12) (T := TX12) (N := 100) hx hb hg inX12 hown hK hP 0 rfl rfl 76 (by decide) (hg _ w1782) (fun _ h9 => h9) rfl dX12_notes_14 ?_
    refine lv_iload_n hx hb dX12_notes_17 rfl (lv_at hl 1 rfl) ?_
    refine va_iast (D := D) (i := (V 0 76)) (x := p0) hx hb hK hP hD hS 54 53 rfl rfl (i_in (a := ((V 0 76)).toInt) rfl (by (first | exact om_84fa328245f5 r1.1 f9 | omega))) dX12_notes_18 (fun H locs hP hD hS => ?_)
    obtain ⟨V10, hV10⟩ : ∃ z, z = up2 V 77 (Int32.toNatClampNeg (V 0 76)) p0 := ⟨_, rfl⟩
    have hP : va_P D vwCl (mw ad kk ks.1 V10 L) H := by rw [hV10]; exact hP
    have hD : va_D A (mw ad kk ks.1 V10 L) := by rw [hV10]; exact hD
    have hMV10 : rgd bM V10 := hMV.put hV10 (i_full _)
    have agV10 : agr [(0, 76)] [77, 78, 79] V V10 := agV.up hV10 rfl
    refine lv_aload_n hx hb dX12_notes_19 rfl (lv_at hl 0 rfl) ?_
    refine va_get (D := D) (ci := 12) (v := .ref (ad 78)) (C := RX12) (T := TX12) (N := 100) hx hb hg inX12 hown hK hP 0 rfl rfl 78 (by decide) (hg _ w1784) (fun _ h9 => h9) rfl dX12_notes_20 ?_
    refine lv_aload_n hx hb dX12_notes_23 rfl (lv_at hl 0 rfl) ?_
    refine va_get (D := D) (ci := 12) (v := .int (V10 0 76)) (C := RX12) (T := TX12) (N := 100) hx hb hg inX12 hown hK hP 0 rfl rfl 76 (by decide) (hg _ w1782) (fun _ h9 => h9) rfl dX12_notes_24 ?_
    refine g_top (v := (V 0 76)) (up2_o hV10 (by decide)) ?_
    refine lv_iload_n hx hb dX12_notes_27 rfl (lv_at hl 2 rfl) ?_
    refine va_iast (D := D) (i := (V 0 76)) (x := p1) hx hb hK hP hD hS 55 54 rfl rfl (i_in (a := ((V 0 76)).toInt) rfl (by (first | exact om_84fa328245f5 r1.1 f9 | omega))) dX12_notes_28 (fun H locs hP hD hS => ?_)
    obtain ⟨V11, hV11⟩ : ∃ z, z = up2 V10 78 (Int32.toNatClampNeg (V 0 76)) p1 := ⟨_, rfl⟩
    have hP : va_P D vwCl (mw ad kk ks.1 V11 L) H := by rw [hV11]; exact hP
    have hD : va_D A (mw ad kk ks.1 V11 L) := by rw [hV11]; exact hD
    have hMV11 : rgd bM V11 := hMV10.put hV11 (i_full _)
    have agV11 : agr [(0, 76)] [77, 78, 79] V V11 := agV10.up hV11 rfl
    refine lv_aload_n hx hb dX12_notes_29 rfl (lv_at hl 0 rfl) ?_
    refine va_get (D := D) (ci := 12) (v := .ref (ad 79)) (C := RX12) (T := TX12) (N := 100) hx hb hg inX12 hown hK hP 0 rfl rfl 79 (by decide) (hg _ w1785) (fun _ h9 => h9) rfl dX12_notes_30 ?_
    refine lv_aload_n hx hb dX12_notes_33 rfl (lv_at hl 0 rfl) ?_
    refine va_get (D := D) (ci := 12) (v := .int (V11 0 76)) (C := RX12) (T := TX12) (N := 100) hx hb hg inX12 hown hK hP 0 rfl rfl 76 (by decide) (hg _ w1782) (fun _ h9 => h9) rfl dX12_notes_34 ?_
    refine g_top (v := (V 0 76)) ((up2_o hV11 (by decide)).trans (up2_o hV10 (by decide))) ?_
    refine lv_iload_n hx hb dX12_notes_37 rfl (lv_at hl 3 rfl) ?_
    refine va_iast (D := D) (i := (V 0 76)) (x := p2) hx hb hK hP hD hS 56 55 rfl rfl (i_in (a := ((V 0 76)).toInt) rfl (by (first | exact om_84fa328245f5 r1.1 f9 | omega))) dX12_notes_38 (fun H locs hP hD hS => ?_)
    obtain ⟨V12, hV12⟩ : ∃ z, z = up2 V11 79 (Int32.toNatClampNeg (V 0 76)) p2 := ⟨_, rfl⟩
    have hP : va_P D vwCl (mw ad kk ks.1 V12 L) H := by rw [hV12]; exact hP
    have hD : va_D A (mw ad kk ks.1 V12 L) := by rw [hV12]; exact hD
    have hMV12 : rgd bM V12 := hMV11.put hV12 (i_full _)
    have agV12 : agr [(0, 76)] [77, 78, 79] V V12 := agV11.up hV12 rfl
    exact J2 V12 H locs ls (agr.up (agr.up (agr.up agr.rf hV10 rfl) hV11 rfl) hV12 rfl) hMV12 hP hD hS (lv_sub hl [0, 1, 2, 3] rfl)
abbrev r_s_reckons2 : Room := { frames := 1, cells := 0, slots := 0, locals := 21 }
abbrev q_s_reckons2 (D : va_G) (ks : KS) (ad : Nat → Nat) (kk : Nat → ClassId) (V : Vf) (L : Lf) (p0 : Int32) (p1 : Int32) (A : Nat → Prop) : Array Value → State → Outcome → State → Prop := va_Qi (fun (r : Int32) (u : Vf × Lf) => rgd bM u.1 ∧ agr [(0, 68), (0, 69), (0, 90), (0, 91), (0, 98)] [97] V u.1 ∧ u.2 = L ∧ (0 ≤ r.toInt ∧ r.toInt ≤ 2) ∧ (Imp (p0.toInt = 1) ((u.1 0 98).toInt = (V 0 98).toInt ∧ ((r.toInt = 0 ∧ (u.1 0 69).toInt = (V 0 69).toInt + 1 ∧ (u.1 0 68).toInt = (V 0 68).toInt + 1) ∨ (r.toInt = 2 ∧ (u.1 0 69).toInt = (V 0 69).toInt ∧ (u.1 0 68).toInt = (V 0 68).toInt)))) ∧ (Imp (p0.toInt = 10) (r.toInt = 1 ∧ (u.1 0 98).toInt = (V 0 98).toInt)) ∧ (Imp (p0.toInt = 2 ∨ p0.toInt = 11) (r.toInt = 0 ∧ (u.1 0 98).toInt = (V 0 98).toInt + 1)) ∧ (Imp (p0.toInt = 4) (r.toInt = 0 ∧ (u.1 0 98).toInt = (V 0 98).toInt)) ∧ (Imp (5 ≤ p0.toInt ∧ p0.toInt ≤ 9) (r.toInt = 0 ∧ (u.1 0 98).toInt = (V 0 98).toInt - 1)) ∧ (Imp (p0.toInt ≠ 1) ((u.1 0 69).toInt = (V 0 69).toInt ∧ (u.1 0 68).toInt = (V 0 68).toInt))) (fun u t => gq D A (mw ad kk ks.1 u.1 u.2) (mty kk) t) A
abbrev r_s_isWrap2 : Room := { frames := 0, cells := 0, slots := 0, locals := 0 }
abbrev q_s_isWrap2 (D : va_G) (ks : KS) (ad : Nat → Nat) (kk : Nat → ClassId) (V : Vf) (L : Lf) (p0 : Int32) (p1 : Int32) (p2 : Int32) (p3 : Int32) (A : Nat → Prop) : Array Value → State → Outcome → State → Prop := va_Qi (fun (r : Int32) (_ : Unit) => (0 ≤ r.toInt ∧ r.toInt ≤ 1) ∧ (Imp (r.toInt = 1) (isWb V p1 p2 p3 (Int32.toNatClampNeg p0) = true)) ∧ (Imp (r.toInt = 0) (isWb V p1 p2 p3 (Int32.toNatClampNeg p0) = false))) (fun _ t => gq D A (mw ad kk ks.1 V L) (mty kk) t) A
set_option maxHeartbeats 4000000 in
set_option maxRecDepth 100000 in
theorem s_isWrap2 (l : Launch) (D : va_G) (ks : KS) (sz : Nat) (ad : Nat → Nat) (kk : Nat → ClassId) (V : Vf) (L : Lf) (p0 : Int32) (p1 : Int32) (p2 : Int32) (p3 : Int32) (hMV : rgd bM V) (rg_p0 : 0 ≤ p0.toInt ∧ p0.toInt ≤ 11) (rg_p1 : 0 ≤ p1.toInt ∧ p1.toInt ≤ 299) (wt : 0 ≤ (V 40 (12 * nwh V + Int32.toNatClampNeg p0)).toInt)  : Met l yX12_isWrap (Cond.code yX12_isWrap cX12_isWrap 6 (some .boolean) :: GW) r_s_isWrap2 (va_Pc [.ref (ad 0), .int p0, .int p1, .int p2, .int p3] (gp D ks (mw ad kk ks.1 V L) (mty kk) sz)) (q_s_isWrap2 D ks ad kk V L p0 p1 p2 p3 (va_A (mw ad kk ks.1 V L) sz)) 0 0 (va_A (mw ad kk ks.1 V L) sz) := by
  refine g_met (q_s_isWrap2 D ks ad kk V L p0 p1 p2 p3) (by decide) (Nat.le_of_ble_eq_true rfl) ?_
  intro p e s m below meth c A ls H locs hx hb hr hml hown hg hlocks hin hnw hgk hP hK hD hS hA hl
  have hown : s.vm.findClass RX12 = some m.cls := hown
  have hl : lv_has ls 6 [(0, .ref (ad 0)), (1, .int p0), (2, .int p1), (3, .int p2), (4, .int p3)] := hl
  have hP : va_P D vwCl (mw ad kk ks.1 V L) H := hP
  have hD : va_D A (mw ad kk ks.1 V L) := hD
  have hK : va_K D vwCl (mty kk) s := hK
  refine lv_bipush (v := 12) hx hb dX12_isWrap_0 (by decide) ?_
  refine lv_aload_n hx hb dX12_isWrap_2 rfl (lv_at hl 0 rfl) ?_
  refine va_get (D := D) (ci := 12) (v := .int (V 0 11)) (C := RX12) (T := TX12) (N := 100) hx hb hg inX12 hown hK hP 0 rfl rfl 11 (by decide) (hg _ w1717) (fun _ h9 => h9) rfl dX12_isWrap_3 ?_
  have r1 : 0 ≤ ((V 0 11)).toInt ∧ ((V 0 11)).toInt ≤ 1 := hMV 0 11
  refine lv_imul hx hb dX12_isWrap_6 ?_
  refine lv_topi (fun z2 ez2 => ?_)
  have hz2 : z2.toInt = 12 * ((V 0 11)).toInt := i_mul ez2 (by decide) rfl (by (first | exact om_630bd6ee60c3 r1.1 r1.2 | omega))
  refine lv_iload_n hx hb dX12_isWrap_7 rfl (lv_at hl 1 rfl) ?_
  refine lv_iadd hx hb dX12_isWrap_8 ?_
  refine lv_topi (fun z3 ez3 => ?_)
  have hz3 : z3.toInt = z2.toInt + p0.toInt := i_add ez3 rfl rfl (by (first | exact om_cd8bcbd39e48 rg_p0.1 rg_p0.2 r1.1 r1.2 hz2 | omega))
  refine lv_istore (lv' := [(5, .int z3), (0, .ref (ad 0)), (1, .int p0), (2, .int p1), (3, .int p2), (4, .int p3)]) hx hb dX12_isWrap_9 hl (by decide) rfl (fun ls hl => ?_)
  have kn_ : (nwh V : Int) = (V 0 11).toInt := i_clamp (x := V 0 11) rfl (by (first | exact om_eafa9039069c r1.1 | omega))
  have k0_ := i_clamp (x := p0) rfl (by (first | exact om_eafa9039069c rg_p0.1 | omega))
  have wt2 : 0 ≤ (V 40 (Int32.toNatClampNeg z3)).toInt := by have k5 : Int32.toNatClampNeg z3 = 12 * nwh V + Int32.toNatClampNeg p0 := (by have h9 := i_clamp (x := z3) rfl (by (first | exact om_7ea21d029263 rg_p0.1 r1.1 hz2 hz3 | omega)); omega); rw [k5]; exact wt
  refine lv_aload_n hx hb dX12_isWrap_11 rfl (lv_at hl 1 rfl) ?_
  refine va_get (D := D) (ci := 12) (v := .ref (ad 41)) (C := RX12) (T := TX12) (N := 100) hx hb hg inX12 hown hK hP 0 rfl rfl 41 (by decide) (hg _ w1747) (fun _ h9 => h9) rfl dX12_isWrap_12 ?_
  refine lv_iload hx hb dX12_isWrap_15 (lv_at hl 0 rfl) ?_
  refine va_iald (D := D) (i := z3) hx hb hK hP 34 33 rfl rfl (i_in (a := z3.toInt) rfl (by first | exact om_6f504b73971b rg_p0.1 rg_p0.2 r1.1 r1.2 hz2 hz3 | first | omega | ((try (have i_wt := Imp.go wt (by omega))); omega))) dX12_isWrap_17 ?_
  refine lv_iload_n hx hb dX12_isWrap_18 rfl (lv_at hl 4 rfl) ?_
  refine lv_icmp_ne (tgt := 71) hx hb dX12_isWrap_19 (by decide) (fun c4 => ?_) (fun c4 => ?_)
  · skip
    have f5 : ((V 41 (Int32.toNatClampNeg z3))).toInt ≠ p2.toInt := b_neq rfl rfl c4
    refine lv_iconst (v := 0) hx hb dX12_isWrap_71 (by decide) ?_
    have kn : (nwh V : Int) = (V 0 11).toInt := i_clamp (x := V 0 11) rfl (by (first | exact om_eafa9039069c r1.1 | omega))
    have k0 := i_clamp (x := p0) rfl (by (first | exact om_eafa9039069c rg_p0.1 | omega))
    have k5 : Int32.toNatClampNeg z3 = 12 * nwh V + Int32.toNatClampNeg p0 := by have h9 := i_clamp (x := z3) rfl (by (first | exact om_7ea21d029263 rg_p0.1 r1.1 hz2 hz3 | omega)); (first | exact om_4106d378e013 hz2 hz3 kn_ k0_ kn k0 h9 | omega)
    have q40 : V 40 (12 * nwh V + Int32.toNatClampNeg p0) = V 40 (Int32.toNatClampNeg z3) := by rw [k5]
    have q41 : V 41 (12 * nwh V + Int32.toNatClampNeg p0) = V 41 (Int32.toNatClampNeg z3) := by rw [k5]
    have q43 : V 43 (12 * nwh V + Int32.toNatClampNeg p0) = V 43 (Int32.toNatClampNeg z3) := by rw [k5]
    exact W.zret (v := 0) hx hb hr rfl (fun t ht hW => ⟨⟨0, (), rfl, ⟨(by decide), (Imp.mk (fun hp => absurd hp (by decide))), (Imp.mk (fun _ => decide_eq_false (fun h => by have h9 := h.1; rw [q41] at h9; have h8 := congrArg Int32.toInt h9; omega)))⟩, by rw [ht]; exact hP, va_K.moved hW.alike hK, hD⟩, hS.F ht⟩) hS.2.2 dX12_isWrap_72
  · skip
    have f6 : ((V 41 (Int32.toNatClampNeg z3))).toInt = p2.toInt := b_eq rfl rfl c4
    refine lv_aload_n hx hb dX12_isWrap_22 rfl (lv_at hl 1 rfl) ?_
    refine va_get (D := D) (ci := 12) (v := .ref (ad 43)) (C := RX12) (T := TX12) (N := 100) hx hb hg inX12 hown hK hP 0 rfl rfl 43 (by decide) (hg _ w1749) (fun _ h9 => h9) rfl dX12_isWrap_23 ?_
    refine lv_iload hx hb dX12_isWrap_26 (lv_at hl 0 rfl) ?_
    refine va_iald (D := D) (i := z3) hx hb hK hP 36 35 rfl rfl (i_in (a := z3.toInt) rfl (by first | exact om_6f504b73971b rg_p0.1 rg_p0.2 r1.1 r1.2 hz2 hz3 | first | omega | ((try (have i_wt := Imp.go wt (by omega))); omega))) dX12_isWrap_28 ?_
    have r7 : 0 ≤ ((V 43 (Int32.toNatClampNeg z3))).toInt ∧ ((V 43 (Int32.toNatClampNeg z3))).toInt ≤ 3 := hMV 43 (Int32.toNatClampNeg z3)
    refine lv_iload hx hb dX12_isWrap_29 (lv_at hl 5 rfl) ?_
    refine lv_icmp_ne (tgt := 71) hx hb dX12_isWrap_31 (by decide) (fun c8 => ?_) (fun c8 => ?_)
    · skip
      have f9 : ((V 43 (Int32.toNatClampNeg z3))).toInt ≠ p3.toInt := b_neq rfl rfl c8
      refine lv_iconst (v := 0) hx hb dX12_isWrap_71 (by decide) ?_
      have kn : (nwh V : Int) = (V 0 11).toInt := i_clamp (x := V 0 11) rfl (by (first | exact om_eafa9039069c r1.1 | omega))
      have k0 := i_clamp (x := p0) rfl (by (first | exact om_eafa9039069c rg_p0.1 | omega))
      have k5 : Int32.toNatClampNeg z3 = 12 * nwh V + Int32.toNatClampNeg p0 := by have h9 := i_clamp (x := z3) rfl (by (first | exact om_65569660ecb2 rg_p0.1 hz2 hz3 kn_ | omega)); (first | exact om_4106d378e013 hz2 hz3 kn_ k0_ kn k0 h9 | omega)
      have q40 : V 40 (12 * nwh V + Int32.toNatClampNeg p0) = V 40 (Int32.toNatClampNeg z3) := by rw [k5]
      have q41 : V 41 (12 * nwh V + Int32.toNatClampNeg p0) = V 41 (Int32.toNatClampNeg z3) := by rw [k5]
      have q43 : V 43 (12 * nwh V + Int32.toNatClampNeg p0) = V 43 (Int32.toNatClampNeg z3) := by rw [k5]
      exact W.zret (v := 0) hx hb hr rfl (fun t ht hW => ⟨⟨0, (), rfl, ⟨(by decide), (Imp.mk (fun hp => absurd hp (by decide))), (Imp.mk (fun _ => decide_eq_false (fun h => by have h9 := h.2.1; rw [q43] at h9; have h8 := congrArg Int32.toInt h9; omega)))⟩, by rw [ht]; exact hP, va_K.moved hW.alike hK, hD⟩, hS.F ht⟩) hS.2.2 dX12_isWrap_72
    · skip
      have f10 : ((V 43 (Int32.toNatClampNeg z3))).toInt = p3.toInt := b_eq rfl rfl c8
      refine lv_aload_n hx hb dX12_isWrap_34 rfl (lv_at hl 1 rfl) ?_
      refine va_get (D := D) (ci := 12) (v := .ref (ad 21)) (C := RX12) (T := TX12) (N := 100) hx hb hg inX12 hown hK hP 0 rfl rfl 21 (by decide) (hg _ w1727) (fun _ h9 => h9) rfl dX12_isWrap_35 ?_
      refine lv_bipush (v := 24) hx hb dX12_isWrap_38 (by decide) ?_
      refine lv_bipush (v := 24) hx hb dX12_isWrap_40 (by decide) ?_
      refine lv_aload_n hx hb dX12_isWrap_42 rfl (lv_at hl 1 rfl) ?_
      refine va_get (D := D) (ci := 12) (v := .int (V 0 11)) (C := RX12) (T := TX12) (N := 100) hx hb hg inX12 hown hK hP 0 rfl rfl 11 (by decide) (hg _ w1717) (fun _ h9 => h9) rfl dX12_isWrap_43 ?_
      refine lv_imul hx hb dX12_isWrap_46 ?_
      refine lv_topi (fun z11 ez11 => ?_)
      have hz11 : z11.toInt = 24 * ((V 0 11)).toInt := i_mul ez11 (by decide) rfl (by (first | exact om_3f8aba7b6ce1 r1.1 r1.2 | omega))
      refine lv_aload_n hx hb dX12_isWrap_47 rfl (lv_at hl 1 rfl) ?_
      refine va_get (D := D) (ci := 12) (v := .ref (ad 61)) (C := RX12) (T := TX12) (N := 100) hx hb hg inX12 hown hK hP 0 rfl rfl 61 (by decide) (hg _ w1767) (fun _ h9 => h9) rfl dX12_isWrap_48 ?_
      refine lv_iload_n hx hb dX12_isWrap_51 rfl (lv_at hl 3 rfl) ?_
      refine va_iald (D := D) (i := p1) hx hb hK hP 46 45 rfl rfl (i_in (a := p1.toInt) rfl (by first | exact om_375eda9ff8f1 rg_p1.1 rg_p1.2 | first | omega | ((try (have i_wt := Imp.go wt (by omega))); omega))) dX12_isWrap_52 ?_
      have r12 : 0 ≤ ((V 61 (Int32.toNatClampNeg p1))).toInt ∧ ((V 61 (Int32.toNatClampNeg p1))).toInt ≤ 23 := hMV 61 (Int32.toNatClampNeg p1)
      refine lv_iadd hx hb dX12_isWrap_53 ?_
      refine lv_topi (fun z13 ez13 => ?_)
      have hz13 : z13.toInt = z11.toInt + ((V 61 (Int32.toNatClampNeg p1))).toInt := i_add ez13 rfl rfl (by (first | exact om_2303d3558cdc r1.1 r1.2 hz11 r12.1 r12.2 | omega))
      refine lv_imul hx hb dX12_isWrap_54 ?_
      refine lv_topi (fun z14 ez14 => ?_)
      have hz14 : z14.toInt = 24 * z13.toInt := i_mul ez14 (by decide) rfl (by (first | exact om_8487347ce0c4 r1.1 r1.2 hz11 r12.1 r12.2 hz13 | omega))
      refine lv_aload_n hx hb dX12_isWrap_55 rfl (lv_at hl 1 rfl) ?_
      refine va_get (D := D) (ci := 12) (v := .ref (ad 40)) (C := RX12) (T := TX12) (N := 100) hx hb hg inX12 hown hK hP 0 rfl rfl 40 (by decide) (hg _ w1746) (fun _ h9 => h9) rfl dX12_isWrap_56 ?_
      refine lv_iload hx hb dX12_isWrap_59 (lv_at hl 0 rfl) ?_
      refine va_iald (D := D) (i := z3) hx hb hK hP 33 32 rfl rfl (i_in (a := z3.toInt) rfl (by first | exact om_6f504b73971b rg_p0.1 rg_p0.2 r1.1 r1.2 hz2 hz3 | first | omega | ((try (have i_wt := Imp.go wt (by omega))); omega))) dX12_isWrap_61 ?_
      have r15 : (-1) ≤ ((V 40 (Int32.toNatClampNeg z3))).toInt ∧ ((V 40 (Int32.toNatClampNeg z3))).toInt ≤ 23 := hMV 40 (Int32.toNatClampNeg z3)
      refine lv_iadd hx hb dX12_isWrap_62 ?_
      refine lv_topi (fun z16 ez16 => ?_)
      have hz16 : z16.toInt = z14.toInt + ((V 40 (Int32.toNatClampNeg z3))).toInt := i_add ez16 rfl rfl (by (first | exact om_db97e3e93e0e r1.1 r1.2 wt2 hz11 r12.1 r12.2 hz13 hz14 r15.2 | omega))
      refine va_zald (D := D) (i := z16) hx hb hK hP 14 13 rfl rfl (i_in (a := z16.toInt) rfl (by first | exact om_62f383528da6 r1.1 r1.2 wt2 hz11 r12.1 r12.2 hz13 hz14 r15.2 hz16 | first | omega | ((try (have i_wt := Imp.go wt (by omega))); omega))) dX12_isWrap_63 ?_
      have r17 : 0 ≤ ((V 21 (Int32.toNatClampNeg z16))).toInt ∧ ((V 21 (Int32.toNatClampNeg z16))).toInt ≤ 1 := hMV 21 (Int32.toNatClampNeg z16)
      refine lv_if_eq (tgt := 71) hx hb dX12_isWrap_64 (by decide) (fun c18 => ?_) (fun c18 => ?_)
      · skip
        have f19 : ((V 21 (Int32.toNatClampNeg z16))).toInt = 0 := b_eq rfl (by decide) c18
        refine lv_iconst (v := 0) hx hb dX12_isWrap_71 (by decide) ?_
        have kn : (nwh V : Int) = (V 0 11).toInt := i_clamp (x := V 0 11) rfl (by (first | exact om_eafa9039069c r1.1 | omega))
        have k0 := i_clamp (x := p0) rfl (by (first | exact om_eafa9039069c rg_p0.1 | omega))
        have k5 : Int32.toNatClampNeg z3 = 12 * nwh V + Int32.toNatClampNeg p0 := by have h9 := i_clamp (x := z3) rfl (by (first | exact om_65569660ecb2 rg_p0.1 hz2 hz3 kn_ | omega)); (first | exact om_4106d378e013 hz2 hz3 kn_ k0_ kn k0 h9 | omega)
        have q40 : V 40 (12 * nwh V + Int32.toNatClampNeg p0) = V 40 (Int32.toNatClampNeg z3) := by rw [k5]
        have q41 : V 41 (12 * nwh V + Int32.toNatClampNeg p0) = V 41 (Int32.toNatClampNeg z3) := by rw [k5]
        have q43 : V 43 (12 * nwh V + Int32.toNatClampNeg p0) = V 43 (Int32.toNatClampNeg z3) := by rw [k5]
        have r40 := congrArg Int32.toInt q40
        have r61 : 0 ≤ (V 61 (Int32.toNatClampNeg p1)).toInt ∧ (V 61 (Int32.toNatClampNeg p1)).toInt ≤ 23 := hMV 61 _
        have kx : Int32.toNatClampNeg z16 = 24 * (24 * nwh V + (V 61 (Int32.toNatClampNeg p1)).toInt.toNat) + (V 40 (12 * nwh V + Int32.toNatClampNeg p0)).toInt.toNat := by have h9 := i_clamp (x := z16) rfl (by (first | exact om_7e5b18790823 kn_ wt2 hz11 r12.1 hz13 hz14 hz16 | omega)); omega
        have q21 : (V 21 (24 * (24 * nwh V + (V 61 (Int32.toNatClampNeg p1)).toInt.toNat) + (V 40 (12 * nwh V + Int32.toNatClampNeg p0)).toInt.toNat)).toInt = (V 21 (Int32.toNatClampNeg z16)).toInt := by rw [kx]
        exact W.zret (v := 0) hx hb hr rfl (fun t ht hW => ⟨⟨0, (), rfl, ⟨(by decide), (Imp.mk (fun hp => absurd hp (by decide))), (Imp.mk (fun _ => decide_eq_false (fun h => by have h9 := h.2.2; omega)))⟩, by rw [ht]; exact hP, va_K.moved hW.alike hK, hD⟩, hS.F ht⟩) hS.2.2 dX12_isWrap_72
      · skip
        have f20 : ((V 21 (Int32.toNatClampNeg z16))).toInt ≠ 0 := b_neq rfl (by decide) c18
        refine lv_iconst (v := 1) hx hb dX12_isWrap_67 (by decide) ?_
        refine lv_goto (tgt := 72) hx hb dX12_isWrap_68 (by decide) ?_
        have kn : (nwh V : Int) = (V 0 11).toInt := i_clamp (x := V 0 11) rfl (by (first | exact om_eafa9039069c r1.1 | omega))
        have k0 := i_clamp (x := p0) rfl (by (first | exact om_eafa9039069c rg_p0.1 | omega))
        have k5 : Int32.toNatClampNeg z3 = 12 * nwh V + Int32.toNatClampNeg p0 := by have h9 := i_clamp (x := z3) rfl (by (first | exact om_65569660ecb2 rg_p0.1 hz2 hz3 kn_ | omega)); (first | exact om_4106d378e013 hz2 hz3 kn_ k0_ kn k0 h9 | omega)
        have q40 : V 40 (12 * nwh V + Int32.toNatClampNeg p0) = V 40 (Int32.toNatClampNeg z3) := by rw [k5]
        have q41 : V 41 (12 * nwh V + Int32.toNatClampNeg p0) = V 41 (Int32.toNatClampNeg z3) := by rw [k5]
        have q43 : V 43 (12 * nwh V + Int32.toNatClampNeg p0) = V 43 (Int32.toNatClampNeg z3) := by rw [k5]
        have r40 := congrArg Int32.toInt q40
        have r61 : 0 ≤ (V 61 (Int32.toNatClampNeg p1)).toInt ∧ (V 61 (Int32.toNatClampNeg p1)).toInt ≤ 23 := hMV 61 _
        have kx : Int32.toNatClampNeg z16 = 24 * (24 * nwh V + (V 61 (Int32.toNatClampNeg p1)).toInt.toNat) + (V 40 (12 * nwh V + Int32.toNatClampNeg p0)).toInt.toNat := by have h9 := i_clamp (x := z16) rfl (by (first | exact om_7e5b18790823 kn_ wt2 hz11 r12.1 hz13 hz14 hz16 | omega)); omega
        have q21 : (V 21 (24 * (24 * nwh V + (V 61 (Int32.toNatClampNeg p1)).toInt.toNat) + (V 40 (12 * nwh V + Int32.toNatClampNeg p0)).toInt.toNat)).toInt = (V 21 (Int32.toNatClampNeg z16)).toInt := by rw [kx]
        exact W.zret (v := 1) hx hb hr rfl (fun t ht hW => ⟨⟨1, (), rfl, ⟨(by decide), (Imp.mk (fun _ => decide_eq_true ⟨by rw [q41]; exact Int32.toInt_inj.mp (by omega), by rw [q43]; exact Int32.toInt_inj.mp (by omega), by omega⟩)), (Imp.mk (fun hp => absurd hp (by decide)))⟩, by rw [ht]; exact hP, va_K.moved hW.alike hK, hD⟩, hS.F ht⟩) hS.2.2 dX12_isWrap_72
abbrev r_s_wrapsOf2 : Room := { frames := 1, cells := 0, slots := 0, locals := 25 }
abbrev q_s_wrapsOf2 (D : va_G) (ks : KS) (ad : Nat → Nat) (kk : Nat → ClassId) (V : Vf) (L : Lf) (p0 : Int32) (p1 : Int32) (p2 : Int32) (A : Nat → Prop) : Array Value → State → Outcome → State → Prop := va_Qi (fun (r : Int32) (_ : Unit) => (0 ≤ r.toInt ∧ r.toInt ≤ 12) ∧ (r.toInt = ((wcn (isWb V p0 p1 p2) (wmany V) : Nat) : Int))) (fun _ t => gq D A (mw ad kk ks.1 V L) (mty kk) t) A
set_option maxHeartbeats 4000000 in
set_option maxRecDepth 100000 in
theorem s_wrapsOf2 (l : Launch) (D : va_G) (ks : KS) (sz : Nat) (ad : Nat → Nat) (kk : Nat → ClassId) (V : Vf) (L : Lf) (p0 : Int32) (p1 : Int32) (p2 : Int32) (hMV : rgd bM V) (rg_p0 : 0 ≤ p0.toInt ∧ p0.toInt ≤ 299) (tb : TB V)  : Met l yX12_wrapsOf (Cond.code yX12_wrapsOf cX12_wrapsOf 6 (some .int) :: GW) r_s_wrapsOf2 (va_Pc [.ref (ad 0), .int p0, .int p1, .int p2] (gp D ks (mw ad kk ks.1 V L) (mty kk) sz)) (q_s_wrapsOf2 D ks ad kk V L p0 p1 p2 (va_A (mw ad kk ks.1 V L) sz)) 0 0 (va_A (mw ad kk ks.1 V L) sz) := by
  refine g_met (q_s_wrapsOf2 D ks ad kk V L p0 p1 p2) (by decide) (Nat.le_of_ble_eq_true rfl) ?_
  intro p e s m below meth c A ls H locs hx hb hr hml hown hg hlocks hin hnw hgk hP hK hD hS hA hl
  have hown : s.vm.findClass RX12 = some m.cls := hown
  have hl : lv_has ls 6 [(0, .ref (ad 0)), (1, .int p0), (2, .int p1), (3, .int p2)] := hl
  have hP : va_P D vwCl (mw ad kk ks.1 V L) H := hP
  have hD : va_D A (mw ad kk ks.1 V L) := hD
  have hK : va_K D vwCl (mty kk) s := hK
  have r39h : 0 ≤ (V 39 (Int32.toNatClampNeg (V 0 11))).toInt ∧ (V 39 (Int32.toNatClampNeg (V 0 11))).toInt ≤ 12 := hMV 39 _
  refine lv_iconst (v := 0) hx hb dX12_wrapsOf_0 (by decide) ?_
  refine lv_istore (lv' := [(4, .int 0), (0, .ref (ad 0)), (1, .int p0), (2, .int p1), (3, .int p2)]) hx hb dX12_wrapsOf_1 hl (by decide) rfl (fun ls hl => ?_)
  refine lv_iconst (v := 0) hx hb dX12_wrapsOf_3 (by decide) ?_
  refine lv_istore (lv' := [(5, .int 0), (4, .int 0), (0, .ref (ad 0)), (1, .int p0), (2, .int p1), (3, .int p2)]) hx hb dX12_wrapsOf_4 hl (by decide) rfl (fun ls hl => ?_)
  have lp3 : ∀ (fulp3 : Nat) (y1 : Int32) (y2 : Int32) (H : Heap) (locs : List Loc) (ls : Array Slot), 0 ≤ y1.toInt ∧ y1.toInt ≤ 12 → 0 ≤ y2.toInt ∧ y2.toInt ≤ 12 → y2.toInt ≤ y1.toInt → y1.toInt ≤ (V 39 (Int32.toNatClampNeg (V 0 11))).toInt → y2.toInt = ((wcn (isWb V p0 p1 p2) (Int32.toNatClampNeg y1) : Nat) : Int) → 12 - y1.toInt < (fulp3 : Int) → va_P D vwCl (mw ad kk ks.1 V L) H → va_D A (mw ad kk ks.1 V L) → va_S A s.heap H locs → lv_has ls 6 [(5, .int y1), (4, .int y2), (0, .ref (ad 0)), (1, .int p0), (2, .int p1), (3, .int p2)] → W p l e r_s_wrapsOf2 s m ([.ref (ad 0), .int p0, .int p1, .int p2] : List Value).toArray below meth c H locs 0 0 (MQ below (q_s_wrapsOf2 D ks ad kk V L p0 p1 p2 A) ([.ref (ad 0), .int p0, .int p1, .int p2] : List Value).toArray s 0 0 A) (F0 m 6 ls []) := by
    intro fulp3
    induction fulp3 with
    | zero =>
      intro y1 y2 H locs ls klp3_0 klp3_1 xlp3_0 xlp3_1 xlp3_2 hn  hP hD hS hl
      exfalso; (first | exact om_b9de4c342026 klp3_0.2 hn | omega)
    | succ fulp3 ihlp3 =>
      intro y1 y2 H locs ls klp3_0 klp3_1 xlp3_0 xlp3_1 xlp3_2 hn  hP hD hS hl
      refine lv_iload hx hb dX12_wrapsOf_6 (lv_at hl 0 rfl) ?_
      refine lv_aload_n hx hb dX12_wrapsOf_8 rfl (lv_at hl 2 rfl) ?_
      refine va_get (D := D) (ci := 12) (v := .ref (ad 39)) (C := RX12) (T := TX12) (N := 100) hx hb hg inX12 hown hK hP 0 rfl rfl 39 (by decide) (hg _ w1745) (fun _ h9 => h9) rfl dX12_wrapsOf_9 ?_
      refine lv_aload_n hx hb dX12_wrapsOf_12 rfl (lv_at hl 2 rfl) ?_
      refine va_get (D := D) (ci := 12) (v := .int (V 0 11)) (C := RX12) (T := TX12) (N := 100) hx hb hg inX12 hown hK hP 0 rfl rfl 11 (by decide) (hg _ w1717) (fun _ h9 => h9) rfl dX12_wrapsOf_13 ?_
      have r4 : 0 ≤ ((V 0 11)).toInt ∧ ((V 0 11)).toInt ≤ 1 := hMV 0 11
      refine va_iald (D := D) (i := (V 0 11)) hx hb hK hP 32 31 rfl rfl (i_in (a := ((V 0 11)).toInt) rfl (by first | exact om_8367a84723c7 r4.1 r4.2 | first | omega | ((try (have i_tb := Imp.go tb (by omega))); omega))) dX12_wrapsOf_16 ?_
      have r5 : 0 ≤ ((V 39 (Int32.toNatClampNeg (V 0 11)))).toInt ∧ ((V 39 (Int32.toNatClampNeg (V 0 11)))).toInt ≤ 12 := hMV 39 (Int32.toNatClampNeg (V 0 11))
      refine lv_icmp_ge (tgt := 48) hx hb dX12_wrapsOf_17 (by decide) (fun c6 => ?_) (fun c6 => ?_)
      · skip
        have f7 : ((V 39 (Int32.toNatClampNeg (V 0 11)))).toInt ≤ y1.toInt := b_le rfl rfl c6
        refine lv_iload hx hb dX12_wrapsOf_48 (lv_at hl 1 rfl) ?_
        have kc5 := i_clamp (x := y1) rfl (by (first | exact om_eafa9039069c klp3_0.1 | omega))
        have r39 : 0 ≤ (V 39 (nwh V)).toInt := (hMV 39 _).1
        have e39 : (V 39 (nwh V)).toInt = (V 39 (Int32.toNatClampNeg (V 0 11))).toInt := rfl
        have kw : wmany V = Int32.toNatClampNeg y1 := by unfold wmany; omega
        exact W.iret (v := y2) hx hb hr (fun t ht hW => ⟨⟨y2, (), rfl, ⟨(show 0 ≤ y2.toInt ∧ y2.toInt ≤ 12 from by first | exact om_a66a4f3d1604 klp3_0.2 klp3_1.1 xlp3_0 | first | omega | ((try (have i_tb := Imp.go tb (by omega))); omega)), (by rw [kw]; exact xlp3_2)⟩, by rw [ht]; exact hP, va_K.moved hW.alike hK, hD⟩, hS.F ht⟩) hS.2.2 dX12_wrapsOf_50
      · skip
        have f8 : y1.toInt < ((V 39 (Int32.toNatClampNeg (V 0 11)))).toInt := b_nle rfl rfl c6
        refine lv_iload hx hb dX12_wrapsOf_20 (lv_at hl 1 rfl) ?_
        refine lv_aload_n hx hb dX12_wrapsOf_22 rfl (lv_at hl 2 rfl) ?_
        refine lv_iload hx hb dX12_wrapsOf_23 (lv_at hl 0 rfl) ?_
        refine lv_iload_n hx hb dX12_wrapsOf_25 rfl (lv_at hl 3 rfl) ?_
        refine lv_iload_n hx hb dX12_wrapsOf_26 rfl (lv_at hl 4 rfl) ?_
        refine lv_iload_n hx hb dX12_wrapsOf_27 rfl (lv_at hl 5 rfl) ?_
        have kw9 := i_clamp (x := y1) rfl (by (first | exact om_12cf676bc652 klp3_1.1 xlp3_0 | omega))
        have e39 : (V 39 (nwh V)).toInt = (V 39 (Int32.toNatClampNeg (V 0 11))).toInt := rfl
        refine gA_int (gA_runV (As := [.int y1, .int p0, .int p1, .int p2]) (rest := [.int y2]) (ci := 12) (q0 := 0) hx hb hml hown hg hP hD hK hS hA hnw hgk (s_isWrap2 l D ks H.size ad kk V L y1 p0 p1 p2 hMV (by first | exact om_1ad90c7041d3 r39h.2 klp3_0.1 f8 | first | omega | ((try (have i_tb := Imp.go tb (by omega))); omega)) (by first | exact om_cb67e99158ac rg_p0.1 rg_p0.2 | first | omega | ((try (have i_tb := Imp.go tb (by omega))); omega)) ((show TBL V (nwh V) _ from tb).2 (Int32.toNatClampNeg y1) (by omega)).2.2) w2288 w2290 w141 w172 w2291 rfl rfl hdV_yX12_isWrap ⟨Nat.le_of_ble_eq_true rfl, Nat.le_of_ble_eq_true rfl⟩ rfl hl.1 rfl (Nat.le_of_ble_eq_true rfl) dX12_wrapsOf_28 ⟨Nat.le_of_ble_eq_true rfl, Nat.le_of_ble_eq_true rfl⟩) hP hD hK hS hA (fun z10 u11 H locs w12 hP hD hK hS => ?_)
        obtain ⟨rgz10, t13, t14⟩ := w12
        have rgz10 : 0 ≤ z10.toInt ∧ z10.toInt ≤ 1 := rgz10
        have t13 : Imp (z10.toInt = 1) (isWb V p0 p1 p2 (Int32.toNatClampNeg y1) = true) := t13
        have t14 : Imp (z10.toInt = 0) (isWb V p0 p1 p2 (Int32.toNatClampNeg y1) = false) := t14
        refine lv_if_eq (tgt := 38) hx hb dX12_wrapsOf_31 (by decide) (fun c15 => ?_) (fun c15 => ?_)
        · skip
          have f16 : z10.toInt = 0 := b_eq rfl (by decide) c15
          refine lv_iconst (v := 0) hx hb dX12_wrapsOf_38 (by decide) ?_
          refine lv_iadd hx hb dX12_wrapsOf_39 ?_
          refine lv_topi (fun z17 ez17 => ?_)
          have hz17 : z17.toInt = y2.toInt + 0 := i_add ez17 rfl (by decide) (by (first | exact om_051d4a9b5095 r39h.2 klp3_1.1 xlp3_0 f8 | omega))
          refine lv_istore (lv' := [(4, .int z17), (5, .int y1), (0, .ref (ad 0)), (1, .int p0), (2, .int p1), (3, .int p2)]) hx hb dX12_wrapsOf_40 hl (by decide) rfl (fun ls hl => ?_)
          obtain ⟨z18, ez18⟩ : ∃ y : Int32, y = y1 + 1 := ⟨_, rfl⟩
          have hz18 : z18.toInt = y1.toInt + 1 := i_add ez18 rfl (by decide) (by (first | exact om_18aaedfb7f0e r39h.2 klp3_0.1 f8 | omega))
          refine lv_iinc (v := z18) (lv' := [(5, .int z18), (4, .int z17), (0, .ref (ad 0)), (1, .int p0), (2, .int p1), (3, .int p2)]) hx hb dX12_wrapsOf_42 hl (k := 1) rfl (by rw [ez18]; rfl) (by decide) rfl (fun ls hl => ?_)
          refine lv_goto (tgt := 6) hx hb dX12_wrapsOf_45 (by decide) ?_
          have kc5 := i_clamp (x := y1) rfl (by (first | exact om_eafa9039069c klp3_0.1 | omega))
          have kc6 : Int32.toNatClampNeg z18 = Int32.toNatClampNeg y1 + 1 := by have h9 := i_clamp (x := z18) rfl (by (first | exact om_1a8c13602466 kw9 hz18 | omega)); (first | exact om_53eba9d5f07d kw9 hz18 kc5 h9 | omega)
          have ws := wcn_s (isWb V p0 p1 p2) (Int32.toNatClampNeg y1)
          rw [if_neg (by rw [Imp.go t14 (by (first | exact om_b1799fcf2d63 rgz10.1 f16 | omega))]; decide)] at ws
          exact ihlp3 z18 z17 H locs ls (by first | exact om_5c55627118e7 r39h.2 f8 kw9 hz18 | first | omega | ((try (have i_tb := Imp.go tb (by omega))); omega)) (by first | exact om_10e36f4137c8 r39h.2 klp3_1.1 xlp3_0 f8 hz17 | first | omega | ((try (have i_tb := Imp.go tb (by omega))); omega)) (show z17.toInt ≤ z18.toInt from by first | exact om_ccfa9b02440b xlp3_0 hz17 hz18 | first | omega | ((try (have i_tb := Imp.go tb (by omega))); omega)) (show z18.toInt ≤ (V 39 (Int32.toNatClampNeg (V 0 11))).toInt from by first | exact om_7fe9249fc074 f8 hz18 | first | omega | ((try (have i_tb := Imp.go tb (by omega))); omega)) (by rw [kc6, ws]; omega) (by first | exact om_95514e7aa9e9 hn hz18 | first | omega | ((try (have i_tb := Imp.go tb (by omega))); omega)) hP hD hS (lv_sub hl [0, 1, 2, 3, 4, 5] rfl)
        · skip
          have f19 : z10.toInt ≠ 0 := b_neq rfl (by decide) c15
          refine lv_iconst (v := 1) hx hb dX12_wrapsOf_34 (by decide) ?_
          refine lv_goto (tgt := 39) hx hb dX12_wrapsOf_35 (by decide) ?_
          refine lv_iadd hx hb dX12_wrapsOf_39 ?_
          refine lv_topi (fun z20 ez20 => ?_)
          have hz20 : z20.toInt = y2.toInt + 1 := i_add ez20 rfl (by decide) (by (first | exact om_047f8a1f1ea5 r39h.2 klp3_1.1 xlp3_0 f8 | omega))
          refine lv_istore (lv' := [(4, .int z20), (5, .int y1), (0, .ref (ad 0)), (1, .int p0), (2, .int p1), (3, .int p2)]) hx hb dX12_wrapsOf_40 hl (by decide) rfl (fun ls hl => ?_)
          obtain ⟨z21, ez21⟩ : ∃ y : Int32, y = y1 + 1 := ⟨_, rfl⟩
          have hz21 : z21.toInt = y1.toInt + 1 := i_add ez21 rfl (by decide) (by (first | exact om_18aaedfb7f0e r39h.2 klp3_0.1 f8 | omega))
          refine lv_iinc (v := z21) (lv' := [(5, .int z21), (4, .int z20), (0, .ref (ad 0)), (1, .int p0), (2, .int p1), (3, .int p2)]) hx hb dX12_wrapsOf_42 hl (k := 1) rfl (by rw [ez21]; rfl) (by decide) rfl (fun ls hl => ?_)
          refine lv_goto (tgt := 6) hx hb dX12_wrapsOf_45 (by decide) ?_
          have kc5 := i_clamp (x := y1) rfl (by (first | exact om_eafa9039069c klp3_0.1 | omega))
          have kc6 : Int32.toNatClampNeg z21 = Int32.toNatClampNeg y1 + 1 := by have h9 := i_clamp (x := z21) rfl (by (first | exact om_1a8c13602466 kw9 hz21 | omega)); (first | exact om_53eba9d5f07d kw9 hz21 kc5 h9 | omega)
          have ws := wcn_s (isWb V p0 p1 p2) (Int32.toNatClampNeg y1)
          rw [if_pos (Imp.go t13 (by (first | exact om_2ebe32d50835 rgz10.1 rgz10.2 f19 | omega)))] at ws
          exact ihlp3 z21 z20 H locs ls (by first | exact om_5c55627118e7 r39h.2 f8 kw9 hz21 | first | omega | ((try (have i_tb := Imp.go tb (by omega))); omega)) (by first | exact om_33e1ed8d0efb r39h.2 klp3_1.1 xlp3_0 f8 hz20 | first | omega | ((try (have i_tb := Imp.go tb (by omega))); omega)) (show z20.toInt ≤ z21.toInt from by first | exact om_953ed16b636a xlp3_0 hz20 hz21 | first | omega | ((try (have i_tb := Imp.go tb (by omega))); omega)) (show z21.toInt ≤ (V 39 (Int32.toNatClampNeg (V 0 11))).toInt from by first | exact om_7fe9249fc074 f8 hz21 | first | omega | ((try (have i_tb := Imp.go tb (by omega))); omega)) (by rw [kc6, ws]; omega) (by first | exact om_95514e7aa9e9 hn hz21 | first | omega | ((try (have i_tb := Imp.go tb (by omega))); omega)) hP hD hS (lv_sub hl [0, 1, 2, 3, 4, 5] rfl)
  have r22 : Int32.toInt 0 = 0 := by decide
  exact lp3 ((12 - (Int32.toInt 0) + 1 : Int).toNat) 0 0 H locs ls (by decide) (by decide) (show (Int32.toInt 0) ≤ (Int32.toInt 0) from by first | exact om_5977f3d8a10f | first | omega | ((try (have i_tb := Imp.go tb (by omega))); omega)) (show (Int32.toInt 0) ≤ (V 39 (Int32.toNatClampNeg (V 0 11))).toInt from by first | exact om_6f9bb8cf3bec r39h.1 r22 | first | omega | ((try (have i_tb := Imp.go tb (by omega))); omega)) (show (Int32.toInt 0) = ((wcn (isWb V p0 p1 p2) (Int32.toNatClampNeg 0) : Nat) : Int) from rfl) (by first | exact om_10cc180fa1f4 | first | omega | ((try (have i_tb := Imp.go tb (by omega))); omega)) hP hD hS (lv_sub hl [0, 1, 2, 3, 4, 5] rfl)
abbrev r_s_wrapAt2 : Room := { frames := 1, cells := 0, slots := 0, locals := 25 }
abbrev q_s_wrapAt2 (D : va_G) (ks : KS) (ad : Nat → Nat) (kk : Nat → ClassId) (V : Vf) (L : Lf) (p0 : Int32) (p1 : Int32) (p2 : Int32) (p3 : Int32) (A : Nat → Prop) : Array Value → State → Outcome → State → Prop := va_Qi (fun (r : Int32) (_ : Unit) => ((-1) ≤ r.toInt ∧ r.toInt ≤ 11) ∧ (Imp (0 ≤ r.toInt) (r.toInt < (V 39 (nwh V)).toInt ∧ isWb V p1 p2 p3 (Int32.toNatClampNeg r) = true ∧ p0.toInt < ((wcn (isWb V p1 p2 p3) (wmany V) : Nat) : Int))) ∧ (Imp (r.toInt = -1) (((wcn (isWb V p1 p2 p3) (wmany V) : Nat) : Int) ≤ p0.toInt))) (fun _ t => gq D A (mw ad kk ks.1 V L) (mty kk) t) A
end
section
/-! what a call keeps (RT), and what it leaves of what was there (FRM; e: the object whose joins are being laid, or none) -/
abbrev rK2 (F L : Nat) : Room := { frames := F, cells := 0, slots := 0, locals := L }
def RT (V : Vf) : Prop := TB V ∧ (th V (cd0 V) ∨ ∀ c j : Nat, th V c → ¬ ndL V c j) ∧ (∀ o : Nat, (o : Int) < (V 0 60).toInt → th V (Int32.toNatClampNeg (V 61 o))) ∧ (∀ o k i : Nat, (o : Int) < (V 0 60).toInt → k < 8 → (i : Int) < (V 66 (8 * o + k)).toInt → (V 67 (24 * (8 * o + k) + i)).toInt < (V 0 60).toInt) ∧ (∀ i : Nat, (i : Int) < (V 0 95).toInt → (V 94 i).toInt < (V 0 60).toInt ∧ 1 ≤ (V 63 (Int32.toNatClampNeg (V 94 i))).toInt)
def FRM (V W : Vf) (e : Int) : Prop := (V 0 60).toInt ≤ (W 0 60).toInt ∧ (∀ o : Nat, (o : Int) < (V 0 60).toInt → W 61 o = V 61 o ∧ W 62 o = V 62 o ∧ ((V 63 o).toInt = 0 → (W 63 o).toInt = 0) ∧ (1 ≤ (V 63 o).toInt → (V 63 o).toInt ≤ (W 63 o).toInt)) ∧ (∀ o k : Nat, (o : Int) < (V 0 60).toInt → (o : Int) ≠ e → k < 8 → (V 29 (8 * (24 * nwh V + Int32.toNatClampNeg (V 61 o)) + k)).toInt ≠ 1 → W 66 (8 * o + k) = V 66 (8 * o + k)) ∧ (∀ i : Nat, (i : Int) < (V 0 95).toInt → W 94 i = V 94 i)
/-- none of the cells of what is made was written -/
def rtC (fs : List (Nat × Nat)) (cs : List Nat) : Prop := thC fs cs ∧ (∀ y ∈ fs, y.1 = 0) ∧ (∀ y ∈ cs, trk y = false) ∧ wrL fs cs 0 60 = false ∧ wrL fs cs 0 95 = false ∧ (∀ k, wrL fs cs 61 k = false) ∧ (∀ k, wrL fs cs 62 k = false) ∧ (∀ k, wrL fs cs 63 k = false) ∧ (∀ k, wrL fs cs 66 k = false) ∧ (∀ k, wrL fs cs 67 k = false) ∧ (∀ k, wrL fs cs 94 k = false)
theorem RT.ag {fs : List (Nat × Nat)} {cs : List Nat} {V W : Vf} (h : RT V) (hM : rgd bM V) (a : agr fs cs V W) (q : rtC fs cs) (c0 : c0k V W) : RT W := by
  obtain ⟨q1, q2, q3, q60, q95, q61, q62, q63, q66, q67, q94⟩ := q
  refine ⟨TB.ag h.1 hM a q1.1 q2 q3, RD_st h.2.1 a q1 c0, ?_, ?_, ?_⟩
  · intro o ho
    rw [a 0 60 q60] at ho
    rw [a _ _ (q61 o)]
    exact (h.2.2.1 o ho).ag a q1
  · intro o k i ho hk hi
    rw [a 0 60 q60] at ho ⊢
    rw [a _ _ (q66 _)] at hi
    rw [a _ _ (q67 _)]
    exact h.2.2.2.1 o k i ho hk hi
  · intro i hi
    rw [a 0 95 q95] at hi
    rw [a _ _ (q94 i), a 0 60 q60, a _ _ (q63 _)]
    exact h.2.2.2.2 i hi
theorem FRM.rf {V : Vf} {e : Int} : FRM V V e := ⟨Int.le_refl _, fun _ _ => ⟨rfl, rfl, id, fun _ => Int.le_refl _⟩, fun _ _ _ _ _ _ => rfl, fun _ _ => rfl⟩
theorem FRM.ag {fs : List (Nat × Nat)} {cs : List Nat} {V W : Vf} {e : Int} (a : agr fs cs V W) (q : rtC fs cs) : FRM V W e := by
  obtain ⟨q1, q2, q3, q60, q95, q61, q62, q63, q66, q67, q94⟩ := q
  refine ⟨by rw [a 0 60 q60]; exact Int.le_refl _, fun o _ => ⟨a _ _ (q61 o), a _ _ (q62 o), fun h => by rw [a _ _ (q63 o)]; exact h, fun h => by rw [a _ _ (q63 o)]; exact Int.le_refl _⟩, fun o k _ _ _ _ => a _ _ (q66 _), fun i _ => a _ _ (q94 i)⟩
theorem FRM.tr {fs : List (Nat × Nat)} {cs : List Nat} {V W X : Vf} {e : Int} (h1 : FRM V W e) (h2 : FRM W X e) (a : agr fs cs V W) (q : thC fs cs) (hf : (V 0 95).toInt ≤ (W 0 95).toInt) : FRM V X e := by
  have en : nwh W = nwh V := by unfold nwh; rw [a 0 11 q.1]
  refine ⟨Int.le_trans h1.1 h2.1, fun o ho => ?_, fun o k ho he hk hl => ?_, fun i hi => ?_⟩
  · have b1 := h1.2.1 o ho
    have b2 := h2.2.1 o (by have := h1.1; omega)
    refine ⟨b2.1.trans b1.1, b2.2.1.trans b1.2.1, fun h => b2.2.2.1 (b1.2.2.1 h), fun h => ?_⟩
    have c1 := b1.2.2.2 h
    have c2 := b2.2.2.2 (by omega)
    omega
  · have b1 := h1.2.2.1 o k ho he hk hl
    have b2 := h2.2.2.1 o k (by have := h1.1; omega) he hk (by rw [en, (h1.2.1 o ho).1, a _ _ (q.2.2.2.2.2.2 _)]; exact hl)
    exact b2.trans b1
  · exact (h2.2.2.2 i (by omega)).trans (h1.2.2.2 i hi)
theorem FRM.weak {V W : Vf} {e : Int} (h : FRM V W (-1)) : FRM V W e := ⟨h.1, h.2.1, fun o k ho _ hk hl => h.2.2.1 o k ho (by omega) hk hl, h.2.2.2⟩
/-- an object's state is raised -/
theorem RT.state {V W : Vf} {k : Nat} {v : Int32} (h : RT V) (hM : rgd bM V) (e : W = up2 V 63 k v) (hv : 1 ≤ v.toInt) : RT W := by
  have a : agr [] [63] V W := agr.up agr.rf e rfl
  have q : thC [] [63] := ⟨rfl, fun _ => rfl, fun _ => rfl, fun _ => rfl, fun _ => rfl, fun _ => rfl, fun _ => rfl⟩
  refine ⟨TB.ag h.1 hM a rfl (by decide) (by decide), RD_st h.2.1 a q (c0k.ag a rfl), ?_, ?_, ?_⟩
  · intro o ho
    rw [a 0 60 rfl] at ho
    rw [a 61 _ rfl]
    exact (h.2.2.1 o ho).ag a q
  · intro o k i ho hk hi
    rw [a 0 60 rfl] at ho ⊢
    rw [a 66 _ rfl] at hi
    rw [a 67 _ rfl]
    exact h.2.2.2.1 o k i ho hk hi
  · intro i hi
    rw [a 0 95 rfl] at hi
    rw [a 94 _ rfl, a 0 60 rfl]
    have b := h.2.2.2.2 i hi
    refine ⟨b.1, ?_⟩
    by_cases hk : Int32.toNatClampNeg (V 94 i) = k
    · rw [hk, up2_s e]
      exact hv
    · rw [up2_k e hk]
      exact b.2
theorem FRM.state {V W : Vf} {k : Nat} {v : Int32} {x : Int} (e : W = up2 V 63 k v) (h0 : (V 0 60).toInt ≤ (k : Int) ∨ (1 ≤ (V 63 k).toInt ∧ (V 63 k).toInt ≤ v.toInt)) : FRM V W x := by
  have a : agr [] [63] V W := agr.up agr.rf e rfl
  refine ⟨by rw [a 0 60 rfl]; exact Int.le_refl _, fun o ho => ⟨a 61 _ rfl, a 62 _ rfl, ?_, ?_⟩, fun _ _ _ _ _ _ => a 66 _ rfl, fun _ _ => a 94 _ rfl⟩
  · intro h
    by_cases hk : o = k
    · subst hk
      omega
    · rw [up2_k e hk]
      exact h
  · intro h
    by_cases hk : o = k
    · subst hk
      rw [up2_s e]
      omega
    · rw [up2_k e hk]
      exact Int.le_refl _
/-- fewer fresh ones -/
theorem RT.fewer {V W : Vf} {v : Int32} (h : RT V) (hM : rgd bM V) (e : W = up2 V 0 95 v) (hv : v.toInt ≤ (V 0 95).toInt) : RT W := by
  have a : agr [(0, 95)] [] V W := agr.up agr.rf e rfl
  have q : thC [(0, 95)] [] := ⟨rfl, fun _ => rfl, fun _ => rfl, fun _ => rfl, fun _ => rfl, fun _ => rfl, fun _ => rfl⟩
  refine ⟨TB.ag h.1 hM a rfl (by decide) (by decide), RD_st h.2.1 a q (c0k.ag a rfl), ?_, ?_, ?_⟩
  · intro o ho
    rw [a 0 60 rfl] at ho
    rw [a 61 _ rfl]
    exact (h.2.2.1 o ho).ag a q
  · intro o k i ho hk hi
    rw [a 0 60 rfl] at ho ⊢
    rw [a 66 _ rfl] at hi
    rw [a 67 _ rfl]
    exact h.2.2.2.1 o k i ho hk hi
  · intro i hi
    rw [up2_s e] at hi
    rw [a 94 _ rfl, a 0 60 rfl, a 63 _ rfl]
    exact h.2.2.2.2 i (by omega)
/-- one fresh one more -/
theorem RT.more {V V1 W : Vf} {k : Nat} {o v : Int32} (h : RT V) (hM : rgd bM V) (e1 : V1 = up2 V 94 k o) (e2 : W = up2 V1 0 95 v) (hk : (k : Int) = (V 0 95).toInt) (hv : v.toInt = (V 0 95).toInt + 1) (ho : 0 ≤ o.toInt ∧ o.toInt < (V 0 60).toInt) (hs : 1 ≤ (V 63 (Int32.toNatClampNeg o)).toInt) : RT W := by
  have a : agr [(0, 95)] [94] V W := agr.up (agr.up agr.rf e1 rfl) e2 rfl
  have q : thC [(0, 95)] [94] := ⟨rfl, fun _ => rfl, fun _ => rfl, fun _ => rfl, fun _ => rfl, fun _ => rfl, fun _ => rfl⟩
  refine ⟨TB.ag h.1 hM a rfl (by decide) (by decide), RD_st h.2.1 a q (c0k.ag a rfl), ?_, ?_, ?_⟩
  · intro o ho
    rw [a 0 60 rfl] at ho
    rw [a 61 _ rfl]
    exact (h.2.2.1 o ho).ag a q
  · intro o k i ho hk hi
    rw [a 0 60 rfl] at ho ⊢
    rw [a 66 _ rfl] at hi
    rw [a 67 _ rfl]
    exact h.2.2.2.1 o k i ho hk hi
  · intro i hi
    rw [up2_s e2] at hi
    have e94 : W 94 i = V1 94 i := up2_o e2 (by decide)
    rw [e94, a 0 60 rfl, a 63 _ rfl]
    by_cases hik : i = k
    · rw [hik, up2_s e1]
      exact ⟨ho.2, hs⟩
    · rw [up2_k e1 hik]
      exact h.2.2.2.2 i (by omega)
/-- a join is laid: who, then how many -/
theorem RT.join {V V1 W : Vf} {o k : Nat} {g v : Int32} (h : RT V) (hM : rgd bM V) {p r : Nat} (e1 : V1 = up2 V 67 p g) (e2 : W = up2 V1 66 r v) (hr : r = 8 * o + k) (hp : (p : Int) = 24 * (8 * (o : Int) + k) + (V 66 (8 * o + k)).toInt) (hk : k < 8) (hv : v.toInt = (V 66 (8 * o + k)).toInt + 1) (h24 : (V 66 (8 * o + k)).toInt ≤ 23) (hg : g.toInt < (V 0 60).toInt) : RT W := by
  have a : agr [] [66, 67] V W := agr.up (agr.up agr.rf e1 rfl) e2 rfl
  have q : thC [] [66, 67] := ⟨rfl, fun _ => rfl, fun _ => rfl, fun _ => rfl, fun _ => rfl, fun _ => rfl, fun _ => rfl⟩
  have h0 : 0 ≤ (V 66 (8 * o + k)).toInt := (hM 66 _).1
  refine ⟨TB.ag h.1 hM a rfl (by decide) (by decide), RD_st h.2.1 a q (c0k.ag a rfl), ?_, ?_, ?_⟩
  · intro o ho
    rw [a 0 60 rfl] at ho
    rw [a 61 _ rfl]
    exact (h.2.2.1 o ho).ag a q
  · intro o' k' i ho hk' hi
    rw [a 0 60 rfl] at ho ⊢
    have e67 : W 67 (24 * (8 * o' + k') + i) = V1 67 (24 * (8 * o' + k') + i) := up2_o e2 (by decide)
    rw [e67]
    by_cases hj : 8 * o' + k' = r
    · rw [hj, up2_s e2] at hi
      by_cases hi2 : 24 * (8 * o' + k') + i = p
      · rw [hi2, up2_s e1]
        exact hg
      · rw [up2_k e1 hi2]
        have e3 : 8 * o' + k' = 8 * o + k := by omega
        exact h.2.2.2.1 o' k' i ho hk' (by rw [e3]; omega)
    · have e66 : W 66 (8 * o' + k') = V 66 (8 * o' + k') := (up2_k e2 hj).trans (up2_o e1 (by decide))
      rw [e66] at hi
      have hb : (V 66 (8 * o' + k')).toInt ≤ 24 := (hM 66 _).2
      rw [up2_k e1 (by omega)]
      exact h.2.2.2.1 o' k' i ho hk' hi
  · intro i hi
    rw [a 0 95 rfl] at hi
    rw [a 94 _ rfl, a 0 60 rfl, a 63 _ rfl]
    exact h.2.2.2.2 i hi
theorem FRM.join {V V1 W : Vf} {o k : Nat} {g v : Int32} {x : Int} {p r : Nat} (e1 : V1 = up2 V 67 p g) (e2 : W = up2 V1 66 r v) (hr : r = 8 * o + k) (hk : k < 8) (hx : (o : Int) = x ∨ (V 29 (8 * (24 * nwh V + Int32.toNatClampNeg (V 61 o)) + k)).toInt = 1) : FRM V W x := by
  have a : agr [] [66, 67] V W := agr.up (agr.up agr.rf e1 rfl) e2 rfl
  refine ⟨by rw [a 0 60 rfl]; exact Int.le_refl _, fun o ho => ⟨a 61 _ rfl, a 62 _ rfl, fun h => by rw [a 63 _ rfl]; exact h, fun h => by rw [a 63 _ rfl]; exact Int.le_refl _⟩, fun o' k' ho he hk' hl => ?_, fun _ _ => a 94 _ rfl⟩
  by_cases hj : 8 * o' + k' = r
  · have e3 : o' = o := by omega
    have e4 : k' = k := by omega
    subst e3
    subst e4
    rcases hx with hx | hx
    · exact absurd hx he
    · exact absurd hx hl
  · exact (up2_k e2 hj).trans (up2_o e1 (by decide))
/-- a new object -/
theorem RT.new {V W : Vf} {o : Nat} (h : RT V) (hM : rgd bM V) (a : agr [(0, 60)] [61, 62, 63, 66] V W) (h60 : (W 0 60).toInt = (V 0 60).toInt + 1) (ho : (o : Int) = (V 0 60).toInt) (f61 : ∀ x, x ≠ o → W 61 x = V 61 x) (n61 : th V (Int32.toNatClampNeg (W 61 o))) (f63 : ∀ x, x ≠ o → W 63 x = V 63 x) (f66 : ∀ x, x < 8 * o ∨ 8 * o + 8 ≤ x → W 66 x = V 66 x) (n66 : ∀ k, k < 8 → (W 66 (8 * o + k)).toInt = 0) : RT W := by
  have q : thC [(0, 60)] [61, 62, 63, 66] := ⟨rfl, fun _ => rfl, fun _ => rfl, fun _ => rfl, fun _ => rfl, fun _ => rfl, fun _ => rfl⟩
  refine ⟨TB.ag h.1 hM a rfl (by decide) (by decide), RD_st h.2.1 a q (c0k.ag a rfl), ?_, ?_, ?_⟩
  · intro x hx
    by_cases e : x = o
    · rw [e]
      exact n61.ag a q
    · rw [f61 x e]
      exact (h.2.2.1 x (by omega)).ag a q
  · intro x k i hx hk hi
    by_cases e : x = o
    · rw [e, n66 k hk] at hi
      omega
    · rw [f66 _ (by omega)] at hi
      have e67 : W 67 (24 * (8 * x + k) + i) = V 67 (24 * (8 * x + k) + i) := a 67 _ rfl
      rw [e67]
      have := h.2.2.2.1 x k i (by omega) hk hi
      omega
  · intro i hi
    rw [a 0 95 rfl] at hi
    rw [a 94 _ rfl]
    have b := h.2.2.2.2 i hi
    have b0 : 0 ≤ (V 94 i).toInt := (hM 94 i).1
    have bc := i_clamp (x := V 94 i) rfl b0
    rw [f63 _ (by omega)]
    exact ⟨by omega, b.2⟩
theorem FRM.new {V W : Vf} {o : Nat} {x : Int} (a : agr [(0, 60)] [61, 62, 63, 66] V W) (h60 : (W 0 60).toInt = (V 0 60).toInt + 1) (ho : (o : Int) = (V 0 60).toInt) (f61 : ∀ x, x ≠ o → W 61 x = V 61 x) (f62 : ∀ x, x ≠ o → W 62 x = V 62 x) (f63 : ∀ x, x ≠ o → W 63 x = V 63 x) (f66 : ∀ x, x < 8 * o ∨ 8 * o + 8 ≤ x → W 66 x = V 66 x) : FRM V W x :=
  ⟨by omega, fun y hy => ⟨f61 y (by omega), f62 y (by omega), fun h => by rw [f63 y (by omega)]; exact h, fun h => by rw [f63 y (by omega)]; exact Int.le_refl _⟩, fun y k hy _ hk _ => f66 _ (by omega), fun _ _ => a 94 _ rfl⟩

theorem w2283 : Cond.code yX12_arounds cX12_arounds 7 (some .int) ∈ GW := gw_k tk9_9 208 (rfl) rfl
theorem w2280 : Cond.methodLink RX12 523 yX12_arounds ∈ GW := gw_k tk9_9 205 (by decide +kernel) rfl
theorem w2282 : Cond.instanceMethod yX12_arounds ∈ GW := gw_k tk9_9 207 (by decide +kernel) rfl
theorem w139 : Cond.selects RX12 yX12_arounds yX12_arounds ∈ GW := gw_mem 139 (by decide +kernel) rfl
theorem hdV_yX12_arounds : yX12_arounds.cls = RX12 ∧ yX12_arounds.cls ≠ "java/lang/invoke/MethodHandle" ∧ yX12_arounds.cls ≠ "java/lang/invoke/VarHandle" ∧ (parseMethodDescriptor yX12_arounds.desc).map (fun d => d.parameters.length) = some 5 := by decide +kernel
theorem w2323 : Cond.code yX12_failings cX12_failings 11 (some .int) ∈ GW := gw_k tk9_10 8 (rfl) rfl
theorem w2320 : Cond.methodLink RX12 526 yX12_failings ∈ GW := gw_k tk9_10 5 (by decide +kernel) rfl
theorem w2322 : Cond.instanceMethod yX12_failings ∈ GW := gw_k tk9_10 7 (by decide +kernel) rfl
theorem w149 : Cond.selects RX12 yX12_failings yX12_failings ∈ GW := gw_mem 149 (by decide +kernel) rfl
theorem hdV_yX12_failings : yX12_failings.cls = RX12 ∧ yX12_failings.cls ≠ "java/lang/invoke/MethodHandle" ∧ yX12_failings.cls ≠ "java/lang/invoke/VarHandle" ∧ (parseMethodDescriptor yX12_failings.desc).map (fun d => d.parameters.length) = some 3 := by decide +kernel
theorem dk9_dX12_calls_0_0 : dOk cX12_calls [(0, .aload_n 0, 1), (1, .invokevirtual 497, 3), (4, .ifCond .ne 5, 3), (9, .aload_n 0, 1), (10, .getfield 520, 3), (13, .bipush 10, 2), (15, .if_icmp .ne 10, 3), (25, .aload_n 0, 1), (26, .getfield 170, 3), (29, .iload_n 1, 1), (30, .iaload, 1), (31, .iconst 2, 1), (32, .if_icmp .ne 10, 3), (42, .aload_n 0, 1), (43, .dup, 1), (44, .getfield 520, 3), (47, .iconst 1, 1), (48, .iadd, 1), (49, .putfield 520, 3), (52, .aload_n 0, 1), (53, .iconst 0, 1), (54, .iload_n 1, 1), (55, .iload_n 2, 1), (56, .iload_n 3, 1)] = true ∧ dOk cX12_calls [(57, .iload 4, 2), (59, .invokevirtual 523, 3), (62, .istore 5, 2), (64, .iload 5, 2), (66, .iconst 1, 1), (67, .if_icmp .ne 12, 3), (79, .aload_n 0, 1), (80, .dup, 1), (81, .getfield 520, 3), (84, .iconst 1, 1), (85, .isub, 1), (86, .putfield 520, 3), (89, .iload 5, 2), (91, .ireturn, 1), (70, .aload_n 0, 1), (71, .iload_n 1, 1), (72, .iload_n 2, 1), (73, .iload_n 3, 1), (74, .invokevirtual 526, 3), (77, .istore 5, 2), (35, .aload_n 0, 1), (36, .bipush 17, 2), (38, .invokevirtual 484, 3), (41, .ireturn, 1)] = true ∧ dOk cX12_calls [(18, .aload_n 0, 1), (19, .bipush 13, 2), (21, .invokevirtual 484, 3), (24, .ireturn, 1), (7, .iconst 2, 1), (8, .ireturn, 1)] = true := by decide +kernel
theorem dX12_calls_0 : decode cX12_calls 0 = .ok (.aload_n 0, 1) := dr9 dk9_dX12_calls_0_0.1 0 (0, .aload_n 0, 1) rfl
theorem dX12_calls_1 : decode cX12_calls 1 = .ok (.invokevirtual 497, 3) := dr9 dk9_dX12_calls_0_0.1 1 (1, .invokevirtual 497, 3) rfl
theorem dX12_calls_4 : decode cX12_calls 4 = .ok (.ifCond .ne 5, 3) := dr9 dk9_dX12_calls_0_0.1 2 (4, .ifCond .ne 5, 3) rfl
theorem dX12_calls_9 : decode cX12_calls 9 = .ok (.aload_n 0, 1) := dr9 dk9_dX12_calls_0_0.1 3 (9, .aload_n 0, 1) rfl
theorem dX12_calls_10 : decode cX12_calls 10 = .ok (.getfield 520, 3) := dr9 dk9_dX12_calls_0_0.1 4 (10, .getfield 520, 3) rfl
theorem dX12_calls_13 : decode cX12_calls 13 = .ok (.bipush 10, 2) := dr9 dk9_dX12_calls_0_0.1 5 (13, .bipush 10, 2) rfl
theorem dX12_calls_15 : decode cX12_calls 15 = .ok (.if_icmp .ne 10, 3) := dr9 dk9_dX12_calls_0_0.1 6 (15, .if_icmp .ne 10, 3) rfl
theorem dX12_calls_25 : decode cX12_calls 25 = .ok (.aload_n 0, 1) := dr9 dk9_dX12_calls_0_0.1 7 (25, .aload_n 0, 1) rfl
theorem dX12_calls_26 : decode cX12_calls 26 = .ok (.getfield 170, 3) := dr9 dk9_dX12_calls_0_0.1 8 (26, .getfield 170, 3) rfl
theorem dX12_calls_29 : decode cX12_calls 29 = .ok (.iload_n 1, 1) := dr9 dk9_dX12_calls_0_0.1 9 (29, .iload_n 1, 1) rfl
theorem dX12_calls_30 : decode cX12_calls 30 = .ok (.iaload, 1) := dr9 dk9_dX12_calls_0_0.1 10 (30, .iaload, 1) rfl
theorem dX12_calls_31 : decode cX12_calls 31 = .ok (.iconst 2, 1) := dr9 dk9_dX12_calls_0_0.1 11 (31, .iconst 2, 1) rfl
theorem dX12_calls_32 : decode cX12_calls 32 = .ok (.if_icmp .ne 10, 3) := dr9 dk9_dX12_calls_0_0.1 12 (32, .if_icmp .ne 10, 3) rfl
theorem dX12_calls_42 : decode cX12_calls 42 = .ok (.aload_n 0, 1) := dr9 dk9_dX12_calls_0_0.1 13 (42, .aload_n 0, 1) rfl
theorem dX12_calls_43 : decode cX12_calls 43 = .ok (.dup, 1) := dr9 dk9_dX12_calls_0_0.1 14 (43, .dup, 1) rfl
theorem dX12_calls_44 : decode cX12_calls 44 = .ok (.getfield 520, 3) := dr9 dk9_dX12_calls_0_0.1 15 (44, .getfield 520, 3) rfl
theorem dX12_calls_47 : decode cX12_calls 47 = .ok (.iconst 1, 1) := dr9 dk9_dX12_calls_0_0.1 16 (47, .iconst 1, 1) rfl
theorem dX12_calls_48 : decode cX12_calls 48 = .ok (.iadd, 1) := dr9 dk9_dX12_calls_0_0.1 17 (48, .iadd, 1) rfl
theorem dX12_calls_49 : decode cX12_calls 49 = .ok (.putfield 520, 3) := dr9 dk9_dX12_calls_0_0.1 18 (49, .putfield 520, 3) rfl
theorem dX12_calls_52 : decode cX12_calls 52 = .ok (.aload_n 0, 1) := dr9 dk9_dX12_calls_0_0.1 19 (52, .aload_n 0, 1) rfl
theorem dX12_calls_53 : decode cX12_calls 53 = .ok (.iconst 0, 1) := dr9 dk9_dX12_calls_0_0.1 20 (53, .iconst 0, 1) rfl
theorem dX12_calls_54 : decode cX12_calls 54 = .ok (.iload_n 1, 1) := dr9 dk9_dX12_calls_0_0.1 21 (54, .iload_n 1, 1) rfl
theorem dX12_calls_55 : decode cX12_calls 55 = .ok (.iload_n 2, 1) := dr9 dk9_dX12_calls_0_0.1 22 (55, .iload_n 2, 1) rfl
theorem dX12_calls_56 : decode cX12_calls 56 = .ok (.iload_n 3, 1) := dr9 dk9_dX12_calls_0_0.1 23 (56, .iload_n 3, 1) rfl
theorem dX12_calls_57 : decode cX12_calls 57 = .ok (.iload 4, 2) := dr9 dk9_dX12_calls_0_0.2.1 0 (57, .iload 4, 2) rfl
theorem dX12_calls_59 : decode cX12_calls 59 = .ok (.invokevirtual 523, 3) := dr9 dk9_dX12_calls_0_0.2.1 1 (59, .invokevirtual 523, 3) rfl
theorem dX12_calls_62 : decode cX12_calls 62 = .ok (.istore 5, 2) := dr9 dk9_dX12_calls_0_0.2.1 2 (62, .istore 5, 2) rfl
theorem dX12_calls_64 : decode cX12_calls 64 = .ok (.iload 5, 2) := dr9 dk9_dX12_calls_0_0.2.1 3 (64, .iload 5, 2) rfl
theorem dX12_calls_66 : decode cX12_calls 66 = .ok (.iconst 1, 1) := dr9 dk9_dX12_calls_0_0.2.1 4 (66, .iconst 1, 1) rfl
theorem dX12_calls_67 : decode cX12_calls 67 = .ok (.if_icmp .ne 12, 3) := dr9 dk9_dX12_calls_0_0.2.1 5 (67, .if_icmp .ne 12, 3) rfl
theorem dX12_calls_79 : decode cX12_calls 79 = .ok (.aload_n 0, 1) := dr9 dk9_dX12_calls_0_0.2.1 6 (79, .aload_n 0, 1) rfl
theorem dX12_calls_80 : decode cX12_calls 80 = .ok (.dup, 1) := dr9 dk9_dX12_calls_0_0.2.1 7 (80, .dup, 1) rfl
theorem dX12_calls_81 : decode cX12_calls 81 = .ok (.getfield 520, 3) := dr9 dk9_dX12_calls_0_0.2.1 8 (81, .getfield 520, 3) rfl
theorem dX12_calls_84 : decode cX12_calls 84 = .ok (.iconst 1, 1) := dr9 dk9_dX12_calls_0_0.2.1 9 (84, .iconst 1, 1) rfl
theorem dX12_calls_85 : decode cX12_calls 85 = .ok (.isub, 1) := dr9 dk9_dX12_calls_0_0.2.1 10 (85, .isub, 1) rfl
theorem dX12_calls_86 : decode cX12_calls 86 = .ok (.putfield 520, 3) := dr9 dk9_dX12_calls_0_0.2.1 11 (86, .putfield 520, 3) rfl
theorem dX12_calls_89 : decode cX12_calls 89 = .ok (.iload 5, 2) := dr9 dk9_dX12_calls_0_0.2.1 12 (89, .iload 5, 2) rfl
theorem dX12_calls_91 : decode cX12_calls 91 = .ok (.ireturn, 1) := dr9 dk9_dX12_calls_0_0.2.1 13 (91, .ireturn, 1) rfl
theorem dX12_calls_70 : decode cX12_calls 70 = .ok (.aload_n 0, 1) := dr9 dk9_dX12_calls_0_0.2.1 14 (70, .aload_n 0, 1) rfl
theorem dX12_calls_71 : decode cX12_calls 71 = .ok (.iload_n 1, 1) := dr9 dk9_dX12_calls_0_0.2.1 15 (71, .iload_n 1, 1) rfl
theorem dX12_calls_72 : decode cX12_calls 72 = .ok (.iload_n 2, 1) := dr9 dk9_dX12_calls_0_0.2.1 16 (72, .iload_n 2, 1) rfl
theorem dX12_calls_73 : decode cX12_calls 73 = .ok (.iload_n 3, 1) := dr9 dk9_dX12_calls_0_0.2.1 17 (73, .iload_n 3, 1) rfl
theorem dX12_calls_74 : decode cX12_calls 74 = .ok (.invokevirtual 526, 3) := dr9 dk9_dX12_calls_0_0.2.1 18 (74, .invokevirtual 526, 3) rfl
theorem dX12_calls_77 : decode cX12_calls 77 = .ok (.istore 5, 2) := dr9 dk9_dX12_calls_0_0.2.1 19 (77, .istore 5, 2) rfl
theorem dX12_calls_35 : decode cX12_calls 35 = .ok (.aload_n 0, 1) := dr9 dk9_dX12_calls_0_0.2.1 20 (35, .aload_n 0, 1) rfl
theorem dX12_calls_36 : decode cX12_calls 36 = .ok (.bipush 17, 2) := dr9 dk9_dX12_calls_0_0.2.1 21 (36, .bipush 17, 2) rfl
theorem dX12_calls_38 : decode cX12_calls 38 = .ok (.invokevirtual 484, 3) := dr9 dk9_dX12_calls_0_0.2.1 22 (38, .invokevirtual 484, 3) rfl
theorem dX12_calls_41 : decode cX12_calls 41 = .ok (.ireturn, 1) := dr9 dk9_dX12_calls_0_0.2.1 23 (41, .ireturn, 1) rfl
theorem dX12_calls_18 : decode cX12_calls 18 = .ok (.aload_n 0, 1) := dr9 dk9_dX12_calls_0_0.2.2 0 (18, .aload_n 0, 1) rfl
theorem dX12_calls_19 : decode cX12_calls 19 = .ok (.bipush 13, 2) := dr9 dk9_dX12_calls_0_0.2.2 1 (19, .bipush 13, 2) rfl
theorem dX12_calls_21 : decode cX12_calls 21 = .ok (.invokevirtual 484, 3) := dr9 dk9_dX12_calls_0_0.2.2 2 (21, .invokevirtual 484, 3) rfl
theorem dX12_calls_24 : decode cX12_calls 24 = .ok (.ireturn, 1) := dr9 dk9_dX12_calls_0_0.2.2 3 (24, .ireturn, 1) rfl
theorem dX12_calls_7 : decode cX12_calls 7 = .ok (.iconst 2, 1) := dr9 dk9_dX12_calls_0_0.2.2 4 (7, .iconst 2, 1) rfl
theorem dX12_calls_8 : decode cX12_calls 8 = .ok (.ireturn, 1) := dr9 dk9_dX12_calls_0_0.2.2 5 (8, .ireturn, 1) rfl
abbrev q_s_calls (D : va_G) (ks : KS) (ad : Nat → Nat) (kk : Nat → ClassId) (V : Vf) (L : Lf) (p0 : Int32) (p1 : Int32) (p2 : Int32) (p3 : Int32) (A : Nat → Prop) : Array Value → State → Outcome → State → Prop := va_Qi (fun (r : Int32) (u : Vf × Lf) => rgd bM u.1 ∧ agr [(0, 60), (0, 65), (0, 68), (0, 69), (0, 73), (0, 76), (0, 90), (0, 91), (0, 92), (0, 93), (0, 95), (0, 96), (0, 98)] [59, 61, 62, 63, 64, 66, 67, 74, 75, 77, 78, 79, 80, 94, 97] V u.1 ∧ u.2 = L ∧ (0 ≤ r.toInt ∧ r.toInt ≤ 2) ∧ ((u.1 0 93).toInt = (V 0 93).toInt) ∧ ((u.1 0 98).toInt = (V 0 98).toInt) ∧ ((V 0 60).toInt ≤ (u.1 0 60).toInt) ∧ ((V 0 65).toInt ≤ (u.1 0 65).toInt) ∧ ((u.1 0 65).toInt - (V 0 65).toInt ≤ (u.1 0 60).toInt - (V 0 60).toInt) ∧ ((u.1 0 73).toInt + (u.1 0 95).toInt - (u.1 0 65).toInt ≤ (V 0 73).toInt + (V 0 95).toInt - (V 0 65).toInt) ∧ ((V 0 73).toInt ≤ (u.1 0 73).toInt) ∧ ((V 0 69).toInt ≤ (u.1 0 69).toInt) ∧ ((u.1 0 95).toInt = (V 0 95).toInt) ∧ ((u.1 0 76).toInt - (u.1 0 69).toInt - (u.1 0 73).toInt ≤ (V 0 76).toInt - (V 0 69).toInt - (V 0 73).toInt) ∧ (RT u.1) ∧ (FRM V u.1 (-1))) (fun u t => gq D A (mw ad kk ks.1 u.1 u.2) (mty kk) t) A
def K_s_calls (l : Launch) (D : va_G) (ks : KS) (d1 d2 : Nat) : Prop := ∀ (sz : Nat) (ad : Nat → Nat) (kk : Nat → ClassId) (V : Vf) (L : Lf) (p0 : Int32) (p1 : Int32) (p2 : Int32) (p3 : Int32) (hMV : rgd bM V) (rg_p0 : 0 ≤ p0.toInt ∧ p0.toInt ≤ 299) (rg_p1 : 0 ≤ p1.toInt ∧ p1.toInt ≤ 19) (rg_p2 : 0 ≤ p2.toInt ∧ p2.toInt ≤ 39) (rt : RT V) (n1 : (V 0 65).toInt ≤ (V 0 60).toInt) (n2 : (V 0 95).toInt ≤ (V 0 65).toInt) (n3 : (V 0 73).toInt + (V 0 95).toInt - (V 0 65).toInt ≤ 999000) (n4 : (V 0 76).toInt - (V 0 69).toInt - (V 0 73).toInt ≤ 1000000000) (n5 : 300 - (V 0 60).toInt ≤ (d1 : Int)) (n6 : 10 - (V 0 93).toInt ≤ (d2 : Int)) (oq1 : p0.toInt < (V 0 60).toInt) (n7 : (V 0 98).toInt + 400 * (d2 : Int) ≤ 19000) , Met l yX12_calls (Cond.code yX12_calls cX12_calls 6 (some .int) :: GW) (rK2 (4 * d1 + 40 * d2 + 8) (100 * d1 + 1000 * d2 + 320)) (va_Pc [.ref (ad 0), .int p0, .int p1, .int p2, .int p3] (gp D ks (mw ad kk ks.1 V L) (mty kk) sz)) (q_s_calls D ks ad kk V L p0 p1 p2 p3 (va_A (mw ad kk ks.1 V L) sz)) 0 0 (va_A (mw ad kk ks.1 V L) sz)
abbrev q_s_arounds (D : va_G) (ks : KS) (ad : Nat → Nat) (kk : Nat → ClassId) (V : Vf) (L : Lf) (p0 : Int32) (p1 : Int32) (p2 : Int32) (p3 : Int32) (p4 : Int32) (A : Nat → Prop) : Array Value → State → Outcome → State → Prop := va_Qi (fun (r : Int32) (u : Vf × Lf) => rgd bM u.1 ∧ agr [(0, 60), (0, 65), (0, 68), (0, 69), (0, 73), (0, 76), (0, 90), (0, 91), (0, 92), (0, 93), (0, 95), (0, 96), (0, 98)] [59, 61, 62, 63, 64, 66, 67, 74, 75, 77, 78, 79, 80, 94, 97] V u.1 ∧ u.2 = L ∧ (0 ≤ r.toInt ∧ r.toInt ≤ 2) ∧ ((u.1 0 93).toInt = (V 0 93).toInt) ∧ ((u.1 0 98).toInt = (V 0 98).toInt) ∧ ((V 0 60).toInt ≤ (u.1 0 60).toInt) ∧ ((V 0 65).toInt ≤ (u.1 0 65).toInt) ∧ ((u.1 0 65).toInt - (V 0 65).toInt ≤ (u.1 0 60).toInt - (V 0 60).toInt) ∧ ((u.1 0 73).toInt + (u.1 0 95).toInt - (u.1 0 65).toInt ≤ (V 0 73).toInt + (V 0 95).toInt - (V 0 65).toInt) ∧ ((V 0 73).toInt ≤ (u.1 0 73).toInt) ∧ ((V 0 69).toInt ≤ (u.1 0 69).toInt) ∧ ((u.1 0 95).toInt = (V 0 95).toInt) ∧ ((u.1 0 76).toInt - (u.1 0 69).toInt - (u.1 0 73).toInt ≤ (V 0 76).toInt - (V 0 69).toInt - (V 0 73).toInt + 1) ∧ (Imp (r.toInt ≠ 2) ((u.1 0 76).toInt - (u.1 0 69).toInt - (u.1 0 73).toInt ≤ (V 0 76).toInt - (V 0 69).toInt - (V 0 73).toInt)) ∧ (RT u.1) ∧ (FRM V u.1 (-1))) (fun u t => gq D A (mw ad kk ks.1 u.1 u.2) (mty kk) t) A
def K_s_arounds (l : Launch) (D : va_G) (ks : KS) (d1 d2 d3 : Nat) : Prop := ∀ (sz : Nat) (ad : Nat → Nat) (kk : Nat → ClassId) (V : Vf) (L : Lf) (p0 : Int32) (p1 : Int32) (p2 : Int32) (p3 : Int32) (p4 : Int32) (hMV : rgd bM V) (rg_p0 : 0 ≤ p0.toInt ∧ p0.toInt ≤ 12) (rg_p1 : 0 ≤ p1.toInt ∧ p1.toInt ≤ 299) (rg_p2 : 0 ≤ p2.toInt ∧ p2.toInt ≤ 19) (rg_p3 : 0 ≤ p3.toInt ∧ p3.toInt ≤ 39) (rt : RT V) (n1 : (V 0 65).toInt ≤ (V 0 60).toInt) (n2 : (V 0 95).toInt ≤ (V 0 65).toInt) (n3 : (V 0 73).toInt + (V 0 95).toInt - (V 0 65).toInt ≤ 999000) (n4 : (V 0 76).toInt - (V 0 69).toInt - (V 0 73).toInt ≤ 1000000000) (n5 : 300 - (V 0 60).toInt ≤ (d1 : Int)) (n6 : 10 - (V 0 93).toInt ≤ (d2 : Int)) (oq1 : p1.toInt < (V 0 60).toInt) (n7 : (V 0 98).toInt + 400 * (d2 : Int) + 30 * (13 - p0.toInt) ≤ 19000) (n8 : 12 - p0.toInt ≤ (d3 : Int)) , Met l yX12_arounds (Cond.code yX12_arounds cX12_arounds 7 (some .int) :: GW) (rK2 (4 * d1 + 40 * d2 + 14 + 2 * d3) (100 * d1 + 1000 * d2 + 560 + 60 * d3)) (va_Pc [.ref (ad 0), .int p0, .int p1, .int p2, .int p3, .int p4] (gp D ks (mw ad kk ks.1 V L) (mty kk) sz)) (q_s_arounds D ks ad kk V L p0 p1 p2 p3 p4 (va_A (mw ad kk ks.1 V L) sz)) 0 0 (va_A (mw ad kk ks.1 V L) sz)
abbrev q_s_failings (D : va_G) (ks : KS) (ad : Nat → Nat) (kk : Nat → ClassId) (V : Vf) (L : Lf) (p0 : Int32) (p1 : Int32) (p2 : Int32) (A : Nat → Prop) : Array Value → State → Outcome → State → Prop := va_Qi (fun (r : Int32) (u : Vf × Lf) => rgd bM u.1 ∧ agr [(0, 60), (0, 65), (0, 68), (0, 69), (0, 73), (0, 76), (0, 90), (0, 91), (0, 92), (0, 93), (0, 95), (0, 96), (0, 98)] [59, 61, 62, 63, 64, 66, 67, 74, 75, 77, 78, 79, 80, 94, 97] V u.1 ∧ u.2 = L ∧ (0 ≤ r.toInt ∧ r.toInt ≤ 2) ∧ ((u.1 0 93).toInt = (V 0 93).toInt) ∧ ((u.1 0 98).toInt = (V 0 98).toInt) ∧ ((V 0 60).toInt ≤ (u.1 0 60).toInt) ∧ ((V 0 65).toInt ≤ (u.1 0 65).toInt) ∧ ((u.1 0 65).toInt - (V 0 65).toInt ≤ (u.1 0 60).toInt - (V 0 60).toInt) ∧ ((u.1 0 73).toInt + (u.1 0 95).toInt - (u.1 0 65).toInt ≤ (V 0 73).toInt + (V 0 95).toInt - (V 0 65).toInt) ∧ ((V 0 73).toInt ≤ (u.1 0 73).toInt) ∧ ((V 0 69).toInt ≤ (u.1 0 69).toInt) ∧ ((u.1 0 95).toInt = (V 0 95).toInt) ∧ ((u.1 0 76).toInt - (u.1 0 69).toInt - (u.1 0 73).toInt ≤ (V 0 76).toInt - (V 0 69).toInt - (V 0 73).toInt + 1) ∧ (Imp (r.toInt ≠ 2) ((u.1 0 76).toInt - (u.1 0 69).toInt - (u.1 0 73).toInt ≤ (V 0 76).toInt - (V 0 69).toInt - (V 0 73).toInt)) ∧ (RT u.1) ∧ (FRM V u.1 (-1))) (fun u t => gq D A (mw ad kk ks.1 u.1 u.2) (mty kk) t) A
def K_s_failings (l : Launch) (D : va_G) (ks : KS) (d1 d2 : Nat) : Prop := ∀ (sz : Nat) (ad : Nat → Nat) (kk : Nat → ClassId) (V : Vf) (L : Lf) (p0 : Int32) (p1 : Int32) (p2 : Int32) (hMV : rgd bM V) (rg_p0 : 0 ≤ p0.toInt ∧ p0.toInt ≤ 299) (rg_p1 : 0 ≤ p1.toInt ∧ p1.toInt ≤ 19) (rg_p2 : 0 ≤ p2.toInt ∧ p2.toInt ≤ 39) (rt : RT V) (n1 : (V 0 65).toInt ≤ (V 0 60).toInt) (n2 : (V 0 95).toInt ≤ (V 0 65).toInt) (n3 : (V 0 73).toInt + (V 0 95).toInt - (V 0 65).toInt ≤ 999000) (n4 : (V 0 76).toInt - (V 0 69).toInt - (V 0 73).toInt ≤ 1000000000) (n5 : 300 - (V 0 60).toInt ≤ (d1 : Int)) (n6 : 10 - (V 0 93).toInt ≤ (d2 : Int)) (oq1 : p0.toInt < (V 0 60).toInt) (n7 : (V 0 98).toInt + 400 * (d2 : Int) + 30 ≤ 19000) , Met l yX12_failings (Cond.code yX12_failings cX12_failings 11 (some .int) :: GW) (rK2 (4 * d1 + 40 * d2 + 13) (100 * d1 + 1000 * d2 + 500)) (va_Pc [.ref (ad 0), .int p0, .int p1, .int p2] (gp D ks (mw ad kk ks.1 V L) (mty kk) sz)) (q_s_failings D ks ad kk V L p0 p1 p2 (va_A (mw ad kk ks.1 V L) sz)) 0 0 (va_A (mw ad kk ks.1 V L) sz)
end
section
theorem w1802 : Cond.fieldLink RX12 545 "WiringHouseModel" "value" "I" ∈ GW := gw_k tk9_7 207 (by decide +kernel) rfl
theorem w2327 : Cond.code yX12_reckons cX12_reckons 5 (some .int) ∈ GW := gw_k tk9_10 12 (rfl) rfl
theorem w2324 : Cond.methodLink RX12 560 yX12_reckons ∈ GW := gw_k tk9_10 9 (by decide +kernel) rfl
theorem w2326 : Cond.instanceMethod yX12_reckons ∈ GW := gw_k tk9_10 11 (by decide +kernel) rfl
theorem w150 : Cond.selects RX12 yX12_reckons yX12_reckons ∈ GW := gw_mem 150 (by decide +kernel) rfl
theorem hdV_yX12_reckons : yX12_reckons.cls = RX12 ∧ yX12_reckons.cls ≠ "java/lang/invoke/MethodHandle" ∧ yX12_reckons.cls ≠ "java/lang/invoke/VarHandle" ∧ (parseMethodDescriptor yX12_reckons.desc).map (fun d => d.parameters.length) = some 2 := by decide +kernel
theorem w2311 : Cond.code yX12_ofNeed cX12_ofNeed 10 (some .int) ∈ GW := gw_k tk9_9 236 (rfl) rfl
theorem w2308 : Cond.methodLink RX12 557 yX12_ofNeed ∈ GW := gw_k tk9_9 233 (by decide +kernel) rfl
theorem w2310 : Cond.instanceMethod yX12_ofNeed ∈ GW := gw_k tk9_9 235 (by decide +kernel) rfl
theorem w146 : Cond.selects RX12 yX12_ofNeed yX12_ofNeed ∈ GW := gw_mem 146 (by decide +kernel) rfl
theorem hdV_yX12_ofNeed : yX12_ofNeed.cls = RX12 ∧ yX12_ofNeed.cls ≠ "java/lang/invoke/MethodHandle" ∧ yX12_ofNeed.cls ≠ "java/lang/invoke/VarHandle" ∧ (parseMethodDescriptor yX12_ofNeed.desc).map (fun d => d.parameters.length) = some 5 := by decide +kernel
theorem dk9_dX12_worksAround_0_0 : dOk cX12_worksAround [(0, .aload_n 0, 1), (1, .getfield 548, 3), (4, .istore 7, 2), (6, .iload_n 1, 1), (7, .istore 8, 2), (9, .iconst 0, 1), (10, .istore 9, 2), (12, .iload 9, 2), (14, .ifCond .ne 180, 3), (194, .iload 9, 2), (196, .ifCond .ne 11, 3), (207, .aload_n 0, 1), (208, .iload 7, 2), (210, .putfield 548, 3), (213, .iload 9, 2), (215, .ireturn, 1), (17, .aload_n 0, 1), (18, .getfield 140, 3), (21, .iload 8, 2), (23, .iaload, 1), (24, .ifCond .eq 170, 3), (199, .aload_n 0, 1), (200, .aload_n 0, 1), (201, .invokevirtual 551, 3)] = true ∧ dOk cX12_worksAround [(204, .putfield 545, 3), (27, .aload_n 0, 1), (28, .getfield 140, 3), (31, .iload 8, 2), (33, .iaload, 1), (34, .istore 10, 2), (36, .aload_n 0, 1), (37, .getfield 143, 3), (40, .iload 8, 2), (42, .iaload, 1), (43, .istore 11, 2), (45, .aload_n 0, 1), (46, .getfield 146, 3), (49, .iload 8, 2), (51, .iaload, 1), (52, .istore 12, 2), (54, .iinc 8 1, 3), (57, .iload 10, 2), (59, .bipush 13, 2), (61, .if_icmp .ne 10, 3), (71, .iload 10, 2), (73, .bipush 12, 2), (75, .if_icmp .ne 22, 3), (97, .iload 10, 2)] = true ∧ dOk cX12_worksAround [(99, .bipush 15, 2), (101, .if_icmp .ne 30, 3), (131, .iload 10, 2), (133, .bipush 14, 2), (135, .if_icmp .ne 31, 3), (166, .iload 10, 2), (168, .iconst 3, 1), (169, .if_icmp .ne 12, 3), (181, .aload_n 0, 1), (182, .iload 10, 2), (184, .iload 11, 2), (186, .invokevirtual 560, 3), (189, .istore 9, 2), (191, .goto (-179), 3), (172, .aload_n 0, 1), (173, .iload 5, 2), (175, .invokevirtual 554, 3), (178, .goto 13, 3), (138, .aload_n 0, 1), (139, .iload_n 2, 1), (140, .iload 11, 2), (142, .iload 12, 2), (144, .iload 4, 2), (146, .aload_n 0, 1)] = true ∧ dOk cX12_worksAround [(147, .invokevirtual 551, 3), (150, .invokevirtual 557, 3), (153, .istore 9, 2), (155, .aload_n 0, 1), (156, .aload_n 0, 1), (157, .getfield 545, 3), (160, .invokevirtual 554, 3), (163, .goto 28, 3), (78, .aload_n 0, 1), (79, .invokevirtual 551, 3), (82, .ifCond .ne 8, 3), (90, .iload 8, 2), (92, .istore 8, 2), (94, .goto 97, 3), (85, .iload 11, 2), (87, .goto 5, 3), (64, .iload 11, 2), (66, .istore 8, 2), (68, .goto 123, 3), (104, .aload_n 0, 1), (105, .iload 6, 2), (107, .iload_n 2, 1), (108, .iload_n 3, 1), (109, .iload 4, 2)] = true ∧ dOk cX12_worksAround [(111, .aload_n 0, 1), (112, .invokevirtual 551, 3), (115, .invokevirtual 523, 3), (118, .istore 9, 2), (120, .aload_n 0, 1), (121, .aload_n 0, 1), (122, .getfield 545, 3), (125, .invokevirtual 554, 3), (128, .goto 63, 3)] = true := by decide +kernel
theorem dX12_worksAround_0 : decode cX12_worksAround 0 = .ok (.aload_n 0, 1) := dr9 dk9_dX12_worksAround_0_0.1 0 (0, .aload_n 0, 1) rfl
theorem dX12_worksAround_1 : decode cX12_worksAround 1 = .ok (.getfield 548, 3) := dr9 dk9_dX12_worksAround_0_0.1 1 (1, .getfield 548, 3) rfl
theorem dX12_worksAround_4 : decode cX12_worksAround 4 = .ok (.istore 7, 2) := dr9 dk9_dX12_worksAround_0_0.1 2 (4, .istore 7, 2) rfl
theorem dX12_worksAround_6 : decode cX12_worksAround 6 = .ok (.iload_n 1, 1) := dr9 dk9_dX12_worksAround_0_0.1 3 (6, .iload_n 1, 1) rfl
theorem dX12_worksAround_7 : decode cX12_worksAround 7 = .ok (.istore 8, 2) := dr9 dk9_dX12_worksAround_0_0.1 4 (7, .istore 8, 2) rfl
theorem dX12_worksAround_9 : decode cX12_worksAround 9 = .ok (.iconst 0, 1) := dr9 dk9_dX12_worksAround_0_0.1 5 (9, .iconst 0, 1) rfl
theorem dX12_worksAround_10 : decode cX12_worksAround 10 = .ok (.istore 9, 2) := dr9 dk9_dX12_worksAround_0_0.1 6 (10, .istore 9, 2) rfl
theorem dX12_worksAround_12 : decode cX12_worksAround 12 = .ok (.iload 9, 2) := dr9 dk9_dX12_worksAround_0_0.1 7 (12, .iload 9, 2) rfl
theorem dX12_worksAround_14 : decode cX12_worksAround 14 = .ok (.ifCond .ne 180, 3) := dr9 dk9_dX12_worksAround_0_0.1 8 (14, .ifCond .ne 180, 3) rfl
theorem dX12_worksAround_194 : decode cX12_worksAround 194 = .ok (.iload 9, 2) := dr9 dk9_dX12_worksAround_0_0.1 9 (194, .iload 9, 2) rfl
theorem dX12_worksAround_196 : decode cX12_worksAround 196 = .ok (.ifCond .ne 11, 3) := dr9 dk9_dX12_worksAround_0_0.1 10 (196, .ifCond .ne 11, 3) rfl
theorem dX12_worksAround_207 : decode cX12_worksAround 207 = .ok (.aload_n 0, 1) := dr9 dk9_dX12_worksAround_0_0.1 11 (207, .aload_n 0, 1) rfl
theorem dX12_worksAround_208 : decode cX12_worksAround 208 = .ok (.iload 7, 2) := dr9 dk9_dX12_worksAround_0_0.1 12 (208, .iload 7, 2) rfl
theorem dX12_worksAround_210 : decode cX12_worksAround 210 = .ok (.putfield 548, 3) := dr9 dk9_dX12_worksAround_0_0.1 13 (210, .putfield 548, 3) rfl
theorem dX12_worksAround_213 : decode cX12_worksAround 213 = .ok (.iload 9, 2) := dr9 dk9_dX12_worksAround_0_0.1 14 (213, .iload 9, 2) rfl
theorem dX12_worksAround_215 : decode cX12_worksAround 215 = .ok (.ireturn, 1) := dr9 dk9_dX12_worksAround_0_0.1 15 (215, .ireturn, 1) rfl
theorem dX12_worksAround_17 : decode cX12_worksAround 17 = .ok (.aload_n 0, 1) := dr9 dk9_dX12_worksAround_0_0.1 16 (17, .aload_n 0, 1) rfl
theorem dX12_worksAround_18 : decode cX12_worksAround 18 = .ok (.getfield 140, 3) := dr9 dk9_dX12_worksAround_0_0.1 17 (18, .getfield 140, 3) rfl
theorem dX12_worksAround_21 : decode cX12_worksAround 21 = .ok (.iload 8, 2) := dr9 dk9_dX12_worksAround_0_0.1 18 (21, .iload 8, 2) rfl
theorem dX12_worksAround_23 : decode cX12_worksAround 23 = .ok (.iaload, 1) := dr9 dk9_dX12_worksAround_0_0.1 19 (23, .iaload, 1) rfl
theorem dX12_worksAround_24 : decode cX12_worksAround 24 = .ok (.ifCond .eq 170, 3) := dr9 dk9_dX12_worksAround_0_0.1 20 (24, .ifCond .eq 170, 3) rfl
theorem dX12_worksAround_199 : decode cX12_worksAround 199 = .ok (.aload_n 0, 1) := dr9 dk9_dX12_worksAround_0_0.1 21 (199, .aload_n 0, 1) rfl
theorem dX12_worksAround_200 : decode cX12_worksAround 200 = .ok (.aload_n 0, 1) := dr9 dk9_dX12_worksAround_0_0.1 22 (200, .aload_n 0, 1) rfl
theorem dX12_worksAround_201 : decode cX12_worksAround 201 = .ok (.invokevirtual 551, 3) := dr9 dk9_dX12_worksAround_0_0.1 23 (201, .invokevirtual 551, 3) rfl
theorem dX12_worksAround_204 : decode cX12_worksAround 204 = .ok (.putfield 545, 3) := dr9 dk9_dX12_worksAround_0_0.2.1 0 (204, .putfield 545, 3) rfl
theorem dX12_worksAround_27 : decode cX12_worksAround 27 = .ok (.aload_n 0, 1) := dr9 dk9_dX12_worksAround_0_0.2.1 1 (27, .aload_n 0, 1) rfl
theorem dX12_worksAround_28 : decode cX12_worksAround 28 = .ok (.getfield 140, 3) := dr9 dk9_dX12_worksAround_0_0.2.1 2 (28, .getfield 140, 3) rfl
theorem dX12_worksAround_31 : decode cX12_worksAround 31 = .ok (.iload 8, 2) := dr9 dk9_dX12_worksAround_0_0.2.1 3 (31, .iload 8, 2) rfl
theorem dX12_worksAround_33 : decode cX12_worksAround 33 = .ok (.iaload, 1) := dr9 dk9_dX12_worksAround_0_0.2.1 4 (33, .iaload, 1) rfl
theorem dX12_worksAround_34 : decode cX12_worksAround 34 = .ok (.istore 10, 2) := dr9 dk9_dX12_worksAround_0_0.2.1 5 (34, .istore 10, 2) rfl
theorem dX12_worksAround_36 : decode cX12_worksAround 36 = .ok (.aload_n 0, 1) := dr9 dk9_dX12_worksAround_0_0.2.1 6 (36, .aload_n 0, 1) rfl
theorem dX12_worksAround_37 : decode cX12_worksAround 37 = .ok (.getfield 143, 3) := dr9 dk9_dX12_worksAround_0_0.2.1 7 (37, .getfield 143, 3) rfl
theorem dX12_worksAround_40 : decode cX12_worksAround 40 = .ok (.iload 8, 2) := dr9 dk9_dX12_worksAround_0_0.2.1 8 (40, .iload 8, 2) rfl
theorem dX12_worksAround_42 : decode cX12_worksAround 42 = .ok (.iaload, 1) := dr9 dk9_dX12_worksAround_0_0.2.1 9 (42, .iaload, 1) rfl
theorem dX12_worksAround_43 : decode cX12_worksAround 43 = .ok (.istore 11, 2) := dr9 dk9_dX12_worksAround_0_0.2.1 10 (43, .istore 11, 2) rfl
theorem dX12_worksAround_45 : decode cX12_worksAround 45 = .ok (.aload_n 0, 1) := dr9 dk9_dX12_worksAround_0_0.2.1 11 (45, .aload_n 0, 1) rfl
theorem dX12_worksAround_46 : decode cX12_worksAround 46 = .ok (.getfield 146, 3) := dr9 dk9_dX12_worksAround_0_0.2.1 12 (46, .getfield 146, 3) rfl
theorem dX12_worksAround_49 : decode cX12_worksAround 49 = .ok (.iload 8, 2) := dr9 dk9_dX12_worksAround_0_0.2.1 13 (49, .iload 8, 2) rfl
theorem dX12_worksAround_51 : decode cX12_worksAround 51 = .ok (.iaload, 1) := dr9 dk9_dX12_worksAround_0_0.2.1 14 (51, .iaload, 1) rfl
theorem dX12_worksAround_52 : decode cX12_worksAround 52 = .ok (.istore 12, 2) := dr9 dk9_dX12_worksAround_0_0.2.1 15 (52, .istore 12, 2) rfl
theorem dX12_worksAround_54 : decode cX12_worksAround 54 = .ok (.iinc 8 1, 3) := dr9 dk9_dX12_worksAround_0_0.2.1 16 (54, .iinc 8 1, 3) rfl
theorem dX12_worksAround_57 : decode cX12_worksAround 57 = .ok (.iload 10, 2) := dr9 dk9_dX12_worksAround_0_0.2.1 17 (57, .iload 10, 2) rfl
theorem dX12_worksAround_59 : decode cX12_worksAround 59 = .ok (.bipush 13, 2) := dr9 dk9_dX12_worksAround_0_0.2.1 18 (59, .bipush 13, 2) rfl
theorem dX12_worksAround_61 : decode cX12_worksAround 61 = .ok (.if_icmp .ne 10, 3) := dr9 dk9_dX12_worksAround_0_0.2.1 19 (61, .if_icmp .ne 10, 3) rfl
theorem dX12_worksAround_71 : decode cX12_worksAround 71 = .ok (.iload 10, 2) := dr9 dk9_dX12_worksAround_0_0.2.1 20 (71, .iload 10, 2) rfl
theorem dX12_worksAround_73 : decode cX12_worksAround 73 = .ok (.bipush 12, 2) := dr9 dk9_dX12_worksAround_0_0.2.1 21 (73, .bipush 12, 2) rfl
theorem dX12_worksAround_75 : decode cX12_worksAround 75 = .ok (.if_icmp .ne 22, 3) := dr9 dk9_dX12_worksAround_0_0.2.1 22 (75, .if_icmp .ne 22, 3) rfl
theorem dX12_worksAround_97 : decode cX12_worksAround 97 = .ok (.iload 10, 2) := dr9 dk9_dX12_worksAround_0_0.2.1 23 (97, .iload 10, 2) rfl
theorem dX12_worksAround_99 : decode cX12_worksAround 99 = .ok (.bipush 15, 2) := dr9 dk9_dX12_worksAround_0_0.2.2.1 0 (99, .bipush 15, 2) rfl
theorem dX12_worksAround_101 : decode cX12_worksAround 101 = .ok (.if_icmp .ne 30, 3) := dr9 dk9_dX12_worksAround_0_0.2.2.1 1 (101, .if_icmp .ne 30, 3) rfl
theorem dX12_worksAround_131 : decode cX12_worksAround 131 = .ok (.iload 10, 2) := dr9 dk9_dX12_worksAround_0_0.2.2.1 2 (131, .iload 10, 2) rfl
theorem dX12_worksAround_133 : decode cX12_worksAround 133 = .ok (.bipush 14, 2) := dr9 dk9_dX12_worksAround_0_0.2.2.1 3 (133, .bipush 14, 2) rfl
theorem dX12_worksAround_135 : decode cX12_worksAround 135 = .ok (.if_icmp .ne 31, 3) := dr9 dk9_dX12_worksAround_0_0.2.2.1 4 (135, .if_icmp .ne 31, 3) rfl
theorem dX12_worksAround_166 : decode cX12_worksAround 166 = .ok (.iload 10, 2) := dr9 dk9_dX12_worksAround_0_0.2.2.1 5 (166, .iload 10, 2) rfl
theorem dX12_worksAround_168 : decode cX12_worksAround 168 = .ok (.iconst 3, 1) := dr9 dk9_dX12_worksAround_0_0.2.2.1 6 (168, .iconst 3, 1) rfl
theorem dX12_worksAround_169 : decode cX12_worksAround 169 = .ok (.if_icmp .ne 12, 3) := dr9 dk9_dX12_worksAround_0_0.2.2.1 7 (169, .if_icmp .ne 12, 3) rfl
theorem dX12_worksAround_181 : decode cX12_worksAround 181 = .ok (.aload_n 0, 1) := dr9 dk9_dX12_worksAround_0_0.2.2.1 8 (181, .aload_n 0, 1) rfl
theorem dX12_worksAround_182 : decode cX12_worksAround 182 = .ok (.iload 10, 2) := dr9 dk9_dX12_worksAround_0_0.2.2.1 9 (182, .iload 10, 2) rfl
theorem dX12_worksAround_184 : decode cX12_worksAround 184 = .ok (.iload 11, 2) := dr9 dk9_dX12_worksAround_0_0.2.2.1 10 (184, .iload 11, 2) rfl
theorem dX12_worksAround_186 : decode cX12_worksAround 186 = .ok (.invokevirtual 560, 3) := dr9 dk9_dX12_worksAround_0_0.2.2.1 11 (186, .invokevirtual 560, 3) rfl
theorem dX12_worksAround_189 : decode cX12_worksAround 189 = .ok (.istore 9, 2) := dr9 dk9_dX12_worksAround_0_0.2.2.1 12 (189, .istore 9, 2) rfl
theorem dX12_worksAround_191 : decode cX12_worksAround 191 = .ok (.goto (-179), 3) := dr9 dk9_dX12_worksAround_0_0.2.2.1 13 (191, .goto (-179), 3) rfl
theorem dX12_worksAround_172 : decode cX12_worksAround 172 = .ok (.aload_n 0, 1) := dr9 dk9_dX12_worksAround_0_0.2.2.1 14 (172, .aload_n 0, 1) rfl
theorem dX12_worksAround_173 : decode cX12_worksAround 173 = .ok (.iload 5, 2) := dr9 dk9_dX12_worksAround_0_0.2.2.1 15 (173, .iload 5, 2) rfl
theorem dX12_worksAround_175 : decode cX12_worksAround 175 = .ok (.invokevirtual 554, 3) := dr9 dk9_dX12_worksAround_0_0.2.2.1 16 (175, .invokevirtual 554, 3) rfl
theorem dX12_worksAround_178 : decode cX12_worksAround 178 = .ok (.goto 13, 3) := dr9 dk9_dX12_worksAround_0_0.2.2.1 17 (178, .goto 13, 3) rfl
theorem dX12_worksAround_138 : decode cX12_worksAround 138 = .ok (.aload_n 0, 1) := dr9 dk9_dX12_worksAround_0_0.2.2.1 18 (138, .aload_n 0, 1) rfl
theorem dX12_worksAround_139 : decode cX12_worksAround 139 = .ok (.iload_n 2, 1) := dr9 dk9_dX12_worksAround_0_0.2.2.1 19 (139, .iload_n 2, 1) rfl
theorem dX12_worksAround_140 : decode cX12_worksAround 140 = .ok (.iload 11, 2) := dr9 dk9_dX12_worksAround_0_0.2.2.1 20 (140, .iload 11, 2) rfl
theorem dX12_worksAround_142 : decode cX12_worksAround 142 = .ok (.iload 12, 2) := dr9 dk9_dX12_worksAround_0_0.2.2.1 21 (142, .iload 12, 2) rfl
theorem dX12_worksAround_144 : decode cX12_worksAround 144 = .ok (.iload 4, 2) := dr9 dk9_dX12_worksAround_0_0.2.2.1 22 (144, .iload 4, 2) rfl
theorem dX12_worksAround_146 : decode cX12_worksAround 146 = .ok (.aload_n 0, 1) := dr9 dk9_dX12_worksAround_0_0.2.2.1 23 (146, .aload_n 0, 1) rfl
theorem dX12_worksAround_147 : decode cX12_worksAround 147 = .ok (.invokevirtual 551, 3) := dr9 dk9_dX12_worksAround_0_0.2.2.2.1 0 (147, .invokevirtual 551, 3) rfl
theorem dX12_worksAround_150 : decode cX12_worksAround 150 = .ok (.invokevirtual 557, 3) := dr9 dk9_dX12_worksAround_0_0.2.2.2.1 1 (150, .invokevirtual 557, 3) rfl
theorem dX12_worksAround_153 : decode cX12_worksAround 153 = .ok (.istore 9, 2) := dr9 dk9_dX12_worksAround_0_0.2.2.2.1 2 (153, .istore 9, 2) rfl
theorem dX12_worksAround_155 : decode cX12_worksAround 155 = .ok (.aload_n 0, 1) := dr9 dk9_dX12_worksAround_0_0.2.2.2.1 3 (155, .aload_n 0, 1) rfl
theorem dX12_worksAround_156 : decode cX12_worksAround 156 = .ok (.aload_n 0, 1) := dr9 dk9_dX12_worksAround_0_0.2.2.2.1 4 (156, .aload_n 0, 1) rfl
theorem dX12_worksAround_157 : decode cX12_worksAround 157 = .ok (.getfield 545, 3) := dr9 dk9_dX12_worksAround_0_0.2.2.2.1 5 (157, .getfield 545, 3) rfl
theorem dX12_worksAround_160 : decode cX12_worksAround 160 = .ok (.invokevirtual 554, 3) := dr9 dk9_dX12_worksAround_0_0.2.2.2.1 6 (160, .invokevirtual 554, 3) rfl
theorem dX12_worksAround_163 : decode cX12_worksAround 163 = .ok (.goto 28, 3) := dr9 dk9_dX12_worksAround_0_0.2.2.2.1 7 (163, .goto 28, 3) rfl
theorem dX12_worksAround_78 : decode cX12_worksAround 78 = .ok (.aload_n 0, 1) := dr9 dk9_dX12_worksAround_0_0.2.2.2.1 8 (78, .aload_n 0, 1) rfl
theorem dX12_worksAround_79 : decode cX12_worksAround 79 = .ok (.invokevirtual 551, 3) := dr9 dk9_dX12_worksAround_0_0.2.2.2.1 9 (79, .invokevirtual 551, 3) rfl
theorem dX12_worksAround_82 : decode cX12_worksAround 82 = .ok (.ifCond .ne 8, 3) := dr9 dk9_dX12_worksAround_0_0.2.2.2.1 10 (82, .ifCond .ne 8, 3) rfl
theorem dX12_worksAround_90 : decode cX12_worksAround 90 = .ok (.iload 8, 2) := dr9 dk9_dX12_worksAround_0_0.2.2.2.1 11 (90, .iload 8, 2) rfl
theorem dX12_worksAround_92 : decode cX12_worksAround 92 = .ok (.istore 8, 2) := dr9 dk9_dX12_worksAround_0_0.2.2.2.1 12 (92, .istore 8, 2) rfl
theorem dX12_worksAround_94 : decode cX12_worksAround 94 = .ok (.goto 97, 3) := dr9 dk9_dX12_worksAround_0_0.2.2.2.1 13 (94, .goto 97, 3) rfl
theorem dX12_worksAround_85 : decode cX12_worksAround 85 = .ok (.iload 11, 2) := dr9 dk9_dX12_worksAround_0_0.2.2.2.1 14 (85, .iload 11, 2) rfl
theorem dX12_worksAround_87 : decode cX12_worksAround 87 = .ok (.goto 5, 3) := dr9 dk9_dX12_worksAround_0_0.2.2.2.1 15 (87, .goto 5, 3) rfl
theorem dX12_worksAround_64 : decode cX12_worksAround 64 = .ok (.iload 11, 2) := dr9 dk9_dX12_worksAround_0_0.2.2.2.1 16 (64, .iload 11, 2) rfl
theorem dX12_worksAround_66 : decode cX12_worksAround 66 = .ok (.istore 8, 2) := dr9 dk9_dX12_worksAround_0_0.2.2.2.1 17 (66, .istore 8, 2) rfl
theorem dX12_worksAround_68 : decode cX12_worksAround 68 = .ok (.goto 123, 3) := dr9 dk9_dX12_worksAround_0_0.2.2.2.1 18 (68, .goto 123, 3) rfl
theorem dX12_worksAround_104 : decode cX12_worksAround 104 = .ok (.aload_n 0, 1) := dr9 dk9_dX12_worksAround_0_0.2.2.2.1 19 (104, .aload_n 0, 1) rfl
theorem dX12_worksAround_105 : decode cX12_worksAround 105 = .ok (.iload 6, 2) := dr9 dk9_dX12_worksAround_0_0.2.2.2.1 20 (105, .iload 6, 2) rfl
theorem dX12_worksAround_107 : decode cX12_worksAround 107 = .ok (.iload_n 2, 1) := dr9 dk9_dX12_worksAround_0_0.2.2.2.1 21 (107, .iload_n 2, 1) rfl
theorem dX12_worksAround_108 : decode cX12_worksAround 108 = .ok (.iload_n 3, 1) := dr9 dk9_dX12_worksAround_0_0.2.2.2.1 22 (108, .iload_n 3, 1) rfl
theorem dX12_worksAround_109 : decode cX12_worksAround 109 = .ok (.iload 4, 2) := dr9 dk9_dX12_worksAround_0_0.2.2.2.1 23 (109, .iload 4, 2) rfl
theorem dX12_worksAround_111 : decode cX12_worksAround 111 = .ok (.aload_n 0, 1) := dr9 dk9_dX12_worksAround_0_0.2.2.2.2 0 (111, .aload_n 0, 1) rfl
theorem dX12_worksAround_112 : decode cX12_worksAround 112 = .ok (.invokevirtual 551, 3) := dr9 dk9_dX12_worksAround_0_0.2.2.2.2 1 (112, .invokevirtual 551, 3) rfl
theorem dX12_worksAround_115 : decode cX12_worksAround 115 = .ok (.invokevirtual 523, 3) := dr9 dk9_dX12_worksAround_0_0.2.2.2.2 2 (115, .invokevirtual 523, 3) rfl
theorem dX12_worksAround_118 : decode cX12_worksAround 118 = .ok (.istore 9, 2) := dr9 dk9_dX12_worksAround_0_0.2.2.2.2 3 (118, .istore 9, 2) rfl
theorem dX12_worksAround_120 : decode cX12_worksAround 120 = .ok (.aload_n 0, 1) := dr9 dk9_dX12_worksAround_0_0.2.2.2.2 4 (120, .aload_n 0, 1) rfl
theorem dX12_worksAround_121 : decode cX12_worksAround 121 = .ok (.aload_n 0, 1) := dr9 dk9_dX12_worksAround_0_0.2.2.2.2 5 (121, .aload_n 0, 1) rfl
theorem dX12_worksAround_122 : decode cX12_worksAround 122 = .ok (.getfield 545, 3) := dr9 dk9_dX12_worksAround_0_0.2.2.2.2 6 (122, .getfield 545, 3) rfl
theorem dX12_worksAround_125 : decode cX12_worksAround 125 = .ok (.invokevirtual 554, 3) := dr9 dk9_dX12_worksAround_0_0.2.2.2.2 7 (125, .invokevirtual 554, 3) rfl
theorem dX12_worksAround_128 : decode cX12_worksAround 128 = .ok (.goto 63, 3) := dr9 dk9_dX12_worksAround_0_0.2.2.2.2 8 (128, .goto 63, 3) rfl
abbrev q_s_ofNeed (D : va_G) (ks : KS) (ad : Nat → Nat) (kk : Nat → ClassId) (V : Vf) (L : Lf) (p0 : Int32) (p1 : Int32) (p2 : Int32) (p3 : Int32) (p4 : Int32) (A : Nat → Prop) : Array Value → State → Outcome → State → Prop := va_Qi (fun (r : Int32) (u : Vf × Lf) => rgd bM u.1 ∧ agr [(0, 60), (0, 65), (0, 68), (0, 69), (0, 73), (0, 76), (0, 90), (0, 91), (0, 92), (0, 93), (0, 95), (0, 96), (0, 98)] [59, 61, 62, 63, 64, 66, 67, 74, 75, 77, 78, 79, 80, 94, 97] V u.1 ∧ u.2 = L ∧ (0 ≤ r.toInt ∧ r.toInt ≤ 2) ∧ ((u.1 0 93).toInt = (V 0 93).toInt) ∧ ((u.1 0 98).toInt = (V 0 98).toInt) ∧ ((V 0 60).toInt ≤ (u.1 0 60).toInt) ∧ ((V 0 65).toInt ≤ (u.1 0 65).toInt) ∧ ((u.1 0 65).toInt - (V 0 65).toInt ≤ (u.1 0 60).toInt - (V 0 60).toInt) ∧ ((u.1 0 73).toInt + (u.1 0 95).toInt - (u.1 0 65).toInt ≤ (V 0 73).toInt + (V 0 95).toInt - (V 0 65).toInt) ∧ ((V 0 73).toInt ≤ (u.1 0 73).toInt) ∧ ((V 0 69).toInt ≤ (u.1 0 69).toInt) ∧ ((u.1 0 95).toInt = (V 0 95).toInt) ∧ ((u.1 0 76).toInt - (u.1 0 69).toInt - (u.1 0 73).toInt ≤ (V 0 76).toInt - (V 0 69).toInt - (V 0 73).toInt) ∧ (RT u.1) ∧ (FRM V u.1 (-1))) (fun u t => gq D A (mw ad kk ks.1 u.1 u.2) (mty kk) t) A
def K_s_ofNeed (l : Launch) (D : va_G) (ks : KS) (d1 d2 : Nat) : Prop := ∀ (sz : Nat) (ad : Nat → Nat) (kk : Nat → ClassId) (V : Vf) (L : Lf) (p0 : Int32) (p1 : Int32) (p2 : Int32) (p3 : Int32) (p4 : Int32) (hMV : rgd bM V) (rg_p0 : 0 ≤ p0.toInt ∧ p0.toInt ≤ 299) (rg_p1 : 0 ≤ p1.toInt ∧ p1.toInt ≤ 7) (rg_p2 : 0 ≤ p2.toInt ∧ p2.toInt ≤ 19) (rg_p3 : 0 ≤ p3.toInt ∧ p3.toInt ≤ 39) (rt : RT V) (n1 : (V 0 65).toInt ≤ (V 0 60).toInt) (n2 : (V 0 95).toInt ≤ (V 0 65).toInt) (n3 : (V 0 73).toInt + (V 0 95).toInt - (V 0 65).toInt ≤ 999000) (n4 : (V 0 76).toInt - (V 0 69).toInt - (V 0 73).toInt ≤ 1000000000) (n5 : 300 - (V 0 60).toInt ≤ (d1 : Int)) (n6 : 10 - (V 0 93).toInt ≤ (d2 : Int)) (oq1 : p0.toInt < (V 0 60).toInt) (n7 : (V 0 98).toInt + 400 * (d2 : Int) ≤ 19000) (nq : p1.toInt < (V 27 (24 * nwh V + Int32.toNatClampNeg (V 61 (Int32.toNatClampNeg p0)))).toInt) , Met l yX12_ofNeed (Cond.code yX12_ofNeed cX12_ofNeed 10 (some .int) :: GW) (rK2 (4 * d1 + 40 * d2 + 10) (100 * d1 + 1000 * d2 + 380)) (va_Pc [.ref (ad 0), .int p0, .int p1, .int p2, .int p3, .int p4] (gp D ks (mw ad kk ks.1 V L) (mty kk) sz)) (q_s_ofNeed D ks ad kk V L p0 p1 p2 p3 p4 (va_A (mw ad kk ks.1 V L) sz)) 0 0 (va_A (mw ad kk ks.1 V L) sz)
abbrev q_s_wA0 (D : va_G) (ks : KS) (ad : Nat → Nat) (kk : Nat → ClassId) (V : Vf) (L : Lf) (p0 : Int32) (p1 : Int32) (p2 : Int32) (p3 : Int32) (p4 : Int32) (p5 : Int32) (nd : Int) (lo : Nat) (hi : Nat) (A : Nat → Prop) : Array Value → State → Outcome → State → Prop := va_Qi (fun (r : Int32) (u : Vf × Lf) => rgd bM u.1 ∧ agr [(0, 60), (0, 65), (0, 68), (0, 69), (0, 73), (0, 76), (0, 90), (0, 91), (0, 92), (0, 93), (0, 95), (0, 96), (0, 98)] [59, 61, 62, 63, 64, 66, 67, 74, 75, 77, 78, 79, 80, 94, 97] V u.1 ∧ u.2 = L ∧ (0 ≤ r.toInt ∧ r.toInt ≤ 2) ∧ ((u.1 0 93).toInt = (V 0 93).toInt) ∧ ((u.1 0 98).toInt = (V 0 98).toInt) ∧ ((V 0 60).toInt ≤ (u.1 0 60).toInt) ∧ ((V 0 65).toInt ≤ (u.1 0 65).toInt) ∧ ((u.1 0 65).toInt - (V 0 65).toInt ≤ (u.1 0 60).toInt - (V 0 60).toInt) ∧ ((u.1 0 73).toInt + (u.1 0 95).toInt - (u.1 0 65).toInt ≤ (V 0 73).toInt + (V 0 95).toInt - (V 0 65).toInt) ∧ ((V 0 73).toInt ≤ (u.1 0 73).toInt) ∧ ((V 0 69).toInt ≤ (u.1 0 69).toInt) ∧ ((u.1 0 95).toInt = (V 0 95).toInt) ∧ ((u.1 0 76).toInt - (u.1 0 69).toInt - (u.1 0 73).toInt ≤ (V 0 76).toInt - (V 0 69).toInt - (V 0 73).toInt) ∧ (Imp (r.toInt ≠ 2) ((u.1 0 76).toInt - (u.1 0 69).toInt - (u.1 0 73).toInt + 1 ≤ (V 0 76).toInt - (V 0 69).toInt - (V 0 73).toInt)) ∧ (RT u.1) ∧ (FRM V u.1 (-1))) (fun u t => gq D A (mw ad kk ks.1 u.1 u.2) (mty kk) t) A
def K_s_wA0 (l : Launch) (D : va_G) (ks : KS) (d1 d2 : Nat) : Prop := ∀ (sz : Nat) (ad : Nat → Nat) (kk : Nat → ClassId) (V : Vf) (L : Lf) (p0 : Int32) (p1 : Int32) (p2 : Int32) (p3 : Int32) (p4 : Int32) (p5 : Int32) (nd : Int) (lo : Nat) (hi : Nat) (hMV : rgd bM V) (rg_p0 : 0 ≤ p0.toInt ∧ p0.toInt ≤ 19999) (rg_p1 : 0 ≤ p1.toInt ∧ p1.toInt ≤ 299) (rg_p3 : 0 ≤ p3.toInt ∧ p3.toInt ≤ 39) (rt : RT V) (n1 : (V 0 65).toInt ≤ (V 0 60).toInt) (n2 : (V 0 95).toInt ≤ (V 0 65).toInt) (n3 : (V 0 73).toInt + (V 0 95).toInt - (V 0 65).toInt ≤ 999000) (n4 : (V 0 76).toInt - (V 0 69).toInt - (V 0 73).toInt ≤ 1000000001) (n5 : 300 - (V 0 60).toInt ≤ (d1 : Int)) (n6 : 10 - (V 0 93).toInt ≤ (d2 : Int)) (oq1 : p1.toInt < (V 0 60).toInt) (n7 : (V 0 98).toInt + 400 * (d2 : Int) + 30 ≤ 19000) (ce : CE nd false V lo hi (Int32.toNatClampNeg p0)) (hq : (hi : Int) ≤ 20000) (ndq : nd ≤ (V 27 (24 * nwh V + Int32.toNatClampNeg (V 61 (Int32.toNatClampNeg p1)))).toInt) , Met l yX12_worksAround (Cond.code yX12_worksAround cX12_worksAround 13 (some .int) :: GW) (rK2 (4 * d1 + 40 * d2 + 11) (100 * d1 + 1000 * d2 + 410)) (va_Pc [.ref (ad 0), .int p0, .int p1, .int p2, .int p3, .int p4, .int p5] (gp D ks (mw ad kk ks.1 V L) (mty kk) sz)) (q_s_wA0 D ks ad kk V L p0 p1 p2 p3 p4 p5 nd lo hi (va_A (mw ad kk ks.1 V L) sz)) 0 0 (va_A (mw ad kk ks.1 V L) sz)
abbrev q_s_wA1 (D : va_G) (ks : KS) (ad : Nat → Nat) (kk : Nat → ClassId) (V : Vf) (L : Lf) (p0 : Int32) (p1 : Int32) (p2 : Int32) (p3 : Int32) (p4 : Int32) (p5 : Int32) (nd : Int) (lo : Nat) (hi : Nat) (A : Nat → Prop) : Array Value → State → Outcome → State → Prop := va_Qi (fun (r : Int32) (u : Vf × Lf) => rgd bM u.1 ∧ agr [(0, 60), (0, 65), (0, 68), (0, 69), (0, 73), (0, 76), (0, 90), (0, 91), (0, 92), (0, 93), (0, 95), (0, 96), (0, 98)] [59, 61, 62, 63, 64, 66, 67, 74, 75, 77, 78, 79, 80, 94, 97] V u.1 ∧ u.2 = L ∧ (0 ≤ r.toInt ∧ r.toInt ≤ 2) ∧ ((u.1 0 93).toInt = (V 0 93).toInt) ∧ ((u.1 0 98).toInt = (V 0 98).toInt) ∧ ((V 0 60).toInt ≤ (u.1 0 60).toInt) ∧ ((V 0 65).toInt ≤ (u.1 0 65).toInt) ∧ ((u.1 0 65).toInt - (V 0 65).toInt ≤ (u.1 0 60).toInt - (V 0 60).toInt) ∧ ((u.1 0 73).toInt + (u.1 0 95).toInt - (u.1 0 65).toInt ≤ (V 0 73).toInt + (V 0 95).toInt - (V 0 65).toInt) ∧ ((V 0 73).toInt ≤ (u.1 0 73).toInt) ∧ ((V 0 69).toInt ≤ (u.1 0 69).toInt) ∧ ((u.1 0 95).toInt = (V 0 95).toInt) ∧ ((u.1 0 76).toInt - (u.1 0 69).toInt - (u.1 0 73).toInt ≤ (V 0 76).toInt - (V 0 69).toInt - (V 0 73).toInt) ∧ (Imp (r.toInt ≠ 2) ((u.1 0 76).toInt - (u.1 0 69).toInt - (u.1 0 73).toInt + 1 ≤ (V 0 76).toInt - (V 0 69).toInt - (V 0 73).toInt)) ∧ (RT u.1) ∧ (FRM V u.1 (-1))) (fun u t => gq D A (mw ad kk ks.1 u.1 u.2) (mty kk) t) A
def K_s_wA1 (l : Launch) (D : va_G) (ks : KS) (d1 d2 d3 : Nat) : Prop := ∀ (sz : Nat) (ad : Nat → Nat) (kk : Nat → ClassId) (V : Vf) (L : Lf) (p0 : Int32) (p1 : Int32) (p2 : Int32) (p3 : Int32) (p4 : Int32) (p5 : Int32) (nd : Int) (lo : Nat) (hi : Nat) (hMV : rgd bM V) (rg_p0 : 0 ≤ p0.toInt ∧ p0.toInt ≤ 19999) (rg_p1 : 0 ≤ p1.toInt ∧ p1.toInt ≤ 299) (rg_p2 : 0 ≤ p2.toInt ∧ p2.toInt ≤ 19) (rg_p3 : 0 ≤ p3.toInt ∧ p3.toInt ≤ 39) (rg_p5 : 1 ≤ p5.toInt ∧ p5.toInt ≤ 12) (rt : RT V) (n1 : (V 0 65).toInt ≤ (V 0 60).toInt) (n2 : (V 0 95).toInt ≤ (V 0 65).toInt) (n3 : (V 0 73).toInt + (V 0 95).toInt - (V 0 65).toInt ≤ 999000) (n4 : (V 0 76).toInt - (V 0 69).toInt - (V 0 73).toInt ≤ 1000000001) (n5 : 300 - (V 0 60).toInt ≤ (d1 : Int)) (n6 : 10 - (V 0 93).toInt ≤ (d2 : Int)) (oq1 : p1.toInt < (V 0 60).toInt) (n7 : (V 0 98).toInt + 400 * (d2 : Int) + 30 * (14 - p5.toInt) ≤ 19000) (ce : CE nd true V lo hi (Int32.toNatClampNeg p0)) (hq : (hi : Int) ≤ 20000) (ndq : nd ≤ (V 27 (24 * nwh V + Int32.toNatClampNeg (V 61 (Int32.toNatClampNeg p1)))).toInt) (n8 : 12 - p5.toInt ≤ (d3 : Int)) , Met l yX12_worksAround (Cond.code yX12_worksAround cX12_worksAround 13 (some .int) :: GW) (rK2 (4 * d1 + 40 * d2 + 15 + 2 * d3) (100 * d1 + 1000 * d2 + 588 + 60 * d3)) (va_Pc [.ref (ad 0), .int p0, .int p1, .int p2, .int p3, .int p4, .int p5] (gp D ks (mw ad kk ks.1 V L) (mty kk) sz)) (q_s_wA1 D ks ad kk V L p0 p1 p2 p3 p4 p5 nd lo hi (va_A (mw ad kk ks.1 V L) sz)) 0 0 (va_A (mw ad kk ks.1 V L) sz)
end
section
theorem w2275 : Cond.code yX12_worksAround cX12_worksAround 13 (some .int) ∈ GW := gw_k tk9_9 200 (rfl) rfl
theorem w2272 : Cond.methodLink RX12 538 yX12_worksAround ∈ GW := gw_k tk9_9 197 (by decide +kernel) rfl
theorem w2274 : Cond.instanceMethod yX12_worksAround ∈ GW := gw_k tk9_9 199 (by decide +kernel) rfl
theorem w137 : Cond.selects RX12 yX12_worksAround yX12_worksAround ∈ GW := gw_mem 137 (by decide +kernel) rfl
theorem hdV_yX12_worksAround : yX12_worksAround.cls = RX12 ∧ yX12_worksAround.cls ≠ "java/lang/invoke/MethodHandle" ∧ yX12_worksAround.cls ≠ "java/lang/invoke/VarHandle" ∧ (parseMethodDescriptor yX12_worksAround.desc).map (fun d => d.parameters.length) = some 6 := by decide +kernel
theorem w2319 : Cond.code yX12_calls cX12_calls 6 (some .int) ∈ GW := gw_k tk9_10 4 (rfl) rfl
theorem w2316 : Cond.methodLink RX12 566 yX12_calls ∈ GW := gw_k tk9_10 1 (by decide +kernel) rfl
theorem w2318 : Cond.instanceMethod yX12_calls ∈ GW := gw_k tk9_10 3 (by decide +kernel) rfl
theorem w148 : Cond.selects RX12 yX12_calls yX12_calls ∈ GW := gw_mem 148 (by decide +kernel) rfl
theorem hdV_yX12_calls : yX12_calls.cls = RX12 ∧ yX12_calls.cls ≠ "java/lang/invoke/MethodHandle" ∧ yX12_calls.cls ≠ "java/lang/invoke/VarHandle" ∧ (parseMethodDescriptor yX12_calls.desc).map (fun d => d.parameters.length) = some 4 := by decide +kernel
theorem w2315 : Cond.code yX12_ofLate cX12_ofLate 11 (some .int) ∈ GW := gw_k tk9_10 0 (rfl) rfl
theorem w2312 : Cond.methodLink RX12 563 yX12_ofLate ∈ GW := gw_k tk9_9 237 (by decide +kernel) rfl
theorem w2314 : Cond.instanceMethod yX12_ofLate ∈ GW := gw_k tk9_9 239 (by decide +kernel) rfl
theorem w147 : Cond.selects RX12 yX12_ofLate yX12_ofLate ∈ GW := gw_mem 147 (by decide +kernel) rfl
theorem hdV_yX12_ofLate : yX12_ofLate.cls = RX12 ∧ yX12_ofLate.cls ≠ "java/lang/invoke/MethodHandle" ∧ yX12_ofLate.cls ≠ "java/lang/invoke/VarHandle" ∧ (parseMethodDescriptor yX12_ofLate.desc).map (fun d => d.parameters.length) = some 6 := by decide +kernel
theorem dk9_dX12_works_0_0 : dOk cX12_works [(0, .aload_n 0, 1), (1, .iload_n 1, 1), (2, .iload_n 2, 1), (3, .iconst (-1), 1), (4, .iload_n 3, 1), (5, .iload 4, 2), (7, .iconst 0, 1), (8, .invokevirtual 538, 3), (11, .ireturn, 1)] = true := by decide +kernel
theorem dX12_works_0 : decode cX12_works 0 = .ok (.aload_n 0, 1) := dr9 dk9_dX12_works_0_0 0 (0, .aload_n 0, 1) rfl
theorem dX12_works_1 : decode cX12_works 1 = .ok (.iload_n 1, 1) := dr9 dk9_dX12_works_0_0 1 (1, .iload_n 1, 1) rfl
theorem dX12_works_2 : decode cX12_works 2 = .ok (.iload_n 2, 1) := dr9 dk9_dX12_works_0_0 2 (2, .iload_n 2, 1) rfl
theorem dX12_works_3 : decode cX12_works 3 = .ok (.iconst (-1), 1) := dr9 dk9_dX12_works_0_0 3 (3, .iconst (-1), 1) rfl
theorem dX12_works_4 : decode cX12_works 4 = .ok (.iload_n 3, 1) := dr9 dk9_dX12_works_0_0 4 (4, .iload_n 3, 1) rfl
theorem dX12_works_5 : decode cX12_works 5 = .ok (.iload 4, 2) := dr9 dk9_dX12_works_0_0 5 (5, .iload 4, 2) rfl
theorem dX12_works_7 : decode cX12_works 7 = .ok (.iconst 0, 1) := dr9 dk9_dX12_works_0_0 6 (7, .iconst 0, 1) rfl
theorem dX12_works_8 : decode cX12_works 8 = .ok (.invokevirtual 538, 3) := dr9 dk9_dX12_works_0_0 7 (8, .invokevirtual 538, 3) rfl
theorem dX12_works_11 : decode cX12_works 11 = .ok (.ireturn, 1) := dr9 dk9_dX12_works_0_0 8 (11, .ireturn, 1) rfl
theorem dk9_dX12_ofNeed_0_0 : dOk cX12_ofNeed [(0, .bipush 8, 2), (2, .bipush 24, 2), (4, .aload_n 0, 1), (5, .getfield 286, 3), (8, .imul, 1), (9, .aload_n 0, 1), (10, .getfield 164, 3), (13, .iload_n 1, 1), (14, .iaload, 1), (15, .iadd, 1), (16, .imul, 1), (17, .iload_n 2, 1), (18, .iadd, 1), (19, .istore 6, 2), (21, .aload_n 0, 1), (22, .getfield 92, 3), (25, .iload 6, 2), (27, .baload, 1), (28, .ifCond .eq 17, 3), (45, .iconst 0, 1), (46, .istore 7, 2), (48, .iconst 0, 1), (49, .istore 8, 2), (51, .iload 8, 2)] = true ∧ dOk cX12_ofNeed [(53, .aload_n 0, 1), (54, .getfield 176, 3), (57, .bipush 8, 2), (59, .iload_n 1, 1), (60, .imul, 1), (61, .iload_n 2, 1), (62, .iadd, 1), (63, .iaload, 1), (64, .if_icmp .ge 54, 3), (118, .aload_n 0, 1), (119, .iload 7, 2), (121, .putfield 545, 3), (124, .iconst 0, 1), (125, .ireturn, 1), (67, .aload_n 0, 1), (68, .aload_n 0, 1), (69, .getfield 180, 3), (72, .bipush 24, 2), (74, .bipush 8, 2), (76, .iload_n 1, 1), (77, .imul, 1), (78, .iload_n 2, 1), (79, .iadd, 1), (80, .imul, 1)] = true ∧ dOk cX12_ofNeed [(81, .iload 8, 2), (83, .iadd, 1), (84, .iaload, 1), (85, .iload_n 3, 1), (86, .iload 4, 2), (88, .iload 5, 2), (90, .invokevirtual 566, 3), (93, .istore 9, 2), (95, .iload 9, 2), (97, .ifCond .le 6, 3), (103, .iload 7, 2), (105, .aload_n 0, 1), (106, .getfield 545, 3), (109, .iadd, 1), (110, .istore 7, 2), (112, .iinc 8 1, 3), (115, .goto (-64), 3), (100, .iload 9, 2), (102, .ireturn, 1), (31, .aload_n 0, 1), (32, .iload_n 1, 1), (33, .iload_n 2, 1), (34, .iload 6, 2), (36, .iload_n 3, 1)] = true ∧ dOk cX12_ofNeed [(37, .iload 4, 2), (39, .iload 5, 2), (41, .invokevirtual 563, 3), (44, .ireturn, 1)] = true := by decide +kernel
theorem dX12_ofNeed_0 : decode cX12_ofNeed 0 = .ok (.bipush 8, 2) := dr9 dk9_dX12_ofNeed_0_0.1 0 (0, .bipush 8, 2) rfl
theorem dX12_ofNeed_2 : decode cX12_ofNeed 2 = .ok (.bipush 24, 2) := dr9 dk9_dX12_ofNeed_0_0.1 1 (2, .bipush 24, 2) rfl
theorem dX12_ofNeed_4 : decode cX12_ofNeed 4 = .ok (.aload_n 0, 1) := dr9 dk9_dX12_ofNeed_0_0.1 2 (4, .aload_n 0, 1) rfl
theorem dX12_ofNeed_5 : decode cX12_ofNeed 5 = .ok (.getfield 286, 3) := dr9 dk9_dX12_ofNeed_0_0.1 3 (5, .getfield 286, 3) rfl
theorem dX12_ofNeed_8 : decode cX12_ofNeed 8 = .ok (.imul, 1) := dr9 dk9_dX12_ofNeed_0_0.1 4 (8, .imul, 1) rfl
theorem dX12_ofNeed_9 : decode cX12_ofNeed 9 = .ok (.aload_n 0, 1) := dr9 dk9_dX12_ofNeed_0_0.1 5 (9, .aload_n 0, 1) rfl
theorem dX12_ofNeed_10 : decode cX12_ofNeed 10 = .ok (.getfield 164, 3) := dr9 dk9_dX12_ofNeed_0_0.1 6 (10, .getfield 164, 3) rfl
theorem dX12_ofNeed_13 : decode cX12_ofNeed 13 = .ok (.iload_n 1, 1) := dr9 dk9_dX12_ofNeed_0_0.1 7 (13, .iload_n 1, 1) rfl
theorem dX12_ofNeed_14 : decode cX12_ofNeed 14 = .ok (.iaload, 1) := dr9 dk9_dX12_ofNeed_0_0.1 8 (14, .iaload, 1) rfl
theorem dX12_ofNeed_15 : decode cX12_ofNeed 15 = .ok (.iadd, 1) := dr9 dk9_dX12_ofNeed_0_0.1 9 (15, .iadd, 1) rfl
theorem dX12_ofNeed_16 : decode cX12_ofNeed 16 = .ok (.imul, 1) := dr9 dk9_dX12_ofNeed_0_0.1 10 (16, .imul, 1) rfl
theorem dX12_ofNeed_17 : decode cX12_ofNeed 17 = .ok (.iload_n 2, 1) := dr9 dk9_dX12_ofNeed_0_0.1 11 (17, .iload_n 2, 1) rfl
theorem dX12_ofNeed_18 : decode cX12_ofNeed 18 = .ok (.iadd, 1) := dr9 dk9_dX12_ofNeed_0_0.1 12 (18, .iadd, 1) rfl
theorem dX12_ofNeed_19 : decode cX12_ofNeed 19 = .ok (.istore 6, 2) := dr9 dk9_dX12_ofNeed_0_0.1 13 (19, .istore 6, 2) rfl
theorem dX12_ofNeed_21 : decode cX12_ofNeed 21 = .ok (.aload_n 0, 1) := dr9 dk9_dX12_ofNeed_0_0.1 14 (21, .aload_n 0, 1) rfl
theorem dX12_ofNeed_22 : decode cX12_ofNeed 22 = .ok (.getfield 92, 3) := dr9 dk9_dX12_ofNeed_0_0.1 15 (22, .getfield 92, 3) rfl
theorem dX12_ofNeed_25 : decode cX12_ofNeed 25 = .ok (.iload 6, 2) := dr9 dk9_dX12_ofNeed_0_0.1 16 (25, .iload 6, 2) rfl
theorem dX12_ofNeed_27 : decode cX12_ofNeed 27 = .ok (.baload, 1) := dr9 dk9_dX12_ofNeed_0_0.1 17 (27, .baload, 1) rfl
theorem dX12_ofNeed_28 : decode cX12_ofNeed 28 = .ok (.ifCond .eq 17, 3) := dr9 dk9_dX12_ofNeed_0_0.1 18 (28, .ifCond .eq 17, 3) rfl
theorem dX12_ofNeed_45 : decode cX12_ofNeed 45 = .ok (.iconst 0, 1) := dr9 dk9_dX12_ofNeed_0_0.1 19 (45, .iconst 0, 1) rfl
theorem dX12_ofNeed_46 : decode cX12_ofNeed 46 = .ok (.istore 7, 2) := dr9 dk9_dX12_ofNeed_0_0.1 20 (46, .istore 7, 2) rfl
theorem dX12_ofNeed_48 : decode cX12_ofNeed 48 = .ok (.iconst 0, 1) := dr9 dk9_dX12_ofNeed_0_0.1 21 (48, .iconst 0, 1) rfl
theorem dX12_ofNeed_49 : decode cX12_ofNeed 49 = .ok (.istore 8, 2) := dr9 dk9_dX12_ofNeed_0_0.1 22 (49, .istore 8, 2) rfl
theorem dX12_ofNeed_51 : decode cX12_ofNeed 51 = .ok (.iload 8, 2) := dr9 dk9_dX12_ofNeed_0_0.1 23 (51, .iload 8, 2) rfl
theorem dX12_ofNeed_53 : decode cX12_ofNeed 53 = .ok (.aload_n 0, 1) := dr9 dk9_dX12_ofNeed_0_0.2.1 0 (53, .aload_n 0, 1) rfl
theorem dX12_ofNeed_54 : decode cX12_ofNeed 54 = .ok (.getfield 176, 3) := dr9 dk9_dX12_ofNeed_0_0.2.1 1 (54, .getfield 176, 3) rfl
theorem dX12_ofNeed_57 : decode cX12_ofNeed 57 = .ok (.bipush 8, 2) := dr9 dk9_dX12_ofNeed_0_0.2.1 2 (57, .bipush 8, 2) rfl
theorem dX12_ofNeed_59 : decode cX12_ofNeed 59 = .ok (.iload_n 1, 1) := dr9 dk9_dX12_ofNeed_0_0.2.1 3 (59, .iload_n 1, 1) rfl
theorem dX12_ofNeed_60 : decode cX12_ofNeed 60 = .ok (.imul, 1) := dr9 dk9_dX12_ofNeed_0_0.2.1 4 (60, .imul, 1) rfl
theorem dX12_ofNeed_61 : decode cX12_ofNeed 61 = .ok (.iload_n 2, 1) := dr9 dk9_dX12_ofNeed_0_0.2.1 5 (61, .iload_n 2, 1) rfl
theorem dX12_ofNeed_62 : decode cX12_ofNeed 62 = .ok (.iadd, 1) := dr9 dk9_dX12_ofNeed_0_0.2.1 6 (62, .iadd, 1) rfl
theorem dX12_ofNeed_63 : decode cX12_ofNeed 63 = .ok (.iaload, 1) := dr9 dk9_dX12_ofNeed_0_0.2.1 7 (63, .iaload, 1) rfl
theorem dX12_ofNeed_64 : decode cX12_ofNeed 64 = .ok (.if_icmp .ge 54, 3) := dr9 dk9_dX12_ofNeed_0_0.2.1 8 (64, .if_icmp .ge 54, 3) rfl
theorem dX12_ofNeed_118 : decode cX12_ofNeed 118 = .ok (.aload_n 0, 1) := dr9 dk9_dX12_ofNeed_0_0.2.1 9 (118, .aload_n 0, 1) rfl
theorem dX12_ofNeed_119 : decode cX12_ofNeed 119 = .ok (.iload 7, 2) := dr9 dk9_dX12_ofNeed_0_0.2.1 10 (119, .iload 7, 2) rfl
theorem dX12_ofNeed_121 : decode cX12_ofNeed 121 = .ok (.putfield 545, 3) := dr9 dk9_dX12_ofNeed_0_0.2.1 11 (121, .putfield 545, 3) rfl
theorem dX12_ofNeed_124 : decode cX12_ofNeed 124 = .ok (.iconst 0, 1) := dr9 dk9_dX12_ofNeed_0_0.2.1 12 (124, .iconst 0, 1) rfl
theorem dX12_ofNeed_125 : decode cX12_ofNeed 125 = .ok (.ireturn, 1) := dr9 dk9_dX12_ofNeed_0_0.2.1 13 (125, .ireturn, 1) rfl
theorem dX12_ofNeed_67 : decode cX12_ofNeed 67 = .ok (.aload_n 0, 1) := dr9 dk9_dX12_ofNeed_0_0.2.1 14 (67, .aload_n 0, 1) rfl
theorem dX12_ofNeed_68 : decode cX12_ofNeed 68 = .ok (.aload_n 0, 1) := dr9 dk9_dX12_ofNeed_0_0.2.1 15 (68, .aload_n 0, 1) rfl
theorem dX12_ofNeed_69 : decode cX12_ofNeed 69 = .ok (.getfield 180, 3) := dr9 dk9_dX12_ofNeed_0_0.2.1 16 (69, .getfield 180, 3) rfl
theorem dX12_ofNeed_72 : decode cX12_ofNeed 72 = .ok (.bipush 24, 2) := dr9 dk9_dX12_ofNeed_0_0.2.1 17 (72, .bipush 24, 2) rfl
theorem dX12_ofNeed_74 : decode cX12_ofNeed 74 = .ok (.bipush 8, 2) := dr9 dk9_dX12_ofNeed_0_0.2.1 18 (74, .bipush 8, 2) rfl
theorem dX12_ofNeed_76 : decode cX12_ofNeed 76 = .ok (.iload_n 1, 1) := dr9 dk9_dX12_ofNeed_0_0.2.1 19 (76, .iload_n 1, 1) rfl
theorem dX12_ofNeed_77 : decode cX12_ofNeed 77 = .ok (.imul, 1) := dr9 dk9_dX12_ofNeed_0_0.2.1 20 (77, .imul, 1) rfl
theorem dX12_ofNeed_78 : decode cX12_ofNeed 78 = .ok (.iload_n 2, 1) := dr9 dk9_dX12_ofNeed_0_0.2.1 21 (78, .iload_n 2, 1) rfl
theorem dX12_ofNeed_79 : decode cX12_ofNeed 79 = .ok (.iadd, 1) := dr9 dk9_dX12_ofNeed_0_0.2.1 22 (79, .iadd, 1) rfl
theorem dX12_ofNeed_80 : decode cX12_ofNeed 80 = .ok (.imul, 1) := dr9 dk9_dX12_ofNeed_0_0.2.1 23 (80, .imul, 1) rfl
theorem dX12_ofNeed_81 : decode cX12_ofNeed 81 = .ok (.iload 8, 2) := dr9 dk9_dX12_ofNeed_0_0.2.2.1 0 (81, .iload 8, 2) rfl
theorem dX12_ofNeed_83 : decode cX12_ofNeed 83 = .ok (.iadd, 1) := dr9 dk9_dX12_ofNeed_0_0.2.2.1 1 (83, .iadd, 1) rfl
theorem dX12_ofNeed_84 : decode cX12_ofNeed 84 = .ok (.iaload, 1) := dr9 dk9_dX12_ofNeed_0_0.2.2.1 2 (84, .iaload, 1) rfl
theorem dX12_ofNeed_85 : decode cX12_ofNeed 85 = .ok (.iload_n 3, 1) := dr9 dk9_dX12_ofNeed_0_0.2.2.1 3 (85, .iload_n 3, 1) rfl
theorem dX12_ofNeed_86 : decode cX12_ofNeed 86 = .ok (.iload 4, 2) := dr9 dk9_dX12_ofNeed_0_0.2.2.1 4 (86, .iload 4, 2) rfl
theorem dX12_ofNeed_88 : decode cX12_ofNeed 88 = .ok (.iload 5, 2) := dr9 dk9_dX12_ofNeed_0_0.2.2.1 5 (88, .iload 5, 2) rfl
theorem dX12_ofNeed_90 : decode cX12_ofNeed 90 = .ok (.invokevirtual 566, 3) := dr9 dk9_dX12_ofNeed_0_0.2.2.1 6 (90, .invokevirtual 566, 3) rfl
theorem dX12_ofNeed_93 : decode cX12_ofNeed 93 = .ok (.istore 9, 2) := dr9 dk9_dX12_ofNeed_0_0.2.2.1 7 (93, .istore 9, 2) rfl
theorem dX12_ofNeed_95 : decode cX12_ofNeed 95 = .ok (.iload 9, 2) := dr9 dk9_dX12_ofNeed_0_0.2.2.1 8 (95, .iload 9, 2) rfl
theorem dX12_ofNeed_97 : decode cX12_ofNeed 97 = .ok (.ifCond .le 6, 3) := dr9 dk9_dX12_ofNeed_0_0.2.2.1 9 (97, .ifCond .le 6, 3) rfl
theorem dX12_ofNeed_103 : decode cX12_ofNeed 103 = .ok (.iload 7, 2) := dr9 dk9_dX12_ofNeed_0_0.2.2.1 10 (103, .iload 7, 2) rfl
theorem dX12_ofNeed_105 : decode cX12_ofNeed 105 = .ok (.aload_n 0, 1) := dr9 dk9_dX12_ofNeed_0_0.2.2.1 11 (105, .aload_n 0, 1) rfl
theorem dX12_ofNeed_106 : decode cX12_ofNeed 106 = .ok (.getfield 545, 3) := dr9 dk9_dX12_ofNeed_0_0.2.2.1 12 (106, .getfield 545, 3) rfl
theorem dX12_ofNeed_109 : decode cX12_ofNeed 109 = .ok (.iadd, 1) := dr9 dk9_dX12_ofNeed_0_0.2.2.1 13 (109, .iadd, 1) rfl
theorem dX12_ofNeed_110 : decode cX12_ofNeed 110 = .ok (.istore 7, 2) := dr9 dk9_dX12_ofNeed_0_0.2.2.1 14 (110, .istore 7, 2) rfl
theorem dX12_ofNeed_112 : decode cX12_ofNeed 112 = .ok (.iinc 8 1, 3) := dr9 dk9_dX12_ofNeed_0_0.2.2.1 15 (112, .iinc 8 1, 3) rfl
theorem dX12_ofNeed_115 : decode cX12_ofNeed 115 = .ok (.goto (-64), 3) := dr9 dk9_dX12_ofNeed_0_0.2.2.1 16 (115, .goto (-64), 3) rfl
theorem dX12_ofNeed_100 : decode cX12_ofNeed 100 = .ok (.iload 9, 2) := dr9 dk9_dX12_ofNeed_0_0.2.2.1 17 (100, .iload 9, 2) rfl
theorem dX12_ofNeed_102 : decode cX12_ofNeed 102 = .ok (.ireturn, 1) := dr9 dk9_dX12_ofNeed_0_0.2.2.1 18 (102, .ireturn, 1) rfl
theorem dX12_ofNeed_31 : decode cX12_ofNeed 31 = .ok (.aload_n 0, 1) := dr9 dk9_dX12_ofNeed_0_0.2.2.1 19 (31, .aload_n 0, 1) rfl
theorem dX12_ofNeed_32 : decode cX12_ofNeed 32 = .ok (.iload_n 1, 1) := dr9 dk9_dX12_ofNeed_0_0.2.2.1 20 (32, .iload_n 1, 1) rfl
theorem dX12_ofNeed_33 : decode cX12_ofNeed 33 = .ok (.iload_n 2, 1) := dr9 dk9_dX12_ofNeed_0_0.2.2.1 21 (33, .iload_n 2, 1) rfl
theorem dX12_ofNeed_34 : decode cX12_ofNeed 34 = .ok (.iload 6, 2) := dr9 dk9_dX12_ofNeed_0_0.2.2.1 22 (34, .iload 6, 2) rfl
theorem dX12_ofNeed_36 : decode cX12_ofNeed 36 = .ok (.iload_n 3, 1) := dr9 dk9_dX12_ofNeed_0_0.2.2.1 23 (36, .iload_n 3, 1) rfl
theorem dX12_ofNeed_37 : decode cX12_ofNeed 37 = .ok (.iload 4, 2) := dr9 dk9_dX12_ofNeed_0_0.2.2.2 0 (37, .iload 4, 2) rfl
theorem dX12_ofNeed_39 : decode cX12_ofNeed 39 = .ok (.iload 5, 2) := dr9 dk9_dX12_ofNeed_0_0.2.2.2 1 (39, .iload 5, 2) rfl
theorem dX12_ofNeed_41 : decode cX12_ofNeed 41 = .ok (.invokevirtual 563, 3) := dr9 dk9_dX12_ofNeed_0_0.2.2.2 2 (41, .invokevirtual 563, 3) rfl
theorem dX12_ofNeed_44 : decode cX12_ofNeed 44 = .ok (.ireturn, 1) := dr9 dk9_dX12_ofNeed_0_0.2.2.2 3 (44, .ireturn, 1) rfl
abbrev q_s_works (D : va_G) (ks : KS) (ad : Nat → Nat) (kk : Nat → ClassId) (V : Vf) (L : Lf) (p0 : Int32) (p1 : Int32) (p2 : Int32) (p3 : Int32) (p4 : Int32) (nd : Int) (lo : Nat) (hi : Nat) (A : Nat → Prop) : Array Value → State → Outcome → State → Prop := va_Qi (fun (r : Int32) (u : Vf × Lf) => rgd bM u.1 ∧ agr [(0, 60), (0, 65), (0, 68), (0, 69), (0, 73), (0, 76), (0, 90), (0, 91), (0, 92), (0, 93), (0, 95), (0, 96), (0, 98)] [59, 61, 62, 63, 64, 66, 67, 74, 75, 77, 78, 79, 80, 94, 97] V u.1 ∧ u.2 = L ∧ (0 ≤ r.toInt ∧ r.toInt ≤ 2) ∧ ((u.1 0 93).toInt = (V 0 93).toInt) ∧ ((u.1 0 98).toInt = (V 0 98).toInt) ∧ ((V 0 60).toInt ≤ (u.1 0 60).toInt) ∧ ((V 0 65).toInt ≤ (u.1 0 65).toInt) ∧ ((u.1 0 65).toInt - (V 0 65).toInt ≤ (u.1 0 60).toInt - (V 0 60).toInt) ∧ ((u.1 0 73).toInt + (u.1 0 95).toInt - (u.1 0 65).toInt ≤ (V 0 73).toInt + (V 0 95).toInt - (V 0 65).toInt) ∧ ((V 0 73).toInt ≤ (u.1 0 73).toInt) ∧ ((V 0 69).toInt ≤ (u.1 0 69).toInt) ∧ ((u.1 0 95).toInt = (V 0 95).toInt) ∧ ((u.1 0 76).toInt - (u.1 0 69).toInt - (u.1 0 73).toInt ≤ (V 0 76).toInt - (V 0 69).toInt - (V 0 73).toInt) ∧ (Imp (r.toInt ≠ 2) ((u.1 0 76).toInt - (u.1 0 69).toInt - (u.1 0 73).toInt + 1 ≤ (V 0 76).toInt - (V 0 69).toInt - (V 0 73).toInt)) ∧ (RT u.1) ∧ (FRM V u.1 (-1))) (fun u t => gq D A (mw ad kk ks.1 u.1 u.2) (mty kk) t) A
def K_s_works (l : Launch) (D : va_G) (ks : KS) (d1 d2 : Nat) : Prop := ∀ (sz : Nat) (ad : Nat → Nat) (kk : Nat → ClassId) (V : Vf) (L : Lf) (p0 : Int32) (p1 : Int32) (p2 : Int32) (p3 : Int32) (p4 : Int32) (nd : Int) (lo : Nat) (hi : Nat) (hMV : rgd bM V) (rg_p0 : 0 ≤ p0.toInt ∧ p0.toInt ≤ 19999) (rg_p1 : 0 ≤ p1.toInt ∧ p1.toInt ≤ 299) (rg_p2 : 0 ≤ p2.toInt ∧ p2.toInt ≤ 39) (rt : RT V) (n1 : (V 0 65).toInt ≤ (V 0 60).toInt) (n2 : (V 0 95).toInt ≤ (V 0 65).toInt) (n3 : (V 0 73).toInt + (V 0 95).toInt - (V 0 65).toInt ≤ 999000) (n4 : (V 0 76).toInt - (V 0 69).toInt - (V 0 73).toInt ≤ 1000000001) (n5 : 300 - (V 0 60).toInt ≤ (d1 : Int)) (n6 : 10 - (V 0 93).toInt ≤ (d2 : Int)) (oq1 : p1.toInt < (V 0 60).toInt) (n7 : (V 0 98).toInt + 400 * (d2 : Int) + 30 ≤ 19000) (ce : CE nd false V lo hi (Int32.toNatClampNeg p0)) (hq : (hi : Int) ≤ 20000) (ndq : nd ≤ (V 27 (24 * nwh V + Int32.toNatClampNeg (V 61 (Int32.toNatClampNeg p1)))).toInt) , Met l yX12_works (Cond.code yX12_works cX12_works 6 (some .int) :: GW) (rK2 (4 * d1 + 40 * d2 + 12) (100 * d1 + 1000 * d2 + 460)) (va_Pc [.ref (ad 0), .int p0, .int p1, .int p2, .int p3, .int p4] (gp D ks (mw ad kk ks.1 V L) (mty kk) sz)) (q_s_works D ks ad kk V L p0 p1 p2 p3 p4 nd lo hi (va_A (mw ad kk ks.1 V L) sz)) 0 0 (va_A (mw ad kk ks.1 V L) sz)
abbrev q_s_ofLate (D : va_G) (ks : KS) (ad : Nat → Nat) (kk : Nat → ClassId) (V : Vf) (L : Lf) (p0 : Int32) (p1 : Int32) (p2 : Int32) (p3 : Int32) (p4 : Int32) (p5 : Int32) (A : Nat → Prop) : Array Value → State → Outcome → State → Prop := va_Qi (fun (r : Int32) (u : Vf × Lf) => rgd bM u.1 ∧ agr [(0, 60), (0, 65), (0, 68), (0, 69), (0, 73), (0, 76), (0, 90), (0, 91), (0, 92), (0, 93), (0, 95), (0, 96), (0, 98)] [59, 61, 62, 63, 64, 66, 67, 74, 75, 77, 78, 79, 80, 94, 97] V u.1 ∧ u.2 = L ∧ (0 ≤ r.toInt ∧ r.toInt ≤ 2) ∧ ((u.1 0 93).toInt = (V 0 93).toInt) ∧ ((u.1 0 98).toInt = (V 0 98).toInt) ∧ ((V 0 60).toInt ≤ (u.1 0 60).toInt) ∧ ((V 0 65).toInt ≤ (u.1 0 65).toInt) ∧ ((u.1 0 65).toInt - (V 0 65).toInt ≤ (u.1 0 60).toInt - (V 0 60).toInt) ∧ ((u.1 0 73).toInt + (u.1 0 95).toInt - (u.1 0 65).toInt ≤ (V 0 73).toInt + (V 0 95).toInt - (V 0 65).toInt) ∧ ((V 0 73).toInt ≤ (u.1 0 73).toInt) ∧ ((V 0 69).toInt ≤ (u.1 0 69).toInt) ∧ ((u.1 0 95).toInt = (V 0 95).toInt) ∧ ((u.1 0 76).toInt - (u.1 0 69).toInt - (u.1 0 73).toInt ≤ (V 0 76).toInt - (V 0 69).toInt - (V 0 73).toInt) ∧ (RT u.1) ∧ (FRM V u.1 (-1))) (fun u t => gq D A (mw ad kk ks.1 u.1 u.2) (mty kk) t) A
def K_s_ofLate (l : Launch) (D : va_G) (ks : KS) (d1 d2 : Nat) : Prop := ∀ (sz : Nat) (ad : Nat → Nat) (kk : Nat → ClassId) (V : Vf) (L : Lf) (p0 : Int32) (p1 : Int32) (p2 : Int32) (p3 : Int32) (p4 : Int32) (p5 : Int32) (hMV : rgd bM V) (rg_p0 : 0 ≤ p0.toInt ∧ p0.toInt ≤ 299) (rg_p1 : 0 ≤ p1.toInt ∧ p1.toInt ≤ 7) (rg_p2 : 0 ≤ p2.toInt ∧ p2.toInt ≤ 383) (rg_p3 : 0 ≤ p3.toInt ∧ p3.toInt ≤ 19) (rg_p4 : 0 ≤ p4.toInt ∧ p4.toInt ≤ 39) (rt : RT V) (n1 : (V 0 65).toInt ≤ (V 0 60).toInt) (n2 : (V 0 95).toInt ≤ (V 0 65).toInt) (n3 : (V 0 73).toInt + (V 0 95).toInt - (V 0 65).toInt ≤ 999000) (n4 : (V 0 76).toInt - (V 0 69).toInt - (V 0 73).toInt ≤ 1000000000) (n5 : 300 - (V 0 60).toInt ≤ (d1 : Int)) (n6 : 10 - (V 0 93).toInt ≤ (d2 : Int)) (oq1 : p0.toInt < (V 0 60).toInt) (n7 : (V 0 98).toInt + 400 * (d2 : Int) ≤ 19000) (nq : p1.toInt < (V 27 (24 * nwh V + Int32.toNatClampNeg (V 61 (Int32.toNatClampNeg p0)))).toInt) (lt : (V 29 (Int32.toNatClampNeg p2)).toInt = 1) (nx2 : p2.toInt = 8 * (24 * (V 0 11).toInt + (V 61 (Int32.toNatClampNeg p0)).toInt) + p1.toInt) , Met l yX12_ofLate (Cond.code yX12_ofLate cX12_ofLate 11 (some .int) :: GW) (rK2 (4 * d1 + 40 * d2 + 9) (100 * d1 + 1000 * d2 + 350)) (va_Pc [.ref (ad 0), .int p0, .int p1, .int p2, .int p3, .int p4, .int p5] (gp D ks (mw ad kk ks.1 V L) (mty kk) sz)) (q_s_ofLate D ks ad kk V L p0 p1 p2 p3 p4 p5 (va_A (mw ad kk ks.1 V L) sz)) 0 0 (va_A (mw ad kk ks.1 V L) sz)
end
section
/-! wraps and methods of an object, at a later version -/
theorem CE.lt {nd : Int} {ar : Bool} {V : Vf} {lo hi a : Nat} (h : CE nd ar V lo hi a) : a < hi := by
  obtain ⟨_, ⟨f, q⟩, _⟩ := h
  cases f with
  | zero => exact q.elim
  | succ f => exact q.2.1
/-- a wrap's E, by its phase -/
theorem TB.wrapE {V : Vf} {o m ph : Int32} {w : Nat} (t : TB V) (hw : (w : Int) < (V 39 (nwh V)).toInt) (b : isWb V o m ph w = true) {ar : Bool} (har : decide (ph.toInt = 1) = ar) : 0 ≤ (V 44 (12 * nwh V + w)).toInt ∧ CE 0 ar V (10000 * nwh V) (10000 * nwh V + 10000) (V 44 (12 * nwh V + w)).toInt.toNat := by
  have q := (show TBL V (nwh V) _ from t).2 w hw
  have b2 := of_decide_eq_true b
  refine ⟨q.1, ?_⟩
  have c := q.2.1
  rw [b2.2.1, har] at c
  exact c
/-- a component's E -/
theorem TB.compE {V : Vf} {c : Nat} (t : TB V) (h : th V c) : cOK V (10000 * nwh V) (10000 * nwh V + 10000) (24 * nwh V + c) := (show TBL V (nwh V) _ from t).1 c h.1
theorem CE.at {nd : Int} {ar : Bool} {V : Vf} {lo hi : Nat} {x : Int32} (h : CE nd ar V lo hi x.toInt.toNat) : CE nd ar V lo hi (Int32.toNatClampNeg x) := h

theorem w2271 : Cond.code yX12_works cX12_works 6 (some .int) ∈ GW := gw_k tk9_9 196 (rfl) rfl
theorem w2268 : Cond.methodLink RX12 503 yX12_works ∈ GW := gw_k tk9_9 193 (by decide +kernel) rfl
theorem w2270 : Cond.instanceMethod yX12_works ∈ GW := gw_k tk9_9 195 (by decide +kernel) rfl
theorem w136 : Cond.selects RX12 yX12_works yX12_works ∈ GW := gw_mem 136 (by decide +kernel) rfl
theorem hdV_yX12_works : yX12_works.cls = RX12 ∧ yX12_works.cls ≠ "java/lang/invoke/MethodHandle" ∧ yX12_works.cls ≠ "java/lang/invoke/VarHandle" ∧ (parseMethodDescriptor yX12_works.desc).map (fun d => d.parameters.length) = some 5 := by decide +kernel
theorem dk9_dX12_closes_0_0 : dOk cX12_closes [(0, .bipush 24, 2), (2, .aload_n 0, 1), (3, .getfield 286, 3), (6, .imul, 1), (7, .aload_n 0, 1), (8, .getfield 164, 3), (11, .iload_n 1, 1), (12, .iaload, 1), (13, .iadd, 1), (14, .istore_n 2, 1), (15, .iconst 0, 1), (16, .istore_n 3, 1), (17, .aload_n 0, 1), (18, .getfield 104, 3), (21, .iload_n 2, 1), (22, .iaload, 1), (23, .ifCond .lt 23, 3), (46, .aload_n 0, 1), (47, .getfield 417, 3), (50, .sipush 300, 3), (53, .if_icmp .ge 56, 3), (109, .aload_n 0, 1), (110, .dup, 1), (111, .getfield 417, 3)] = true ∧ dOk cX12_closes [(114, .iconst 1, 1), (115, .iadd, 1), (116, .putfield 417, 3), (119, .aload_n 0, 1), (120, .getfield 170, 3), (123, .iload_n 1, 1), (124, .iconst 2, 1), (125, .iastore, 1), (126, .iload_n 3, 1), (127, .iconst 2, 1), (128, .if_icmp .ne 7, 3), (135, .iconst 0, 1), (136, .ireturn, 1), (56, .aload_n 0, 1), (57, .getfield 183, 3), (60, .aload_n 0, 1), (61, .getfield 417, 3), (64, .iload_n 1, 1), (65, .iastore, 1), (66, .aload_n 0, 1), (67, .getfield 186, 3), (70, .aload_n 0, 1), (71, .getfield 417, 3), (74, .iload_n 3, 1)] = true ∧ dOk cX12_closes [(75, .ifCond .ne 7, 3), (78, .iconst 0, 1), (79, .goto 29, 3), (108, .iastore, 1), (26, .aload_n 0, 1), (27, .aload_n 0, 1), (28, .getfield 104, 3), (31, .iload_n 2, 1), (32, .iaload, 1), (33, .iload_n 1, 1), (34, .aload_n 0, 1), (35, .getfield 167, 3), (38, .iload_n 1, 1), (39, .iaload, 1), (40, .iconst 0, 1), (41, .iconst (-1), 1), (42, .invokevirtual 503, 3), (45, .istore_n 3, 1), (131, .iconst 1, 1), (132, .goto 4, 3), (82, .iload_n 3, 1), (83, .iconst 2, 1), (84, .if_icmp .ne 8, 3), (92, .aload_n 0, 1)] = true ∧ dOk cX12_closes [(93, .getfield 471, 3), (96, .ifCond .le 8, 3), (104, .aload_n 0, 1), (105, .getfield 474, 3), (99, .bipush 20, 2), (101, .goto 7, 3), (87, .bipush 18, 2), (89, .goto 19, 3)] = true := by decide +kernel
theorem dX12_closes_0 : decode cX12_closes 0 = .ok (.bipush 24, 2) := dr9 dk9_dX12_closes_0_0.1 0 (0, .bipush 24, 2) rfl
theorem dX12_closes_2 : decode cX12_closes 2 = .ok (.aload_n 0, 1) := dr9 dk9_dX12_closes_0_0.1 1 (2, .aload_n 0, 1) rfl
theorem dX12_closes_3 : decode cX12_closes 3 = .ok (.getfield 286, 3) := dr9 dk9_dX12_closes_0_0.1 2 (3, .getfield 286, 3) rfl
theorem dX12_closes_6 : decode cX12_closes 6 = .ok (.imul, 1) := dr9 dk9_dX12_closes_0_0.1 3 (6, .imul, 1) rfl
theorem dX12_closes_7 : decode cX12_closes 7 = .ok (.aload_n 0, 1) := dr9 dk9_dX12_closes_0_0.1 4 (7, .aload_n 0, 1) rfl
theorem dX12_closes_8 : decode cX12_closes 8 = .ok (.getfield 164, 3) := dr9 dk9_dX12_closes_0_0.1 5 (8, .getfield 164, 3) rfl
theorem dX12_closes_11 : decode cX12_closes 11 = .ok (.iload_n 1, 1) := dr9 dk9_dX12_closes_0_0.1 6 (11, .iload_n 1, 1) rfl
theorem dX12_closes_12 : decode cX12_closes 12 = .ok (.iaload, 1) := dr9 dk9_dX12_closes_0_0.1 7 (12, .iaload, 1) rfl
theorem dX12_closes_13 : decode cX12_closes 13 = .ok (.iadd, 1) := dr9 dk9_dX12_closes_0_0.1 8 (13, .iadd, 1) rfl
theorem dX12_closes_14 : decode cX12_closes 14 = .ok (.istore_n 2, 1) := dr9 dk9_dX12_closes_0_0.1 9 (14, .istore_n 2, 1) rfl
theorem dX12_closes_15 : decode cX12_closes 15 = .ok (.iconst 0, 1) := dr9 dk9_dX12_closes_0_0.1 10 (15, .iconst 0, 1) rfl
theorem dX12_closes_16 : decode cX12_closes 16 = .ok (.istore_n 3, 1) := dr9 dk9_dX12_closes_0_0.1 11 (16, .istore_n 3, 1) rfl
theorem dX12_closes_17 : decode cX12_closes 17 = .ok (.aload_n 0, 1) := dr9 dk9_dX12_closes_0_0.1 12 (17, .aload_n 0, 1) rfl
theorem dX12_closes_18 : decode cX12_closes 18 = .ok (.getfield 104, 3) := dr9 dk9_dX12_closes_0_0.1 13 (18, .getfield 104, 3) rfl
theorem dX12_closes_21 : decode cX12_closes 21 = .ok (.iload_n 2, 1) := dr9 dk9_dX12_closes_0_0.1 14 (21, .iload_n 2, 1) rfl
theorem dX12_closes_22 : decode cX12_closes 22 = .ok (.iaload, 1) := dr9 dk9_dX12_closes_0_0.1 15 (22, .iaload, 1) rfl
theorem dX12_closes_23 : decode cX12_closes 23 = .ok (.ifCond .lt 23, 3) := dr9 dk9_dX12_closes_0_0.1 16 (23, .ifCond .lt 23, 3) rfl
theorem dX12_closes_46 : decode cX12_closes 46 = .ok (.aload_n 0, 1) := dr9 dk9_dX12_closes_0_0.1 17 (46, .aload_n 0, 1) rfl
theorem dX12_closes_47 : decode cX12_closes 47 = .ok (.getfield 417, 3) := dr9 dk9_dX12_closes_0_0.1 18 (47, .getfield 417, 3) rfl
theorem dX12_closes_50 : decode cX12_closes 50 = .ok (.sipush 300, 3) := dr9 dk9_dX12_closes_0_0.1 19 (50, .sipush 300, 3) rfl
theorem dX12_closes_53 : decode cX12_closes 53 = .ok (.if_icmp .ge 56, 3) := dr9 dk9_dX12_closes_0_0.1 20 (53, .if_icmp .ge 56, 3) rfl
theorem dX12_closes_109 : decode cX12_closes 109 = .ok (.aload_n 0, 1) := dr9 dk9_dX12_closes_0_0.1 21 (109, .aload_n 0, 1) rfl
theorem dX12_closes_110 : decode cX12_closes 110 = .ok (.dup, 1) := dr9 dk9_dX12_closes_0_0.1 22 (110, .dup, 1) rfl
theorem dX12_closes_111 : decode cX12_closes 111 = .ok (.getfield 417, 3) := dr9 dk9_dX12_closes_0_0.1 23 (111, .getfield 417, 3) rfl
theorem dX12_closes_114 : decode cX12_closes 114 = .ok (.iconst 1, 1) := dr9 dk9_dX12_closes_0_0.2.1 0 (114, .iconst 1, 1) rfl
theorem dX12_closes_115 : decode cX12_closes 115 = .ok (.iadd, 1) := dr9 dk9_dX12_closes_0_0.2.1 1 (115, .iadd, 1) rfl
theorem dX12_closes_116 : decode cX12_closes 116 = .ok (.putfield 417, 3) := dr9 dk9_dX12_closes_0_0.2.1 2 (116, .putfield 417, 3) rfl
theorem dX12_closes_119 : decode cX12_closes 119 = .ok (.aload_n 0, 1) := dr9 dk9_dX12_closes_0_0.2.1 3 (119, .aload_n 0, 1) rfl
theorem dX12_closes_120 : decode cX12_closes 120 = .ok (.getfield 170, 3) := dr9 dk9_dX12_closes_0_0.2.1 4 (120, .getfield 170, 3) rfl
theorem dX12_closes_123 : decode cX12_closes 123 = .ok (.iload_n 1, 1) := dr9 dk9_dX12_closes_0_0.2.1 5 (123, .iload_n 1, 1) rfl
theorem dX12_closes_124 : decode cX12_closes 124 = .ok (.iconst 2, 1) := dr9 dk9_dX12_closes_0_0.2.1 6 (124, .iconst 2, 1) rfl
theorem dX12_closes_125 : decode cX12_closes 125 = .ok (.iastore, 1) := dr9 dk9_dX12_closes_0_0.2.1 7 (125, .iastore, 1) rfl
theorem dX12_closes_126 : decode cX12_closes 126 = .ok (.iload_n 3, 1) := dr9 dk9_dX12_closes_0_0.2.1 8 (126, .iload_n 3, 1) rfl
theorem dX12_closes_127 : decode cX12_closes 127 = .ok (.iconst 2, 1) := dr9 dk9_dX12_closes_0_0.2.1 9 (127, .iconst 2, 1) rfl
theorem dX12_closes_128 : decode cX12_closes 128 = .ok (.if_icmp .ne 7, 3) := dr9 dk9_dX12_closes_0_0.2.1 10 (128, .if_icmp .ne 7, 3) rfl
theorem dX12_closes_135 : decode cX12_closes 135 = .ok (.iconst 0, 1) := dr9 dk9_dX12_closes_0_0.2.1 11 (135, .iconst 0, 1) rfl
theorem dX12_closes_136 : decode cX12_closes 136 = .ok (.ireturn, 1) := dr9 dk9_dX12_closes_0_0.2.1 12 (136, .ireturn, 1) rfl
theorem dX12_closes_56 : decode cX12_closes 56 = .ok (.aload_n 0, 1) := dr9 dk9_dX12_closes_0_0.2.1 13 (56, .aload_n 0, 1) rfl
theorem dX12_closes_57 : decode cX12_closes 57 = .ok (.getfield 183, 3) := dr9 dk9_dX12_closes_0_0.2.1 14 (57, .getfield 183, 3) rfl
theorem dX12_closes_60 : decode cX12_closes 60 = .ok (.aload_n 0, 1) := dr9 dk9_dX12_closes_0_0.2.1 15 (60, .aload_n 0, 1) rfl
theorem dX12_closes_61 : decode cX12_closes 61 = .ok (.getfield 417, 3) := dr9 dk9_dX12_closes_0_0.2.1 16 (61, .getfield 417, 3) rfl
theorem dX12_closes_64 : decode cX12_closes 64 = .ok (.iload_n 1, 1) := dr9 dk9_dX12_closes_0_0.2.1 17 (64, .iload_n 1, 1) rfl
theorem dX12_closes_65 : decode cX12_closes 65 = .ok (.iastore, 1) := dr9 dk9_dX12_closes_0_0.2.1 18 (65, .iastore, 1) rfl
theorem dX12_closes_66 : decode cX12_closes 66 = .ok (.aload_n 0, 1) := dr9 dk9_dX12_closes_0_0.2.1 19 (66, .aload_n 0, 1) rfl
theorem dX12_closes_67 : decode cX12_closes 67 = .ok (.getfield 186, 3) := dr9 dk9_dX12_closes_0_0.2.1 20 (67, .getfield 186, 3) rfl
theorem dX12_closes_70 : decode cX12_closes 70 = .ok (.aload_n 0, 1) := dr9 dk9_dX12_closes_0_0.2.1 21 (70, .aload_n 0, 1) rfl
theorem dX12_closes_71 : decode cX12_closes 71 = .ok (.getfield 417, 3) := dr9 dk9_dX12_closes_0_0.2.1 22 (71, .getfield 417, 3) rfl
theorem dX12_closes_74 : decode cX12_closes 74 = .ok (.iload_n 3, 1) := dr9 dk9_dX12_closes_0_0.2.1 23 (74, .iload_n 3, 1) rfl
theorem dX12_closes_75 : decode cX12_closes 75 = .ok (.ifCond .ne 7, 3) := dr9 dk9_dX12_closes_0_0.2.2.1 0 (75, .ifCond .ne 7, 3) rfl
theorem dX12_closes_78 : decode cX12_closes 78 = .ok (.iconst 0, 1) := dr9 dk9_dX12_closes_0_0.2.2.1 1 (78, .iconst 0, 1) rfl
theorem dX12_closes_79 : decode cX12_closes 79 = .ok (.goto 29, 3) := dr9 dk9_dX12_closes_0_0.2.2.1 2 (79, .goto 29, 3) rfl
theorem dX12_closes_108 : decode cX12_closes 108 = .ok (.iastore, 1) := dr9 dk9_dX12_closes_0_0.2.2.1 3 (108, .iastore, 1) rfl
theorem dX12_closes_26 : decode cX12_closes 26 = .ok (.aload_n 0, 1) := dr9 dk9_dX12_closes_0_0.2.2.1 4 (26, .aload_n 0, 1) rfl
theorem dX12_closes_27 : decode cX12_closes 27 = .ok (.aload_n 0, 1) := dr9 dk9_dX12_closes_0_0.2.2.1 5 (27, .aload_n 0, 1) rfl
theorem dX12_closes_28 : decode cX12_closes 28 = .ok (.getfield 104, 3) := dr9 dk9_dX12_closes_0_0.2.2.1 6 (28, .getfield 104, 3) rfl
theorem dX12_closes_31 : decode cX12_closes 31 = .ok (.iload_n 2, 1) := dr9 dk9_dX12_closes_0_0.2.2.1 7 (31, .iload_n 2, 1) rfl
theorem dX12_closes_32 : decode cX12_closes 32 = .ok (.iaload, 1) := dr9 dk9_dX12_closes_0_0.2.2.1 8 (32, .iaload, 1) rfl
theorem dX12_closes_33 : decode cX12_closes 33 = .ok (.iload_n 1, 1) := dr9 dk9_dX12_closes_0_0.2.2.1 9 (33, .iload_n 1, 1) rfl
theorem dX12_closes_34 : decode cX12_closes 34 = .ok (.aload_n 0, 1) := dr9 dk9_dX12_closes_0_0.2.2.1 10 (34, .aload_n 0, 1) rfl
theorem dX12_closes_35 : decode cX12_closes 35 = .ok (.getfield 167, 3) := dr9 dk9_dX12_closes_0_0.2.2.1 11 (35, .getfield 167, 3) rfl
theorem dX12_closes_38 : decode cX12_closes 38 = .ok (.iload_n 1, 1) := dr9 dk9_dX12_closes_0_0.2.2.1 12 (38, .iload_n 1, 1) rfl
theorem dX12_closes_39 : decode cX12_closes 39 = .ok (.iaload, 1) := dr9 dk9_dX12_closes_0_0.2.2.1 13 (39, .iaload, 1) rfl
theorem dX12_closes_40 : decode cX12_closes 40 = .ok (.iconst 0, 1) := dr9 dk9_dX12_closes_0_0.2.2.1 14 (40, .iconst 0, 1) rfl
theorem dX12_closes_41 : decode cX12_closes 41 = .ok (.iconst (-1), 1) := dr9 dk9_dX12_closes_0_0.2.2.1 15 (41, .iconst (-1), 1) rfl
theorem dX12_closes_42 : decode cX12_closes 42 = .ok (.invokevirtual 503, 3) := dr9 dk9_dX12_closes_0_0.2.2.1 16 (42, .invokevirtual 503, 3) rfl
theorem dX12_closes_45 : decode cX12_closes 45 = .ok (.istore_n 3, 1) := dr9 dk9_dX12_closes_0_0.2.2.1 17 (45, .istore_n 3, 1) rfl
theorem dX12_closes_131 : decode cX12_closes 131 = .ok (.iconst 1, 1) := dr9 dk9_dX12_closes_0_0.2.2.1 18 (131, .iconst 1, 1) rfl
theorem dX12_closes_132 : decode cX12_closes 132 = .ok (.goto 4, 3) := dr9 dk9_dX12_closes_0_0.2.2.1 19 (132, .goto 4, 3) rfl
theorem dX12_closes_82 : decode cX12_closes 82 = .ok (.iload_n 3, 1) := dr9 dk9_dX12_closes_0_0.2.2.1 20 (82, .iload_n 3, 1) rfl
theorem dX12_closes_83 : decode cX12_closes 83 = .ok (.iconst 2, 1) := dr9 dk9_dX12_closes_0_0.2.2.1 21 (83, .iconst 2, 1) rfl
theorem dX12_closes_84 : decode cX12_closes 84 = .ok (.if_icmp .ne 8, 3) := dr9 dk9_dX12_closes_0_0.2.2.1 22 (84, .if_icmp .ne 8, 3) rfl
theorem dX12_closes_92 : decode cX12_closes 92 = .ok (.aload_n 0, 1) := dr9 dk9_dX12_closes_0_0.2.2.1 23 (92, .aload_n 0, 1) rfl
theorem dX12_closes_93 : decode cX12_closes 93 = .ok (.getfield 471, 3) := dr9 dk9_dX12_closes_0_0.2.2.2 0 (93, .getfield 471, 3) rfl
theorem dX12_closes_96 : decode cX12_closes 96 = .ok (.ifCond .le 8, 3) := dr9 dk9_dX12_closes_0_0.2.2.2 1 (96, .ifCond .le 8, 3) rfl
theorem dX12_closes_104 : decode cX12_closes 104 = .ok (.aload_n 0, 1) := dr9 dk9_dX12_closes_0_0.2.2.2 2 (104, .aload_n 0, 1) rfl
theorem dX12_closes_105 : decode cX12_closes 105 = .ok (.getfield 474, 3) := dr9 dk9_dX12_closes_0_0.2.2.2 3 (105, .getfield 474, 3) rfl
theorem dX12_closes_99 : decode cX12_closes 99 = .ok (.bipush 20, 2) := dr9 dk9_dX12_closes_0_0.2.2.2 4 (99, .bipush 20, 2) rfl
theorem dX12_closes_101 : decode cX12_closes 101 = .ok (.goto 7, 3) := dr9 dk9_dX12_closes_0_0.2.2.2 5 (101, .goto 7, 3) rfl
theorem dX12_closes_87 : decode cX12_closes 87 = .ok (.bipush 18, 2) := dr9 dk9_dX12_closes_0_0.2.2.2 6 (87, .bipush 18, 2) rfl
theorem dX12_closes_89 : decode cX12_closes 89 = .ok (.goto 19, 3) := dr9 dk9_dX12_closes_0_0.2.2.2 7 (89, .goto 19, 3) rfl
abbrev q_s_closes (D : va_G) (ks : KS) (ad : Nat → Nat) (kk : Nat → ClassId) (V : Vf) (L : Lf) (p0 : Int32) (A : Nat → Prop) : Array Value → State → Outcome → State → Prop := va_Qi (fun (r : Int32) (u : Vf × Lf) => rgd bM u.1 ∧ agr [(0, 60), (0, 65), (0, 68), (0, 69), (0, 73), (0, 76), (0, 90), (0, 91), (0, 92), (0, 93), (0, 95), (0, 96), (0, 98)] [59, 61, 62, 63, 64, 66, 67, 74, 75, 77, 78, 79, 80, 94, 97] V u.1 ∧ u.2 = L ∧ (0 ≤ r.toInt ∧ r.toInt ≤ 1) ∧ ((u.1 0 93).toInt = (V 0 93).toInt) ∧ ((u.1 0 98).toInt = (V 0 98).toInt) ∧ ((V 0 60).toInt ≤ (u.1 0 60).toInt) ∧ ((V 0 65).toInt ≤ (u.1 0 65).toInt) ∧ ((u.1 0 65).toInt - (V 0 65).toInt ≤ (u.1 0 60).toInt - (V 0 60).toInt) ∧ ((u.1 0 73).toInt + (u.1 0 95).toInt - (u.1 0 65).toInt ≤ (V 0 73).toInt + (V 0 95).toInt - (V 0 65).toInt + 1) ∧ ((V 0 73).toInt ≤ (u.1 0 73).toInt) ∧ ((V 0 69).toInt ≤ (u.1 0 69).toInt) ∧ ((u.1 0 95).toInt = (V 0 95).toInt) ∧ ((u.1 0 76).toInt - (u.1 0 69).toInt - (u.1 0 73).toInt ≤ (V 0 76).toInt - (V 0 69).toInt - (V 0 73).toInt) ∧ ((u.1 63 (Int32.toNatClampNeg p0)).toInt = 2) ∧ (RT u.1) ∧ (FRM V u.1 (-1))) (fun u t => gq D A (mw ad kk ks.1 u.1 u.2) (mty kk) t) A
def K_s_closes (l : Launch) (D : va_G) (ks : KS) (d1 d2 : Nat) : Prop := ∀ (sz : Nat) (ad : Nat → Nat) (kk : Nat → ClassId) (V : Vf) (L : Lf) (p0 : Int32) (hMV : rgd bM V) (rg_p0 : 0 ≤ p0.toInt ∧ p0.toInt ≤ 299) (rt : RT V) (n1 : (V 0 65).toInt ≤ (V 0 60).toInt) (n2 : (V 0 95).toInt ≤ (V 0 65).toInt) (n3 : (V 0 73).toInt + (V 0 95).toInt - (V 0 65).toInt ≤ 999000) (n4 : (V 0 76).toInt - (V 0 69).toInt - (V 0 73).toInt ≤ 1000000000) (n5 : 300 - (V 0 60).toInt ≤ (d1 : Int)) (n6 : 10 - (V 0 93).toInt ≤ (d2 : Int)) (oq1 : p0.toInt < (V 0 60).toInt) (n7 : (V 0 98).toInt + 400 * (d2 : Int) + 30 ≤ 19000) (st1 : 1 ≤ (V 63 (Int32.toNatClampNeg p0)).toInt) , Met l yX12_closes (Cond.code yX12_closes cX12_closes 4 (some .boolean) :: GW) (rK2 (4 * d1 + 40 * d2 + 13) (100 * d1 + 1000 * d2 + 500)) (va_Pc [.ref (ad 0), .int p0] (gp D ks (mw ad kk ks.1 V L) (mty kk) sz)) (q_s_closes D ks ad kk V L p0 (va_A (mw ad kk ks.1 V L) sz)) 0 0 (va_A (mw ad kk ks.1 V L) sz)
end
section
theorem w2254 : Cond.code yX12_objectAt cX12_objectAt 5 (some .int) ∈ GW := gw_k tk9_9 179 (rfl) rfl
theorem w2251 : Cond.methodLink RX12 487 yX12_objectAt ∈ GW := gw_k tk9_9 176 (by decide +kernel) rfl
theorem w2253 : Cond.instanceMethod yX12_objectAt ∈ GW := gw_k tk9_9 178 (by decide +kernel) rfl
theorem w132 : Cond.selects RX12 yX12_objectAt yX12_objectAt ∈ GW := gw_mem 132 (by decide +kernel) rfl
theorem hdV_yX12_objectAt : yX12_objectAt.cls = RX12 ∧ yX12_objectAt.cls ≠ "java/lang/invoke/MethodHandle" ∧ yX12_objectAt.cls ≠ "java/lang/invoke/VarHandle" ∧ (parseMethodDescriptor yX12_objectAt.desc).map (fun d => d.parameters.length) = some 2 := by decide +kernel
theorem w2258 : Cond.code yX12_makes cX12_makes 6 (some .int) ∈ GW := gw_k tk9_9 183 (rfl) rfl
theorem w2255 : Cond.methodLink RX12 493 yX12_makes ∈ GW := gw_k tk9_9 180 (by decide +kernel) rfl
theorem w2257 : Cond.instanceMethod yX12_makes ∈ GW := gw_k tk9_9 182 (by decide +kernel) rfl
theorem w133 : Cond.selects RX12 yX12_makes yX12_makes ∈ GW := gw_mem 133 (by decide +kernel) rfl
theorem hdV_yX12_makes : yX12_makes.cls = RX12 ∧ yX12_makes.cls ≠ "java/lang/invoke/MethodHandle" ∧ yX12_makes.cls ≠ "java/lang/invoke/VarHandle" ∧ (parseMethodDescriptor yX12_makes.desc).map (fun d => d.parameters.length) = some 3 := by decide +kernel
theorem w1798 : Cond.fieldLink RX12 490 "WiringHouseModel" "got" "I" ∈ GW := gw_k tk9_7 203 (by decide +kernel) rfl
theorem dk9_dX12_gets_0_0 : dOk cX12_gets [(0, .aload_n 0, 1), (1, .iload_n 1, 1), (2, .iload_n 2, 1), (3, .invokevirtual 481, 3), (6, .istore_n 3, 1), (7, .iload_n 3, 1), (8, .ifCond .ge 10, 3), (18, .aload_n 0, 1), (19, .getfield 71, 3), (22, .bipush 24, 2), (24, .aload_n 0, 1), (25, .getfield 286, 3), (28, .imul, 1), (29, .iload_n 1, 1), (30, .iadd, 1), (31, .iaload, 1), (32, .iconst 3, 1), (33, .if_icmp .ne 7, 3), (40, .iconst 0, 1), (41, .istore 4, 2), (43, .aload_n 0, 1), (44, .getfield 161, 3), (47, .bipush 24, 2), (49, .iload_n 3, 1)] = true ∧ dOk cX12_gets [(50, .imul, 1), (51, .iload_n 1, 1), (52, .iadd, 1), (53, .baload, 1), (54, .ifCond .eq 10, 3), (64, .iload 4, 2), (66, .ifCond .eq 7, 3), (73, .aload_n 0, 1), (74, .iload_n 1, 1), (75, .iload_n 3, 1), (76, .invokevirtual 487, 3), (79, .istore 5, 2), (81, .iload 5, 2), (83, .ifCond .lt 20, 3), (103, .iload 5, 2), (105, .ifCond .lt 11, 3), (116, .aload_n 0, 1), (117, .iload_n 1, 1), (118, .iload_n 3, 1), (119, .iload 4, 2), (121, .invokevirtual 493, 3), (124, .ireturn, 1), (86, .aload_n 0, 1), (87, .getfield 170, 3)] = true ∧ dOk cX12_gets [(90, .iload 5, 2), (92, .iaload, 1), (93, .ifCond .ne 10, 3), (108, .aload_n 0, 1), (109, .iload 5, 2), (111, .putfield 490, 3), (114, .iconst 0, 1), (115, .ireturn, 1), (96, .aload_n 0, 1), (97, .bipush 12, 2), (99, .invokevirtual 484, 3), (102, .ireturn, 1), (57, .aload_n 0, 1), (58, .bipush 15, 2), (60, .invokevirtual 484, 3), (63, .ireturn, 1), (36, .iconst 1, 1), (37, .goto 4, 3), (69, .iconst (-1), 1), (70, .goto 9, 3), (11, .aload_n 0, 1), (12, .bipush 14, 2), (14, .invokevirtual 484, 3), (17, .ireturn, 1)] = true := by decide +kernel
theorem dX12_gets_0 : decode cX12_gets 0 = .ok (.aload_n 0, 1) := dr9 dk9_dX12_gets_0_0.1 0 (0, .aload_n 0, 1) rfl
theorem dX12_gets_1 : decode cX12_gets 1 = .ok (.iload_n 1, 1) := dr9 dk9_dX12_gets_0_0.1 1 (1, .iload_n 1, 1) rfl
theorem dX12_gets_2 : decode cX12_gets 2 = .ok (.iload_n 2, 1) := dr9 dk9_dX12_gets_0_0.1 2 (2, .iload_n 2, 1) rfl
theorem dX12_gets_3 : decode cX12_gets 3 = .ok (.invokevirtual 481, 3) := dr9 dk9_dX12_gets_0_0.1 3 (3, .invokevirtual 481, 3) rfl
theorem dX12_gets_6 : decode cX12_gets 6 = .ok (.istore_n 3, 1) := dr9 dk9_dX12_gets_0_0.1 4 (6, .istore_n 3, 1) rfl
theorem dX12_gets_7 : decode cX12_gets 7 = .ok (.iload_n 3, 1) := dr9 dk9_dX12_gets_0_0.1 5 (7, .iload_n 3, 1) rfl
theorem dX12_gets_8 : decode cX12_gets 8 = .ok (.ifCond .ge 10, 3) := dr9 dk9_dX12_gets_0_0.1 6 (8, .ifCond .ge 10, 3) rfl
theorem dX12_gets_18 : decode cX12_gets 18 = .ok (.aload_n 0, 1) := dr9 dk9_dX12_gets_0_0.1 7 (18, .aload_n 0, 1) rfl
theorem dX12_gets_19 : decode cX12_gets 19 = .ok (.getfield 71, 3) := dr9 dk9_dX12_gets_0_0.1 8 (19, .getfield 71, 3) rfl
theorem dX12_gets_22 : decode cX12_gets 22 = .ok (.bipush 24, 2) := dr9 dk9_dX12_gets_0_0.1 9 (22, .bipush 24, 2) rfl
theorem dX12_gets_24 : decode cX12_gets 24 = .ok (.aload_n 0, 1) := dr9 dk9_dX12_gets_0_0.1 10 (24, .aload_n 0, 1) rfl
theorem dX12_gets_25 : decode cX12_gets 25 = .ok (.getfield 286, 3) := dr9 dk9_dX12_gets_0_0.1 11 (25, .getfield 286, 3) rfl
theorem dX12_gets_28 : decode cX12_gets 28 = .ok (.imul, 1) := dr9 dk9_dX12_gets_0_0.1 12 (28, .imul, 1) rfl
theorem dX12_gets_29 : decode cX12_gets 29 = .ok (.iload_n 1, 1) := dr9 dk9_dX12_gets_0_0.1 13 (29, .iload_n 1, 1) rfl
theorem dX12_gets_30 : decode cX12_gets 30 = .ok (.iadd, 1) := dr9 dk9_dX12_gets_0_0.1 14 (30, .iadd, 1) rfl
theorem dX12_gets_31 : decode cX12_gets 31 = .ok (.iaload, 1) := dr9 dk9_dX12_gets_0_0.1 15 (31, .iaload, 1) rfl
theorem dX12_gets_32 : decode cX12_gets 32 = .ok (.iconst 3, 1) := dr9 dk9_dX12_gets_0_0.1 16 (32, .iconst 3, 1) rfl
theorem dX12_gets_33 : decode cX12_gets 33 = .ok (.if_icmp .ne 7, 3) := dr9 dk9_dX12_gets_0_0.1 17 (33, .if_icmp .ne 7, 3) rfl
theorem dX12_gets_40 : decode cX12_gets 40 = .ok (.iconst 0, 1) := dr9 dk9_dX12_gets_0_0.1 18 (40, .iconst 0, 1) rfl
theorem dX12_gets_41 : decode cX12_gets 41 = .ok (.istore 4, 2) := dr9 dk9_dX12_gets_0_0.1 19 (41, .istore 4, 2) rfl
theorem dX12_gets_43 : decode cX12_gets 43 = .ok (.aload_n 0, 1) := dr9 dk9_dX12_gets_0_0.1 20 (43, .aload_n 0, 1) rfl
theorem dX12_gets_44 : decode cX12_gets 44 = .ok (.getfield 161, 3) := dr9 dk9_dX12_gets_0_0.1 21 (44, .getfield 161, 3) rfl
theorem dX12_gets_47 : decode cX12_gets 47 = .ok (.bipush 24, 2) := dr9 dk9_dX12_gets_0_0.1 22 (47, .bipush 24, 2) rfl
theorem dX12_gets_49 : decode cX12_gets 49 = .ok (.iload_n 3, 1) := dr9 dk9_dX12_gets_0_0.1 23 (49, .iload_n 3, 1) rfl
theorem dX12_gets_50 : decode cX12_gets 50 = .ok (.imul, 1) := dr9 dk9_dX12_gets_0_0.2.1 0 (50, .imul, 1) rfl
theorem dX12_gets_51 : decode cX12_gets 51 = .ok (.iload_n 1, 1) := dr9 dk9_dX12_gets_0_0.2.1 1 (51, .iload_n 1, 1) rfl
theorem dX12_gets_52 : decode cX12_gets 52 = .ok (.iadd, 1) := dr9 dk9_dX12_gets_0_0.2.1 2 (52, .iadd, 1) rfl
theorem dX12_gets_53 : decode cX12_gets 53 = .ok (.baload, 1) := dr9 dk9_dX12_gets_0_0.2.1 3 (53, .baload, 1) rfl
theorem dX12_gets_54 : decode cX12_gets 54 = .ok (.ifCond .eq 10, 3) := dr9 dk9_dX12_gets_0_0.2.1 4 (54, .ifCond .eq 10, 3) rfl
theorem dX12_gets_64 : decode cX12_gets 64 = .ok (.iload 4, 2) := dr9 dk9_dX12_gets_0_0.2.1 5 (64, .iload 4, 2) rfl
theorem dX12_gets_66 : decode cX12_gets 66 = .ok (.ifCond .eq 7, 3) := dr9 dk9_dX12_gets_0_0.2.1 6 (66, .ifCond .eq 7, 3) rfl
theorem dX12_gets_73 : decode cX12_gets 73 = .ok (.aload_n 0, 1) := dr9 dk9_dX12_gets_0_0.2.1 7 (73, .aload_n 0, 1) rfl
theorem dX12_gets_74 : decode cX12_gets 74 = .ok (.iload_n 1, 1) := dr9 dk9_dX12_gets_0_0.2.1 8 (74, .iload_n 1, 1) rfl
theorem dX12_gets_75 : decode cX12_gets 75 = .ok (.iload_n 3, 1) := dr9 dk9_dX12_gets_0_0.2.1 9 (75, .iload_n 3, 1) rfl
theorem dX12_gets_76 : decode cX12_gets 76 = .ok (.invokevirtual 487, 3) := dr9 dk9_dX12_gets_0_0.2.1 10 (76, .invokevirtual 487, 3) rfl
theorem dX12_gets_79 : decode cX12_gets 79 = .ok (.istore 5, 2) := dr9 dk9_dX12_gets_0_0.2.1 11 (79, .istore 5, 2) rfl
theorem dX12_gets_81 : decode cX12_gets 81 = .ok (.iload 5, 2) := dr9 dk9_dX12_gets_0_0.2.1 12 (81, .iload 5, 2) rfl
theorem dX12_gets_83 : decode cX12_gets 83 = .ok (.ifCond .lt 20, 3) := dr9 dk9_dX12_gets_0_0.2.1 13 (83, .ifCond .lt 20, 3) rfl
theorem dX12_gets_103 : decode cX12_gets 103 = .ok (.iload 5, 2) := dr9 dk9_dX12_gets_0_0.2.1 14 (103, .iload 5, 2) rfl
theorem dX12_gets_105 : decode cX12_gets 105 = .ok (.ifCond .lt 11, 3) := dr9 dk9_dX12_gets_0_0.2.1 15 (105, .ifCond .lt 11, 3) rfl
theorem dX12_gets_116 : decode cX12_gets 116 = .ok (.aload_n 0, 1) := dr9 dk9_dX12_gets_0_0.2.1 16 (116, .aload_n 0, 1) rfl
theorem dX12_gets_117 : decode cX12_gets 117 = .ok (.iload_n 1, 1) := dr9 dk9_dX12_gets_0_0.2.1 17 (117, .iload_n 1, 1) rfl
theorem dX12_gets_118 : decode cX12_gets 118 = .ok (.iload_n 3, 1) := dr9 dk9_dX12_gets_0_0.2.1 18 (118, .iload_n 3, 1) rfl
theorem dX12_gets_119 : decode cX12_gets 119 = .ok (.iload 4, 2) := dr9 dk9_dX12_gets_0_0.2.1 19 (119, .iload 4, 2) rfl
theorem dX12_gets_121 : decode cX12_gets 121 = .ok (.invokevirtual 493, 3) := dr9 dk9_dX12_gets_0_0.2.1 20 (121, .invokevirtual 493, 3) rfl
theorem dX12_gets_124 : decode cX12_gets 124 = .ok (.ireturn, 1) := dr9 dk9_dX12_gets_0_0.2.1 21 (124, .ireturn, 1) rfl
theorem dX12_gets_86 : decode cX12_gets 86 = .ok (.aload_n 0, 1) := dr9 dk9_dX12_gets_0_0.2.1 22 (86, .aload_n 0, 1) rfl
theorem dX12_gets_87 : decode cX12_gets 87 = .ok (.getfield 170, 3) := dr9 dk9_dX12_gets_0_0.2.1 23 (87, .getfield 170, 3) rfl
theorem dX12_gets_90 : decode cX12_gets 90 = .ok (.iload 5, 2) := dr9 dk9_dX12_gets_0_0.2.2 0 (90, .iload 5, 2) rfl
theorem dX12_gets_92 : decode cX12_gets 92 = .ok (.iaload, 1) := dr9 dk9_dX12_gets_0_0.2.2 1 (92, .iaload, 1) rfl
theorem dX12_gets_93 : decode cX12_gets 93 = .ok (.ifCond .ne 10, 3) := dr9 dk9_dX12_gets_0_0.2.2 2 (93, .ifCond .ne 10, 3) rfl
theorem dX12_gets_108 : decode cX12_gets 108 = .ok (.aload_n 0, 1) := dr9 dk9_dX12_gets_0_0.2.2 3 (108, .aload_n 0, 1) rfl
theorem dX12_gets_109 : decode cX12_gets 109 = .ok (.iload 5, 2) := dr9 dk9_dX12_gets_0_0.2.2 4 (109, .iload 5, 2) rfl
theorem dX12_gets_111 : decode cX12_gets 111 = .ok (.putfield 490, 3) := dr9 dk9_dX12_gets_0_0.2.2 5 (111, .putfield 490, 3) rfl
theorem dX12_gets_114 : decode cX12_gets 114 = .ok (.iconst 0, 1) := dr9 dk9_dX12_gets_0_0.2.2 6 (114, .iconst 0, 1) rfl
theorem dX12_gets_115 : decode cX12_gets 115 = .ok (.ireturn, 1) := dr9 dk9_dX12_gets_0_0.2.2 7 (115, .ireturn, 1) rfl
theorem dX12_gets_96 : decode cX12_gets 96 = .ok (.aload_n 0, 1) := dr9 dk9_dX12_gets_0_0.2.2 8 (96, .aload_n 0, 1) rfl
theorem dX12_gets_97 : decode cX12_gets 97 = .ok (.bipush 12, 2) := dr9 dk9_dX12_gets_0_0.2.2 9 (97, .bipush 12, 2) rfl
theorem dX12_gets_99 : decode cX12_gets 99 = .ok (.invokevirtual 484, 3) := dr9 dk9_dX12_gets_0_0.2.2 10 (99, .invokevirtual 484, 3) rfl
theorem dX12_gets_102 : decode cX12_gets 102 = .ok (.ireturn, 1) := dr9 dk9_dX12_gets_0_0.2.2 11 (102, .ireturn, 1) rfl
theorem dX12_gets_57 : decode cX12_gets 57 = .ok (.aload_n 0, 1) := dr9 dk9_dX12_gets_0_0.2.2 12 (57, .aload_n 0, 1) rfl
theorem dX12_gets_58 : decode cX12_gets 58 = .ok (.bipush 15, 2) := dr9 dk9_dX12_gets_0_0.2.2 13 (58, .bipush 15, 2) rfl
theorem dX12_gets_60 : decode cX12_gets 60 = .ok (.invokevirtual 484, 3) := dr9 dk9_dX12_gets_0_0.2.2 14 (60, .invokevirtual 484, 3) rfl
theorem dX12_gets_63 : decode cX12_gets 63 = .ok (.ireturn, 1) := dr9 dk9_dX12_gets_0_0.2.2 15 (63, .ireturn, 1) rfl
theorem dX12_gets_36 : decode cX12_gets 36 = .ok (.iconst 1, 1) := dr9 dk9_dX12_gets_0_0.2.2 16 (36, .iconst 1, 1) rfl
theorem dX12_gets_37 : decode cX12_gets 37 = .ok (.goto 4, 3) := dr9 dk9_dX12_gets_0_0.2.2 17 (37, .goto 4, 3) rfl
theorem dX12_gets_69 : decode cX12_gets 69 = .ok (.iconst (-1), 1) := dr9 dk9_dX12_gets_0_0.2.2 18 (69, .iconst (-1), 1) rfl
theorem dX12_gets_70 : decode cX12_gets 70 = .ok (.goto 9, 3) := dr9 dk9_dX12_gets_0_0.2.2 19 (70, .goto 9, 3) rfl
theorem dX12_gets_11 : decode cX12_gets 11 = .ok (.aload_n 0, 1) := dr9 dk9_dX12_gets_0_0.2.2 20 (11, .aload_n 0, 1) rfl
theorem dX12_gets_12 : decode cX12_gets 12 = .ok (.bipush 14, 2) := dr9 dk9_dX12_gets_0_0.2.2 21 (12, .bipush 14, 2) rfl
theorem dX12_gets_14 : decode cX12_gets 14 = .ok (.invokevirtual 484, 3) := dr9 dk9_dX12_gets_0_0.2.2 22 (14, .invokevirtual 484, 3) rfl
theorem dX12_gets_17 : decode cX12_gets 17 = .ok (.ireturn, 1) := dr9 dk9_dX12_gets_0_0.2.2 23 (17, .ireturn, 1) rfl
abbrev q_s_makes (D : va_G) (ks : KS) (ad : Nat → Nat) (kk : Nat → ClassId) (V : Vf) (L : Lf) (p0 : Int32) (p1 : Int32) (p2 : Int32) (A : Nat → Prop) : Array Value → State → Outcome → State → Prop := va_Qi (fun (r : Int32) (u : Vf × Lf) => rgd bM u.1 ∧ agr [(0, 60), (0, 65), (0, 68), (0, 69), (0, 73), (0, 76), (0, 90), (0, 91), (0, 92), (0, 93), (0, 95), (0, 96), (0, 98)] [59, 61, 62, 63, 64, 66, 67, 74, 75, 77, 78, 79, 80, 94, 97] V u.1 ∧ u.2 = L ∧ (0 ≤ r.toInt ∧ r.toInt ≤ 2) ∧ ((u.1 0 93).toInt = (V 0 93).toInt) ∧ ((u.1 0 98).toInt = (V 0 98).toInt) ∧ ((V 0 60).toInt ≤ (u.1 0 60).toInt) ∧ ((V 0 65).toInt ≤ (u.1 0 65).toInt) ∧ ((u.1 0 65).toInt - (V 0 65).toInt ≤ (u.1 0 60).toInt - (V 0 60).toInt) ∧ ((u.1 0 73).toInt + (u.1 0 95).toInt - (u.1 0 65).toInt ≤ (V 0 73).toInt + (V 0 95).toInt - (V 0 65).toInt) ∧ ((V 0 73).toInt ≤ (u.1 0 73).toInt) ∧ ((V 0 69).toInt ≤ (u.1 0 69).toInt) ∧ ((V 0 95).toInt ≤ (u.1 0 95).toInt) ∧ ((u.1 0 95).toInt - (V 0 95).toInt ≤ (u.1 0 65).toInt - (V 0 65).toInt) ∧ ((u.1 0 76).toInt - (u.1 0 69).toInt - (u.1 0 73).toInt ≤ (V 0 76).toInt - (V 0 69).toInt - (V 0 73).toInt) ∧ (Imp (r.toInt = 0) (0 ≤ (u.1 0 92).toInt ∧ (u.1 0 92).toInt < (u.1 0 60).toInt)) ∧ (RT u.1) ∧ (FRM V u.1 (-1))) (fun u t => gq D A (mw ad kk ks.1 u.1 u.2) (mty kk) t) A
def K_s_makes (l : Launch) (D : va_G) (ks : KS) (d1 d2 : Nat) : Prop := ∀ (sz : Nat) (ad : Nat → Nat) (kk : Nat → ClassId) (V : Vf) (L : Lf) (p0 : Int32) (p1 : Int32) (p2 : Int32) (hMV : rgd bM V) (rg_p0 : 0 ≤ p0.toInt ∧ p0.toInt ≤ 23) (rg_p1 : 0 ≤ p1.toInt ∧ p1.toInt ≤ 39) (rg_p2 : 0 ≤ p2.toInt ∧ p2.toInt ≤ 1) (rt : RT V) (n1 : (V 0 65).toInt ≤ (V 0 60).toInt) (n2 : (V 0 95).toInt ≤ (V 0 65).toInt) (n3 : (V 0 73).toInt + (V 0 95).toInt - (V 0 65).toInt ≤ 999000) (n4 : (V 0 76).toInt - (V 0 69).toInt - (V 0 73).toInt ≤ 1000000000) (n5 : 300 - (V 0 60).toInt ≤ (d1 : Int)) (n6 : 10 - (V 0 93).toInt ≤ (d2 : Int)) (n7 : (V 0 98).toInt + 400 * (d2 : Int) + 30 ≤ 19000) (tq : th V (Int32.toNatClampNeg p0)) , Met l yX12_makes (Cond.code yX12_makes cX12_makes 6 (some .int) :: GW) (rK2 (4 * d1 + 40 * d2 + 14) (100 * d1 + 1000 * d2 + 560)) (va_Pc [.ref (ad 0), .int p0, .int p1, .int p2] (gp D ks (mw ad kk ks.1 V L) (mty kk) sz)) (q_s_makes D ks ad kk V L p0 p1 p2 (va_A (mw ad kk ks.1 V L) sz)) 0 0 (va_A (mw ad kk ks.1 V L) sz)
abbrev q_s_gets (D : va_G) (ks : KS) (ad : Nat → Nat) (kk : Nat → ClassId) (V : Vf) (L : Lf) (p0 : Int32) (p1 : Int32) (A : Nat → Prop) : Array Value → State → Outcome → State → Prop := va_Qi (fun (r : Int32) (u : Vf × Lf) => rgd bM u.1 ∧ agr [(0, 60), (0, 65), (0, 68), (0, 69), (0, 73), (0, 76), (0, 90), (0, 91), (0, 92), (0, 93), (0, 95), (0, 96), (0, 98)] [59, 61, 62, 63, 64, 66, 67, 74, 75, 77, 78, 79, 80, 94, 97] V u.1 ∧ u.2 = L ∧ (0 ≤ r.toInt ∧ r.toInt ≤ 2) ∧ ((u.1 0 93).toInt = (V 0 93).toInt) ∧ ((u.1 0 98).toInt = (V 0 98).toInt) ∧ ((V 0 60).toInt ≤ (u.1 0 60).toInt) ∧ ((V 0 65).toInt ≤ (u.1 0 65).toInt) ∧ ((u.1 0 65).toInt - (V 0 65).toInt ≤ (u.1 0 60).toInt - (V 0 60).toInt) ∧ ((u.1 0 73).toInt + (u.1 0 95).toInt - (u.1 0 65).toInt ≤ (V 0 73).toInt + (V 0 95).toInt - (V 0 65).toInt) ∧ ((V 0 73).toInt ≤ (u.1 0 73).toInt) ∧ ((V 0 69).toInt ≤ (u.1 0 69).toInt) ∧ ((V 0 95).toInt ≤ (u.1 0 95).toInt) ∧ ((u.1 0 95).toInt - (V 0 95).toInt ≤ (u.1 0 65).toInt - (V 0 65).toInt) ∧ ((u.1 0 76).toInt - (u.1 0 69).toInt - (u.1 0 73).toInt ≤ (V 0 76).toInt - (V 0 69).toInt - (V 0 73).toInt) ∧ (Imp (r.toInt = 0) (0 ≤ (u.1 0 92).toInt ∧ (u.1 0 92).toInt < (u.1 0 60).toInt)) ∧ (RT u.1) ∧ (FRM V u.1 (-1))) (fun u t => gq D A (mw ad kk ks.1 u.1 u.2) (mty kk) t) A
def K_s_gets (l : Launch) (D : va_G) (ks : KS) (d1 d2 : Nat) : Prop := ∀ (sz : Nat) (ad : Nat → Nat) (kk : Nat → ClassId) (V : Vf) (L : Lf) (p0 : Int32) (p1 : Int32) (hMV : rgd bM V) (rg_p0 : 0 ≤ p0.toInt ∧ p0.toInt ≤ 23) (rg_p1 : 0 ≤ p1.toInt ∧ p1.toInt ≤ 39) (rt : RT V) (n1 : (V 0 65).toInt ≤ (V 0 60).toInt) (n2 : (V 0 95).toInt ≤ (V 0 65).toInt) (n3 : (V 0 73).toInt + (V 0 95).toInt - (V 0 65).toInt ≤ 999000) (n4 : (V 0 76).toInt - (V 0 69).toInt - (V 0 73).toInt ≤ 1000000000) (n5 : 300 - (V 0 60).toInt ≤ (d1 : Int)) (n6 : 10 - (V 0 93).toInt ≤ (d2 : Int)) (n7 : (V 0 98).toInt + 400 * (d2 : Int) + 30 ≤ 19000) (tq : th V (Int32.toNatClampNeg p0)) , Met l yX12_gets (Cond.code yX12_gets cX12_gets 6 (some .int) :: GW) (rK2 (4 * d1 + 40 * d2 + 15) (100 * d1 + 1000 * d2 + 590)) (va_Pc [.ref (ad 0), .int p0, .int p1] (gp D ks (mw ad kk ks.1 V L) (mty kk) sz)) (q_s_gets D ks ad kk V L p0 p1 (va_A (mw ad kk ks.1 V L) sz)) 0 0 (va_A (mw ad kk ks.1 V L) sz)
end
section
theorem FRM.few {V W : Vf} {v : Int32} {x : Int} (e : W = up2 V 0 95 v) : FRM V W x := by
  have a : agr [(0, 95)] [] V W := agr.up agr.rf e rfl
  exact ⟨by rw [a 0 60 rfl]; exact Int.le_refl _, fun o _ => ⟨a 61 _ rfl, a 62 _ rfl, fun h => by rw [a 63 _ rfl]; exact h, fun h => by rw [a 63 _ rfl]; exact Int.le_refl _⟩, fun _ _ _ _ _ _ => a 66 _ rfl, fun _ _ => a 94 _ rfl⟩

theorem w2242 : Cond.code yX12_gets cX12_gets 6 (some .int) ∈ GW := gw_k tk9_9 167 (rfl) rfl
theorem w2239 : Cond.methodLink RX12 510 yX12_gets ∈ GW := gw_k tk9_9 164 (by decide +kernel) rfl
theorem w2241 : Cond.instanceMethod yX12_gets ∈ GW := gw_k tk9_9 166 (by decide +kernel) rfl
theorem w129 : Cond.selects RX12 yX12_gets yX12_gets ∈ GW := gw_mem 129 (by decide +kernel) rfl
theorem hdV_yX12_gets : yX12_gets.cls = RX12 ∧ yX12_gets.cls ≠ "java/lang/invoke/MethodHandle" ∧ yX12_gets.cls ≠ "java/lang/invoke/VarHandle" ∧ (parseMethodDescriptor yX12_gets.desc).map (fun d => d.parameters.length) = some 2 := by decide +kernel
theorem w1800 : Cond.fieldLink RX12 222 "WiringHouseModel" "fresh" "[I" ∈ GW := gw_k tk9_7 205 (by decide +kernel) rfl
theorem w2331 : Cond.code yX12_closes cX12_closes 4 (some .boolean) ∈ GW := gw_k tk9_10 16 (rfl) rfl
theorem w2328 : Cond.methodLink RX12 513 yX12_closes ∈ GW := gw_k tk9_10 13 (by decide +kernel) rfl
theorem w2330 : Cond.instanceMethod yX12_closes ∈ GW := gw_k tk9_10 15 (by decide +kernel) rfl
theorem w151 : Cond.selects RX12 yX12_closes yX12_closes ∈ GW := gw_mem 151 (by decide +kernel) rfl
theorem hdV_yX12_closes : yX12_closes.cls = RX12 ∧ yX12_closes.cls ≠ "java/lang/invoke/MethodHandle" ∧ yX12_closes.cls ≠ "java/lang/invoke/VarHandle" ∧ (parseMethodDescriptor yX12_closes.desc).map (fun d => d.parameters.length) = some 1 := by decide +kernel
theorem dk9_dX12_getsWhole_0_0 : dOk cX12_getsWhole [(0, .aload_n 0, 1), (1, .getfield 507, 3), (4, .istore_n 3, 1), (5, .aload_n 0, 1), (6, .iload_n 1, 1), (7, .iload_n 2, 1), (8, .invokevirtual 510, 3), (11, .istore 4, 2), (13, .iload 4, 2), (15, .iconst 1, 1), (16, .if_icmp .ne 80, 3), (96, .aload_n 0, 1), (97, .iload_n 3, 1), (98, .putfield 507, 3), (101, .iload 4, 2), (103, .ireturn, 1), (19, .aload_n 0, 1), (20, .getfield 471, 3), (23, .istore 5, 2), (25, .aload_n 0, 1), (26, .getfield 474, 3), (29, .istore 6, 2), (31, .iload 4, 2), (33, .istore 7, 2)] = true ∧ dOk cX12_getsWhole [(35, .aload_n 0, 1), (36, .getfield 507, 3), (39, .iload_n 3, 1), (40, .if_icmp .le 40, 3), (80, .iload 7, 2), (82, .istore 4, 2), (84, .aload_n 0, 1), (85, .iload 5, 2), (87, .putfield 471, 3), (90, .aload_n 0, 1), (91, .iload 6, 2), (93, .putfield 474, 3), (43, .aload_n 0, 1), (44, .dup, 1), (45, .getfield 507, 3), (48, .iconst 1, 1), (49, .isub, 1), (50, .putfield 507, 3), (53, .aload_n 0, 1), (54, .aload_n 0, 1), (55, .getfield 222, 3), (58, .aload_n 0, 1), (59, .getfield 507, 3), (62, .iaload, 1)] = true ∧ dOk cX12_getsWhole [(63, .invokevirtual 513, 3), (66, .ifCond .eq 7, 3), (73, .iload 7, 2), (75, .istore 7, 2), (77, .goto (-42), 3), (69, .iconst 2, 1), (70, .goto 5, 3)] = true := by decide +kernel
theorem dX12_getsWhole_0 : decode cX12_getsWhole 0 = .ok (.aload_n 0, 1) := dr9 dk9_dX12_getsWhole_0_0.1 0 (0, .aload_n 0, 1) rfl
theorem dX12_getsWhole_1 : decode cX12_getsWhole 1 = .ok (.getfield 507, 3) := dr9 dk9_dX12_getsWhole_0_0.1 1 (1, .getfield 507, 3) rfl
theorem dX12_getsWhole_4 : decode cX12_getsWhole 4 = .ok (.istore_n 3, 1) := dr9 dk9_dX12_getsWhole_0_0.1 2 (4, .istore_n 3, 1) rfl
theorem dX12_getsWhole_5 : decode cX12_getsWhole 5 = .ok (.aload_n 0, 1) := dr9 dk9_dX12_getsWhole_0_0.1 3 (5, .aload_n 0, 1) rfl
theorem dX12_getsWhole_6 : decode cX12_getsWhole 6 = .ok (.iload_n 1, 1) := dr9 dk9_dX12_getsWhole_0_0.1 4 (6, .iload_n 1, 1) rfl
theorem dX12_getsWhole_7 : decode cX12_getsWhole 7 = .ok (.iload_n 2, 1) := dr9 dk9_dX12_getsWhole_0_0.1 5 (7, .iload_n 2, 1) rfl
theorem dX12_getsWhole_8 : decode cX12_getsWhole 8 = .ok (.invokevirtual 510, 3) := dr9 dk9_dX12_getsWhole_0_0.1 6 (8, .invokevirtual 510, 3) rfl
theorem dX12_getsWhole_11 : decode cX12_getsWhole 11 = .ok (.istore 4, 2) := dr9 dk9_dX12_getsWhole_0_0.1 7 (11, .istore 4, 2) rfl
theorem dX12_getsWhole_13 : decode cX12_getsWhole 13 = .ok (.iload 4, 2) := dr9 dk9_dX12_getsWhole_0_0.1 8 (13, .iload 4, 2) rfl
theorem dX12_getsWhole_15 : decode cX12_getsWhole 15 = .ok (.iconst 1, 1) := dr9 dk9_dX12_getsWhole_0_0.1 9 (15, .iconst 1, 1) rfl
theorem dX12_getsWhole_16 : decode cX12_getsWhole 16 = .ok (.if_icmp .ne 80, 3) := dr9 dk9_dX12_getsWhole_0_0.1 10 (16, .if_icmp .ne 80, 3) rfl
theorem dX12_getsWhole_96 : decode cX12_getsWhole 96 = .ok (.aload_n 0, 1) := dr9 dk9_dX12_getsWhole_0_0.1 11 (96, .aload_n 0, 1) rfl
theorem dX12_getsWhole_97 : decode cX12_getsWhole 97 = .ok (.iload_n 3, 1) := dr9 dk9_dX12_getsWhole_0_0.1 12 (97, .iload_n 3, 1) rfl
theorem dX12_getsWhole_98 : decode cX12_getsWhole 98 = .ok (.putfield 507, 3) := dr9 dk9_dX12_getsWhole_0_0.1 13 (98, .putfield 507, 3) rfl
theorem dX12_getsWhole_101 : decode cX12_getsWhole 101 = .ok (.iload 4, 2) := dr9 dk9_dX12_getsWhole_0_0.1 14 (101, .iload 4, 2) rfl
theorem dX12_getsWhole_103 : decode cX12_getsWhole 103 = .ok (.ireturn, 1) := dr9 dk9_dX12_getsWhole_0_0.1 15 (103, .ireturn, 1) rfl
theorem dX12_getsWhole_19 : decode cX12_getsWhole 19 = .ok (.aload_n 0, 1) := dr9 dk9_dX12_getsWhole_0_0.1 16 (19, .aload_n 0, 1) rfl
theorem dX12_getsWhole_20 : decode cX12_getsWhole 20 = .ok (.getfield 471, 3) := dr9 dk9_dX12_getsWhole_0_0.1 17 (20, .getfield 471, 3) rfl
theorem dX12_getsWhole_23 : decode cX12_getsWhole 23 = .ok (.istore 5, 2) := dr9 dk9_dX12_getsWhole_0_0.1 18 (23, .istore 5, 2) rfl
theorem dX12_getsWhole_25 : decode cX12_getsWhole 25 = .ok (.aload_n 0, 1) := dr9 dk9_dX12_getsWhole_0_0.1 19 (25, .aload_n 0, 1) rfl
theorem dX12_getsWhole_26 : decode cX12_getsWhole 26 = .ok (.getfield 474, 3) := dr9 dk9_dX12_getsWhole_0_0.1 20 (26, .getfield 474, 3) rfl
theorem dX12_getsWhole_29 : decode cX12_getsWhole 29 = .ok (.istore 6, 2) := dr9 dk9_dX12_getsWhole_0_0.1 21 (29, .istore 6, 2) rfl
theorem dX12_getsWhole_31 : decode cX12_getsWhole 31 = .ok (.iload 4, 2) := dr9 dk9_dX12_getsWhole_0_0.1 22 (31, .iload 4, 2) rfl
theorem dX12_getsWhole_33 : decode cX12_getsWhole 33 = .ok (.istore 7, 2) := dr9 dk9_dX12_getsWhole_0_0.1 23 (33, .istore 7, 2) rfl
theorem dX12_getsWhole_35 : decode cX12_getsWhole 35 = .ok (.aload_n 0, 1) := dr9 dk9_dX12_getsWhole_0_0.2.1 0 (35, .aload_n 0, 1) rfl
theorem dX12_getsWhole_36 : decode cX12_getsWhole 36 = .ok (.getfield 507, 3) := dr9 dk9_dX12_getsWhole_0_0.2.1 1 (36, .getfield 507, 3) rfl
theorem dX12_getsWhole_39 : decode cX12_getsWhole 39 = .ok (.iload_n 3, 1) := dr9 dk9_dX12_getsWhole_0_0.2.1 2 (39, .iload_n 3, 1) rfl
theorem dX12_getsWhole_40 : decode cX12_getsWhole 40 = .ok (.if_icmp .le 40, 3) := dr9 dk9_dX12_getsWhole_0_0.2.1 3 (40, .if_icmp .le 40, 3) rfl
theorem dX12_getsWhole_80 : decode cX12_getsWhole 80 = .ok (.iload 7, 2) := dr9 dk9_dX12_getsWhole_0_0.2.1 4 (80, .iload 7, 2) rfl
theorem dX12_getsWhole_82 : decode cX12_getsWhole 82 = .ok (.istore 4, 2) := dr9 dk9_dX12_getsWhole_0_0.2.1 5 (82, .istore 4, 2) rfl
theorem dX12_getsWhole_84 : decode cX12_getsWhole 84 = .ok (.aload_n 0, 1) := dr9 dk9_dX12_getsWhole_0_0.2.1 6 (84, .aload_n 0, 1) rfl
theorem dX12_getsWhole_85 : decode cX12_getsWhole 85 = .ok (.iload 5, 2) := dr9 dk9_dX12_getsWhole_0_0.2.1 7 (85, .iload 5, 2) rfl
theorem dX12_getsWhole_87 : decode cX12_getsWhole 87 = .ok (.putfield 471, 3) := dr9 dk9_dX12_getsWhole_0_0.2.1 8 (87, .putfield 471, 3) rfl
theorem dX12_getsWhole_90 : decode cX12_getsWhole 90 = .ok (.aload_n 0, 1) := dr9 dk9_dX12_getsWhole_0_0.2.1 9 (90, .aload_n 0, 1) rfl
theorem dX12_getsWhole_91 : decode cX12_getsWhole 91 = .ok (.iload 6, 2) := dr9 dk9_dX12_getsWhole_0_0.2.1 10 (91, .iload 6, 2) rfl
theorem dX12_getsWhole_93 : decode cX12_getsWhole 93 = .ok (.putfield 474, 3) := dr9 dk9_dX12_getsWhole_0_0.2.1 11 (93, .putfield 474, 3) rfl
theorem dX12_getsWhole_43 : decode cX12_getsWhole 43 = .ok (.aload_n 0, 1) := dr9 dk9_dX12_getsWhole_0_0.2.1 12 (43, .aload_n 0, 1) rfl
theorem dX12_getsWhole_44 : decode cX12_getsWhole 44 = .ok (.dup, 1) := dr9 dk9_dX12_getsWhole_0_0.2.1 13 (44, .dup, 1) rfl
theorem dX12_getsWhole_45 : decode cX12_getsWhole 45 = .ok (.getfield 507, 3) := dr9 dk9_dX12_getsWhole_0_0.2.1 14 (45, .getfield 507, 3) rfl
theorem dX12_getsWhole_48 : decode cX12_getsWhole 48 = .ok (.iconst 1, 1) := dr9 dk9_dX12_getsWhole_0_0.2.1 15 (48, .iconst 1, 1) rfl
theorem dX12_getsWhole_49 : decode cX12_getsWhole 49 = .ok (.isub, 1) := dr9 dk9_dX12_getsWhole_0_0.2.1 16 (49, .isub, 1) rfl
theorem dX12_getsWhole_50 : decode cX12_getsWhole 50 = .ok (.putfield 507, 3) := dr9 dk9_dX12_getsWhole_0_0.2.1 17 (50, .putfield 507, 3) rfl
theorem dX12_getsWhole_53 : decode cX12_getsWhole 53 = .ok (.aload_n 0, 1) := dr9 dk9_dX12_getsWhole_0_0.2.1 18 (53, .aload_n 0, 1) rfl
theorem dX12_getsWhole_54 : decode cX12_getsWhole 54 = .ok (.aload_n 0, 1) := dr9 dk9_dX12_getsWhole_0_0.2.1 19 (54, .aload_n 0, 1) rfl
theorem dX12_getsWhole_55 : decode cX12_getsWhole 55 = .ok (.getfield 222, 3) := dr9 dk9_dX12_getsWhole_0_0.2.1 20 (55, .getfield 222, 3) rfl
theorem dX12_getsWhole_58 : decode cX12_getsWhole 58 = .ok (.aload_n 0, 1) := dr9 dk9_dX12_getsWhole_0_0.2.1 21 (58, .aload_n 0, 1) rfl
theorem dX12_getsWhole_59 : decode cX12_getsWhole 59 = .ok (.getfield 507, 3) := dr9 dk9_dX12_getsWhole_0_0.2.1 22 (59, .getfield 507, 3) rfl
theorem dX12_getsWhole_62 : decode cX12_getsWhole 62 = .ok (.iaload, 1) := dr9 dk9_dX12_getsWhole_0_0.2.1 23 (62, .iaload, 1) rfl
theorem dX12_getsWhole_63 : decode cX12_getsWhole 63 = .ok (.invokevirtual 513, 3) := dr9 dk9_dX12_getsWhole_0_0.2.2 0 (63, .invokevirtual 513, 3) rfl
theorem dX12_getsWhole_66 : decode cX12_getsWhole 66 = .ok (.ifCond .eq 7, 3) := dr9 dk9_dX12_getsWhole_0_0.2.2 1 (66, .ifCond .eq 7, 3) rfl
theorem dX12_getsWhole_73 : decode cX12_getsWhole 73 = .ok (.iload 7, 2) := dr9 dk9_dX12_getsWhole_0_0.2.2 2 (73, .iload 7, 2) rfl
theorem dX12_getsWhole_75 : decode cX12_getsWhole 75 = .ok (.istore 7, 2) := dr9 dk9_dX12_getsWhole_0_0.2.2 3 (75, .istore 7, 2) rfl
theorem dX12_getsWhole_77 : decode cX12_getsWhole 77 = .ok (.goto (-42), 3) := dr9 dk9_dX12_getsWhole_0_0.2.2 4 (77, .goto (-42), 3) rfl
theorem dX12_getsWhole_69 : decode cX12_getsWhole 69 = .ok (.iconst 2, 1) := dr9 dk9_dX12_getsWhole_0_0.2.2 5 (69, .iconst 2, 1) rfl
theorem dX12_getsWhole_70 : decode cX12_getsWhole 70 = .ok (.goto 5, 3) := dr9 dk9_dX12_getsWhole_0_0.2.2 6 (70, .goto 5, 3) rfl
abbrev q_s_getsWhole (D : va_G) (ks : KS) (ad : Nat → Nat) (kk : Nat → ClassId) (V : Vf) (L : Lf) (p0 : Int32) (p1 : Int32) (A : Nat → Prop) : Array Value → State → Outcome → State → Prop := va_Qi (fun (r : Int32) (u : Vf × Lf) => rgd bM u.1 ∧ agr [(0, 60), (0, 65), (0, 68), (0, 69), (0, 73), (0, 76), (0, 90), (0, 91), (0, 92), (0, 93), (0, 95), (0, 96), (0, 98)] [59, 61, 62, 63, 64, 66, 67, 74, 75, 77, 78, 79, 80, 94, 97] V u.1 ∧ u.2 = L ∧ (0 ≤ r.toInt ∧ r.toInt ≤ 2) ∧ ((u.1 0 93).toInt = (V 0 93).toInt) ∧ ((u.1 0 98).toInt = (V 0 98).toInt) ∧ ((V 0 60).toInt ≤ (u.1 0 60).toInt) ∧ ((V 0 65).toInt ≤ (u.1 0 65).toInt) ∧ ((u.1 0 65).toInt - (V 0 65).toInt ≤ (u.1 0 60).toInt - (V 0 60).toInt) ∧ ((u.1 0 73).toInt + (u.1 0 95).toInt - (u.1 0 65).toInt ≤ (V 0 73).toInt + (V 0 95).toInt - (V 0 65).toInt) ∧ ((V 0 73).toInt ≤ (u.1 0 73).toInt) ∧ ((V 0 69).toInt ≤ (u.1 0 69).toInt) ∧ ((u.1 0 95).toInt = (V 0 95).toInt) ∧ ((u.1 0 76).toInt - (u.1 0 69).toInt - (u.1 0 73).toInt ≤ (V 0 76).toInt - (V 0 69).toInt - (V 0 73).toInt) ∧ (Imp (r.toInt = 0) (0 ≤ (u.1 0 92).toInt ∧ (u.1 0 92).toInt < (u.1 0 60).toInt)) ∧ (RT u.1) ∧ (FRM V u.1 (-1))) (fun u t => gq D A (mw ad kk ks.1 u.1 u.2) (mty kk) t) A
def K_s_getsWhole (l : Launch) (D : va_G) (ks : KS) (d1 d2 : Nat) : Prop := ∀ (sz : Nat) (ad : Nat → Nat) (kk : Nat → ClassId) (V : Vf) (L : Lf) (p0 : Int32) (p1 : Int32) (hMV : rgd bM V) (rg_p0 : 0 ≤ p0.toInt ∧ p0.toInt ≤ 23) (rg_p1 : 0 ≤ p1.toInt ∧ p1.toInt ≤ 39) (rt : RT V) (n1 : (V 0 65).toInt ≤ (V 0 60).toInt) (n2 : (V 0 95).toInt ≤ (V 0 65).toInt) (n3 : (V 0 73).toInt + (V 0 95).toInt - (V 0 65).toInt ≤ 999000) (n4 : (V 0 76).toInt - (V 0 69).toInt - (V 0 73).toInt ≤ 1000000000) (n5 : 300 - (V 0 60).toInt ≤ (d1 : Int)) (n6 : 10 - (V 0 93).toInt ≤ (d2 : Int)) (n7 : (V 0 98).toInt + 400 * (d2 : Int) + 30 ≤ 19000) (tq : th V (Int32.toNatClampNeg p0)) , Met l yX12_getsWhole (Cond.code yX12_getsWhole cX12_getsWhole 8 (some .int) :: GW) (rK2 (4 * d1 + 40 * d2 + 16) (100 * d1 + 1000 * d2 + 620)) (va_Pc [.ref (ad 0), .int p0, .int p1] (gp D ks (mw ad kk ks.1 V L) (mty kk) sz)) (q_s_getsWhole D ks ad kk V L p0 p1 (va_A (mw ad kk ks.1 V L) sz)) 0 0 (va_A (mw ad kk ks.1 V L) sz)
end
section
theorem w2238 : Cond.code yX12_getsWhole cX12_getsWhole 8 (some .int) ∈ GW := gw_k tk9_9 163 (rfl) rfl
theorem w2235 : Cond.methodLink RX12 568 yX12_getsWhole ∈ GW := gw_k tk9_9 160 (by decide +kernel) rfl
theorem w2237 : Cond.instanceMethod yX12_getsWhole ∈ GW := gw_k tk9_9 162 (by decide +kernel) rfl
theorem w128 : Cond.selects RX12 yX12_getsWhole yX12_getsWhole ∈ GW := gw_mem 128 (by decide +kernel) rfl
theorem hdV_yX12_getsWhole : yX12_getsWhole.cls = RX12 ∧ yX12_getsWhole.cls ≠ "java/lang/invoke/MethodHandle" ∧ yX12_getsWhole.cls ≠ "java/lang/invoke/VarHandle" ∧ (parseMethodDescriptor yX12_getsWhole.desc).map (fun d => d.parameters.length) = some 2 := by decide +kernel
theorem dk9_dX12_ofLate_0_0 : dOk cX12_ofLate [(0, .aload_n 0, 1), (1, .iload_n 3, 1), (2, .invokevirtual 455, 3), (5, .istore 7, 2), (7, .aload_n 0, 1), (8, .getfield 198, 3), (11, .iconst 0, 1), (12, .iaload, 1), (13, .istore 8, 2), (15, .aload_n 0, 1), (16, .getfield 71, 3), (19, .bipush 24, 2), (21, .aload_n 0, 1), (22, .getfield 286, 3), (25, .imul, 1), (26, .iload 8, 2), (28, .iadd, 1), (29, .iaload, 1), (30, .iconst 3, 1), (31, .if_icmp .ne 7, 3), (38, .iconst 0, 1), (39, .istore 9, 2), (41, .iload 9, 2), (43, .ifCond .eq 17, 3)] = true ∧ dOk cX12_ofLate [(60, .aload_n 0, 1), (61, .getfield 520, 3), (64, .bipush 10, 2), (66, .if_icmp .ne 10, 3), (76, .aload_n 0, 1), (77, .dup, 1), (78, .getfield 520, 3), (81, .iconst 1, 1), (82, .iadd, 1), (83, .putfield 520, 3), (86, .aload_n 0, 1), (87, .iload 8, 2), (89, .iload 5, 2), (91, .invokevirtual 568, 3), (94, .istore 10, 2), (96, .aload_n 0, 1), (97, .dup, 1), (98, .getfield 520, 3), (101, .iconst 1, 1), (102, .isub, 1), (103, .putfield 520, 3), (106, .iload 10, 2), (108, .ifCond .le 6, 3), (114, .iload 9, 2)] = true ∧ dOk cX12_ofLate [(116, .ifCond .eq 47, 3), (163, .aload_n 0, 1), (164, .aload_n 0, 1), (165, .getfield 490, 3), (168, .iload 4, 2), (170, .iload 5, 2), (172, .iload 6, 2), (174, .invokevirtual 566, 3), (177, .ireturn, 1), (111, .iload 10, 2), (113, .ireturn, 1), (69, .aload_n 0, 1), (70, .bipush 13, 2), (72, .invokevirtual 484, 3), (75, .ireturn, 1), (34, .iconst 1, 1), (35, .goto 4, 3), (46, .aload_n 0, 1), (47, .getfield 176, 3), (50, .bipush 8, 2), (52, .iload_n 1, 1), (53, .imul, 1), (54, .iload_n 2, 1), (55, .iadd, 1)] = true ∧ dOk cX12_ofLate [(56, .iaload, 1), (57, .ifCond .ne 121, 3), (178, .aload_n 0, 1), (179, .aload_n 0, 1), (180, .getfield 180, 3), (183, .bipush 24, 2), (185, .bipush 8, 2), (187, .iload_n 1, 1), (188, .imul, 1), (189, .iload_n 2, 1), (190, .iadd, 1), (191, .imul, 1), (192, .iaload, 1), (193, .iload 4, 2), (195, .iload 5, 2), (197, .iload 6, 2), (199, .invokevirtual 566, 3), (202, .ireturn, 1), (119, .aload_n 0, 1), (120, .getfield 176, 3), (123, .bipush 8, 2), (125, .iload_n 1, 1), (126, .imul, 1), (127, .iload_n 2, 1)] = true ∧ dOk cX12_ofLate [(128, .iadd, 1), (129, .iaload, 1), (130, .ifCond .ne 33, 3), (133, .aload_n 0, 1), (134, .getfield 180, 3), (137, .bipush 24, 2), (139, .bipush 8, 2), (141, .iload_n 1, 1), (142, .imul, 1), (143, .iload_n 2, 1), (144, .iadd, 1), (145, .imul, 1), (146, .aload_n 0, 1), (147, .getfield 490, 3), (150, .iastore, 1), (151, .aload_n 0, 1), (152, .getfield 176, 3), (155, .bipush 8, 2), (157, .iload_n 1, 1), (158, .imul, 1), (159, .iload_n 2, 1), (160, .iadd, 1), (161, .iconst 1, 1), (162, .iastore, 1)] = true := by decide +kernel
theorem dX12_ofLate_0 : decode cX12_ofLate 0 = .ok (.aload_n 0, 1) := dr9 dk9_dX12_ofLate_0_0.1 0 (0, .aload_n 0, 1) rfl
theorem dX12_ofLate_1 : decode cX12_ofLate 1 = .ok (.iload_n 3, 1) := dr9 dk9_dX12_ofLate_0_0.1 1 (1, .iload_n 3, 1) rfl
theorem dX12_ofLate_2 : decode cX12_ofLate 2 = .ok (.invokevirtual 455, 3) := dr9 dk9_dX12_ofLate_0_0.1 2 (2, .invokevirtual 455, 3) rfl
theorem dX12_ofLate_5 : decode cX12_ofLate 5 = .ok (.istore 7, 2) := dr9 dk9_dX12_ofLate_0_0.1 3 (5, .istore 7, 2) rfl
theorem dX12_ofLate_7 : decode cX12_ofLate 7 = .ok (.aload_n 0, 1) := dr9 dk9_dX12_ofLate_0_0.1 4 (7, .aload_n 0, 1) rfl
theorem dX12_ofLate_8 : decode cX12_ofLate 8 = .ok (.getfield 198, 3) := dr9 dk9_dX12_ofLate_0_0.1 5 (8, .getfield 198, 3) rfl
theorem dX12_ofLate_11 : decode cX12_ofLate 11 = .ok (.iconst 0, 1) := dr9 dk9_dX12_ofLate_0_0.1 6 (11, .iconst 0, 1) rfl
theorem dX12_ofLate_12 : decode cX12_ofLate 12 = .ok (.iaload, 1) := dr9 dk9_dX12_ofLate_0_0.1 7 (12, .iaload, 1) rfl
theorem dX12_ofLate_13 : decode cX12_ofLate 13 = .ok (.istore 8, 2) := dr9 dk9_dX12_ofLate_0_0.1 8 (13, .istore 8, 2) rfl
theorem dX12_ofLate_15 : decode cX12_ofLate 15 = .ok (.aload_n 0, 1) := dr9 dk9_dX12_ofLate_0_0.1 9 (15, .aload_n 0, 1) rfl
theorem dX12_ofLate_16 : decode cX12_ofLate 16 = .ok (.getfield 71, 3) := dr9 dk9_dX12_ofLate_0_0.1 10 (16, .getfield 71, 3) rfl
theorem dX12_ofLate_19 : decode cX12_ofLate 19 = .ok (.bipush 24, 2) := dr9 dk9_dX12_ofLate_0_0.1 11 (19, .bipush 24, 2) rfl
theorem dX12_ofLate_21 : decode cX12_ofLate 21 = .ok (.aload_n 0, 1) := dr9 dk9_dX12_ofLate_0_0.1 12 (21, .aload_n 0, 1) rfl
theorem dX12_ofLate_22 : decode cX12_ofLate 22 = .ok (.getfield 286, 3) := dr9 dk9_dX12_ofLate_0_0.1 13 (22, .getfield 286, 3) rfl
theorem dX12_ofLate_25 : decode cX12_ofLate 25 = .ok (.imul, 1) := dr9 dk9_dX12_ofLate_0_0.1 14 (25, .imul, 1) rfl
theorem dX12_ofLate_26 : decode cX12_ofLate 26 = .ok (.iload 8, 2) := dr9 dk9_dX12_ofLate_0_0.1 15 (26, .iload 8, 2) rfl
theorem dX12_ofLate_28 : decode cX12_ofLate 28 = .ok (.iadd, 1) := dr9 dk9_dX12_ofLate_0_0.1 16 (28, .iadd, 1) rfl
theorem dX12_ofLate_29 : decode cX12_ofLate 29 = .ok (.iaload, 1) := dr9 dk9_dX12_ofLate_0_0.1 17 (29, .iaload, 1) rfl
theorem dX12_ofLate_30 : decode cX12_ofLate 30 = .ok (.iconst 3, 1) := dr9 dk9_dX12_ofLate_0_0.1 18 (30, .iconst 3, 1) rfl
theorem dX12_ofLate_31 : decode cX12_ofLate 31 = .ok (.if_icmp .ne 7, 3) := dr9 dk9_dX12_ofLate_0_0.1 19 (31, .if_icmp .ne 7, 3) rfl
theorem dX12_ofLate_38 : decode cX12_ofLate 38 = .ok (.iconst 0, 1) := dr9 dk9_dX12_ofLate_0_0.1 20 (38, .iconst 0, 1) rfl
theorem dX12_ofLate_39 : decode cX12_ofLate 39 = .ok (.istore 9, 2) := dr9 dk9_dX12_ofLate_0_0.1 21 (39, .istore 9, 2) rfl
theorem dX12_ofLate_41 : decode cX12_ofLate 41 = .ok (.iload 9, 2) := dr9 dk9_dX12_ofLate_0_0.1 22 (41, .iload 9, 2) rfl
theorem dX12_ofLate_43 : decode cX12_ofLate 43 = .ok (.ifCond .eq 17, 3) := dr9 dk9_dX12_ofLate_0_0.1 23 (43, .ifCond .eq 17, 3) rfl
theorem dX12_ofLate_60 : decode cX12_ofLate 60 = .ok (.aload_n 0, 1) := dr9 dk9_dX12_ofLate_0_0.2.1 0 (60, .aload_n 0, 1) rfl
theorem dX12_ofLate_61 : decode cX12_ofLate 61 = .ok (.getfield 520, 3) := dr9 dk9_dX12_ofLate_0_0.2.1 1 (61, .getfield 520, 3) rfl
theorem dX12_ofLate_64 : decode cX12_ofLate 64 = .ok (.bipush 10, 2) := dr9 dk9_dX12_ofLate_0_0.2.1 2 (64, .bipush 10, 2) rfl
theorem dX12_ofLate_66 : decode cX12_ofLate 66 = .ok (.if_icmp .ne 10, 3) := dr9 dk9_dX12_ofLate_0_0.2.1 3 (66, .if_icmp .ne 10, 3) rfl
theorem dX12_ofLate_76 : decode cX12_ofLate 76 = .ok (.aload_n 0, 1) := dr9 dk9_dX12_ofLate_0_0.2.1 4 (76, .aload_n 0, 1) rfl
theorem dX12_ofLate_77 : decode cX12_ofLate 77 = .ok (.dup, 1) := dr9 dk9_dX12_ofLate_0_0.2.1 5 (77, .dup, 1) rfl
theorem dX12_ofLate_78 : decode cX12_ofLate 78 = .ok (.getfield 520, 3) := dr9 dk9_dX12_ofLate_0_0.2.1 6 (78, .getfield 520, 3) rfl
theorem dX12_ofLate_81 : decode cX12_ofLate 81 = .ok (.iconst 1, 1) := dr9 dk9_dX12_ofLate_0_0.2.1 7 (81, .iconst 1, 1) rfl
theorem dX12_ofLate_82 : decode cX12_ofLate 82 = .ok (.iadd, 1) := dr9 dk9_dX12_ofLate_0_0.2.1 8 (82, .iadd, 1) rfl
theorem dX12_ofLate_83 : decode cX12_ofLate 83 = .ok (.putfield 520, 3) := dr9 dk9_dX12_ofLate_0_0.2.1 9 (83, .putfield 520, 3) rfl
theorem dX12_ofLate_86 : decode cX12_ofLate 86 = .ok (.aload_n 0, 1) := dr9 dk9_dX12_ofLate_0_0.2.1 10 (86, .aload_n 0, 1) rfl
theorem dX12_ofLate_87 : decode cX12_ofLate 87 = .ok (.iload 8, 2) := dr9 dk9_dX12_ofLate_0_0.2.1 11 (87, .iload 8, 2) rfl
theorem dX12_ofLate_89 : decode cX12_ofLate 89 = .ok (.iload 5, 2) := dr9 dk9_dX12_ofLate_0_0.2.1 12 (89, .iload 5, 2) rfl
theorem dX12_ofLate_91 : decode cX12_ofLate 91 = .ok (.invokevirtual 568, 3) := dr9 dk9_dX12_ofLate_0_0.2.1 13 (91, .invokevirtual 568, 3) rfl
theorem dX12_ofLate_94 : decode cX12_ofLate 94 = .ok (.istore 10, 2) := dr9 dk9_dX12_ofLate_0_0.2.1 14 (94, .istore 10, 2) rfl
theorem dX12_ofLate_96 : decode cX12_ofLate 96 = .ok (.aload_n 0, 1) := dr9 dk9_dX12_ofLate_0_0.2.1 15 (96, .aload_n 0, 1) rfl
theorem dX12_ofLate_97 : decode cX12_ofLate 97 = .ok (.dup, 1) := dr9 dk9_dX12_ofLate_0_0.2.1 16 (97, .dup, 1) rfl
theorem dX12_ofLate_98 : decode cX12_ofLate 98 = .ok (.getfield 520, 3) := dr9 dk9_dX12_ofLate_0_0.2.1 17 (98, .getfield 520, 3) rfl
theorem dX12_ofLate_101 : decode cX12_ofLate 101 = .ok (.iconst 1, 1) := dr9 dk9_dX12_ofLate_0_0.2.1 18 (101, .iconst 1, 1) rfl
theorem dX12_ofLate_102 : decode cX12_ofLate 102 = .ok (.isub, 1) := dr9 dk9_dX12_ofLate_0_0.2.1 19 (102, .isub, 1) rfl
theorem dX12_ofLate_103 : decode cX12_ofLate 103 = .ok (.putfield 520, 3) := dr9 dk9_dX12_ofLate_0_0.2.1 20 (103, .putfield 520, 3) rfl
theorem dX12_ofLate_106 : decode cX12_ofLate 106 = .ok (.iload 10, 2) := dr9 dk9_dX12_ofLate_0_0.2.1 21 (106, .iload 10, 2) rfl
theorem dX12_ofLate_108 : decode cX12_ofLate 108 = .ok (.ifCond .le 6, 3) := dr9 dk9_dX12_ofLate_0_0.2.1 22 (108, .ifCond .le 6, 3) rfl
theorem dX12_ofLate_114 : decode cX12_ofLate 114 = .ok (.iload 9, 2) := dr9 dk9_dX12_ofLate_0_0.2.1 23 (114, .iload 9, 2) rfl
theorem dX12_ofLate_116 : decode cX12_ofLate 116 = .ok (.ifCond .eq 47, 3) := dr9 dk9_dX12_ofLate_0_0.2.2.1 0 (116, .ifCond .eq 47, 3) rfl
theorem dX12_ofLate_163 : decode cX12_ofLate 163 = .ok (.aload_n 0, 1) := dr9 dk9_dX12_ofLate_0_0.2.2.1 1 (163, .aload_n 0, 1) rfl
theorem dX12_ofLate_164 : decode cX12_ofLate 164 = .ok (.aload_n 0, 1) := dr9 dk9_dX12_ofLate_0_0.2.2.1 2 (164, .aload_n 0, 1) rfl
theorem dX12_ofLate_165 : decode cX12_ofLate 165 = .ok (.getfield 490, 3) := dr9 dk9_dX12_ofLate_0_0.2.2.1 3 (165, .getfield 490, 3) rfl
theorem dX12_ofLate_168 : decode cX12_ofLate 168 = .ok (.iload 4, 2) := dr9 dk9_dX12_ofLate_0_0.2.2.1 4 (168, .iload 4, 2) rfl
theorem dX12_ofLate_170 : decode cX12_ofLate 170 = .ok (.iload 5, 2) := dr9 dk9_dX12_ofLate_0_0.2.2.1 5 (170, .iload 5, 2) rfl
theorem dX12_ofLate_172 : decode cX12_ofLate 172 = .ok (.iload 6, 2) := dr9 dk9_dX12_ofLate_0_0.2.2.1 6 (172, .iload 6, 2) rfl
theorem dX12_ofLate_174 : decode cX12_ofLate 174 = .ok (.invokevirtual 566, 3) := dr9 dk9_dX12_ofLate_0_0.2.2.1 7 (174, .invokevirtual 566, 3) rfl
theorem dX12_ofLate_177 : decode cX12_ofLate 177 = .ok (.ireturn, 1) := dr9 dk9_dX12_ofLate_0_0.2.2.1 8 (177, .ireturn, 1) rfl
theorem dX12_ofLate_111 : decode cX12_ofLate 111 = .ok (.iload 10, 2) := dr9 dk9_dX12_ofLate_0_0.2.2.1 9 (111, .iload 10, 2) rfl
theorem dX12_ofLate_113 : decode cX12_ofLate 113 = .ok (.ireturn, 1) := dr9 dk9_dX12_ofLate_0_0.2.2.1 10 (113, .ireturn, 1) rfl
theorem dX12_ofLate_69 : decode cX12_ofLate 69 = .ok (.aload_n 0, 1) := dr9 dk9_dX12_ofLate_0_0.2.2.1 11 (69, .aload_n 0, 1) rfl
theorem dX12_ofLate_70 : decode cX12_ofLate 70 = .ok (.bipush 13, 2) := dr9 dk9_dX12_ofLate_0_0.2.2.1 12 (70, .bipush 13, 2) rfl
theorem dX12_ofLate_72 : decode cX12_ofLate 72 = .ok (.invokevirtual 484, 3) := dr9 dk9_dX12_ofLate_0_0.2.2.1 13 (72, .invokevirtual 484, 3) rfl
theorem dX12_ofLate_75 : decode cX12_ofLate 75 = .ok (.ireturn, 1) := dr9 dk9_dX12_ofLate_0_0.2.2.1 14 (75, .ireturn, 1) rfl
theorem dX12_ofLate_34 : decode cX12_ofLate 34 = .ok (.iconst 1, 1) := dr9 dk9_dX12_ofLate_0_0.2.2.1 15 (34, .iconst 1, 1) rfl
theorem dX12_ofLate_35 : decode cX12_ofLate 35 = .ok (.goto 4, 3) := dr9 dk9_dX12_ofLate_0_0.2.2.1 16 (35, .goto 4, 3) rfl
theorem dX12_ofLate_46 : decode cX12_ofLate 46 = .ok (.aload_n 0, 1) := dr9 dk9_dX12_ofLate_0_0.2.2.1 17 (46, .aload_n 0, 1) rfl
theorem dX12_ofLate_47 : decode cX12_ofLate 47 = .ok (.getfield 176, 3) := dr9 dk9_dX12_ofLate_0_0.2.2.1 18 (47, .getfield 176, 3) rfl
theorem dX12_ofLate_50 : decode cX12_ofLate 50 = .ok (.bipush 8, 2) := dr9 dk9_dX12_ofLate_0_0.2.2.1 19 (50, .bipush 8, 2) rfl
theorem dX12_ofLate_52 : decode cX12_ofLate 52 = .ok (.iload_n 1, 1) := dr9 dk9_dX12_ofLate_0_0.2.2.1 20 (52, .iload_n 1, 1) rfl
theorem dX12_ofLate_53 : decode cX12_ofLate 53 = .ok (.imul, 1) := dr9 dk9_dX12_ofLate_0_0.2.2.1 21 (53, .imul, 1) rfl
theorem dX12_ofLate_54 : decode cX12_ofLate 54 = .ok (.iload_n 2, 1) := dr9 dk9_dX12_ofLate_0_0.2.2.1 22 (54, .iload_n 2, 1) rfl
theorem dX12_ofLate_55 : decode cX12_ofLate 55 = .ok (.iadd, 1) := dr9 dk9_dX12_ofLate_0_0.2.2.1 23 (55, .iadd, 1) rfl
theorem dX12_ofLate_56 : decode cX12_ofLate 56 = .ok (.iaload, 1) := dr9 dk9_dX12_ofLate_0_0.2.2.2.1 0 (56, .iaload, 1) rfl
theorem dX12_ofLate_57 : decode cX12_ofLate 57 = .ok (.ifCond .ne 121, 3) := dr9 dk9_dX12_ofLate_0_0.2.2.2.1 1 (57, .ifCond .ne 121, 3) rfl
theorem dX12_ofLate_178 : decode cX12_ofLate 178 = .ok (.aload_n 0, 1) := dr9 dk9_dX12_ofLate_0_0.2.2.2.1 2 (178, .aload_n 0, 1) rfl
theorem dX12_ofLate_179 : decode cX12_ofLate 179 = .ok (.aload_n 0, 1) := dr9 dk9_dX12_ofLate_0_0.2.2.2.1 3 (179, .aload_n 0, 1) rfl
theorem dX12_ofLate_180 : decode cX12_ofLate 180 = .ok (.getfield 180, 3) := dr9 dk9_dX12_ofLate_0_0.2.2.2.1 4 (180, .getfield 180, 3) rfl
theorem dX12_ofLate_183 : decode cX12_ofLate 183 = .ok (.bipush 24, 2) := dr9 dk9_dX12_ofLate_0_0.2.2.2.1 5 (183, .bipush 24, 2) rfl
theorem dX12_ofLate_185 : decode cX12_ofLate 185 = .ok (.bipush 8, 2) := dr9 dk9_dX12_ofLate_0_0.2.2.2.1 6 (185, .bipush 8, 2) rfl
theorem dX12_ofLate_187 : decode cX12_ofLate 187 = .ok (.iload_n 1, 1) := dr9 dk9_dX12_ofLate_0_0.2.2.2.1 7 (187, .iload_n 1, 1) rfl
theorem dX12_ofLate_188 : decode cX12_ofLate 188 = .ok (.imul, 1) := dr9 dk9_dX12_ofLate_0_0.2.2.2.1 8 (188, .imul, 1) rfl
theorem dX12_ofLate_189 : decode cX12_ofLate 189 = .ok (.iload_n 2, 1) := dr9 dk9_dX12_ofLate_0_0.2.2.2.1 9 (189, .iload_n 2, 1) rfl
theorem dX12_ofLate_190 : decode cX12_ofLate 190 = .ok (.iadd, 1) := dr9 dk9_dX12_ofLate_0_0.2.2.2.1 10 (190, .iadd, 1) rfl
theorem dX12_ofLate_191 : decode cX12_ofLate 191 = .ok (.imul, 1) := dr9 dk9_dX12_ofLate_0_0.2.2.2.1 11 (191, .imul, 1) rfl
theorem dX12_ofLate_192 : decode cX12_ofLate 192 = .ok (.iaload, 1) := dr9 dk9_dX12_ofLate_0_0.2.2.2.1 12 (192, .iaload, 1) rfl
theorem dX12_ofLate_193 : decode cX12_ofLate 193 = .ok (.iload 4, 2) := dr9 dk9_dX12_ofLate_0_0.2.2.2.1 13 (193, .iload 4, 2) rfl
theorem dX12_ofLate_195 : decode cX12_ofLate 195 = .ok (.iload 5, 2) := dr9 dk9_dX12_ofLate_0_0.2.2.2.1 14 (195, .iload 5, 2) rfl
theorem dX12_ofLate_197 : decode cX12_ofLate 197 = .ok (.iload 6, 2) := dr9 dk9_dX12_ofLate_0_0.2.2.2.1 15 (197, .iload 6, 2) rfl
theorem dX12_ofLate_199 : decode cX12_ofLate 199 = .ok (.invokevirtual 566, 3) := dr9 dk9_dX12_ofLate_0_0.2.2.2.1 16 (199, .invokevirtual 566, 3) rfl
theorem dX12_ofLate_202 : decode cX12_ofLate 202 = .ok (.ireturn, 1) := dr9 dk9_dX12_ofLate_0_0.2.2.2.1 17 (202, .ireturn, 1) rfl
theorem dX12_ofLate_119 : decode cX12_ofLate 119 = .ok (.aload_n 0, 1) := dr9 dk9_dX12_ofLate_0_0.2.2.2.1 18 (119, .aload_n 0, 1) rfl
theorem dX12_ofLate_120 : decode cX12_ofLate 120 = .ok (.getfield 176, 3) := dr9 dk9_dX12_ofLate_0_0.2.2.2.1 19 (120, .getfield 176, 3) rfl
theorem dX12_ofLate_123 : decode cX12_ofLate 123 = .ok (.bipush 8, 2) := dr9 dk9_dX12_ofLate_0_0.2.2.2.1 20 (123, .bipush 8, 2) rfl
theorem dX12_ofLate_125 : decode cX12_ofLate 125 = .ok (.iload_n 1, 1) := dr9 dk9_dX12_ofLate_0_0.2.2.2.1 21 (125, .iload_n 1, 1) rfl
theorem dX12_ofLate_126 : decode cX12_ofLate 126 = .ok (.imul, 1) := dr9 dk9_dX12_ofLate_0_0.2.2.2.1 22 (126, .imul, 1) rfl
theorem dX12_ofLate_127 : decode cX12_ofLate 127 = .ok (.iload_n 2, 1) := dr9 dk9_dX12_ofLate_0_0.2.2.2.1 23 (127, .iload_n 2, 1) rfl
theorem dX12_ofLate_128 : decode cX12_ofLate 128 = .ok (.iadd, 1) := dr9 dk9_dX12_ofLate_0_0.2.2.2.2 0 (128, .iadd, 1) rfl
theorem dX12_ofLate_129 : decode cX12_ofLate 129 = .ok (.iaload, 1) := dr9 dk9_dX12_ofLate_0_0.2.2.2.2 1 (129, .iaload, 1) rfl
theorem dX12_ofLate_130 : decode cX12_ofLate 130 = .ok (.ifCond .ne 33, 3) := dr9 dk9_dX12_ofLate_0_0.2.2.2.2 2 (130, .ifCond .ne 33, 3) rfl
theorem dX12_ofLate_133 : decode cX12_ofLate 133 = .ok (.aload_n 0, 1) := dr9 dk9_dX12_ofLate_0_0.2.2.2.2 3 (133, .aload_n 0, 1) rfl
theorem dX12_ofLate_134 : decode cX12_ofLate 134 = .ok (.getfield 180, 3) := dr9 dk9_dX12_ofLate_0_0.2.2.2.2 4 (134, .getfield 180, 3) rfl
theorem dX12_ofLate_137 : decode cX12_ofLate 137 = .ok (.bipush 24, 2) := dr9 dk9_dX12_ofLate_0_0.2.2.2.2 5 (137, .bipush 24, 2) rfl
theorem dX12_ofLate_139 : decode cX12_ofLate 139 = .ok (.bipush 8, 2) := dr9 dk9_dX12_ofLate_0_0.2.2.2.2 6 (139, .bipush 8, 2) rfl
theorem dX12_ofLate_141 : decode cX12_ofLate 141 = .ok (.iload_n 1, 1) := dr9 dk9_dX12_ofLate_0_0.2.2.2.2 7 (141, .iload_n 1, 1) rfl
theorem dX12_ofLate_142 : decode cX12_ofLate 142 = .ok (.imul, 1) := dr9 dk9_dX12_ofLate_0_0.2.2.2.2 8 (142, .imul, 1) rfl
theorem dX12_ofLate_143 : decode cX12_ofLate 143 = .ok (.iload_n 2, 1) := dr9 dk9_dX12_ofLate_0_0.2.2.2.2 9 (143, .iload_n 2, 1) rfl
theorem dX12_ofLate_144 : decode cX12_ofLate 144 = .ok (.iadd, 1) := dr9 dk9_dX12_ofLate_0_0.2.2.2.2 10 (144, .iadd, 1) rfl
theorem dX12_ofLate_145 : decode cX12_ofLate 145 = .ok (.imul, 1) := dr9 dk9_dX12_ofLate_0_0.2.2.2.2 11 (145, .imul, 1) rfl
theorem dX12_ofLate_146 : decode cX12_ofLate 146 = .ok (.aload_n 0, 1) := dr9 dk9_dX12_ofLate_0_0.2.2.2.2 12 (146, .aload_n 0, 1) rfl
theorem dX12_ofLate_147 : decode cX12_ofLate 147 = .ok (.getfield 490, 3) := dr9 dk9_dX12_ofLate_0_0.2.2.2.2 13 (147, .getfield 490, 3) rfl
theorem dX12_ofLate_150 : decode cX12_ofLate 150 = .ok (.iastore, 1) := dr9 dk9_dX12_ofLate_0_0.2.2.2.2 14 (150, .iastore, 1) rfl
theorem dX12_ofLate_151 : decode cX12_ofLate 151 = .ok (.aload_n 0, 1) := dr9 dk9_dX12_ofLate_0_0.2.2.2.2 15 (151, .aload_n 0, 1) rfl
theorem dX12_ofLate_152 : decode cX12_ofLate 152 = .ok (.getfield 176, 3) := dr9 dk9_dX12_ofLate_0_0.2.2.2.2 16 (152, .getfield 176, 3) rfl
theorem dX12_ofLate_155 : decode cX12_ofLate 155 = .ok (.bipush 8, 2) := dr9 dk9_dX12_ofLate_0_0.2.2.2.2 17 (155, .bipush 8, 2) rfl
theorem dX12_ofLate_157 : decode cX12_ofLate 157 = .ok (.iload_n 1, 1) := dr9 dk9_dX12_ofLate_0_0.2.2.2.2 18 (157, .iload_n 1, 1) rfl
theorem dX12_ofLate_158 : decode cX12_ofLate 158 = .ok (.imul, 1) := dr9 dk9_dX12_ofLate_0_0.2.2.2.2 19 (158, .imul, 1) rfl
theorem dX12_ofLate_159 : decode cX12_ofLate 159 = .ok (.iload_n 2, 1) := dr9 dk9_dX12_ofLate_0_0.2.2.2.2 20 (159, .iload_n 2, 1) rfl
theorem dX12_ofLate_160 : decode cX12_ofLate 160 = .ok (.iadd, 1) := dr9 dk9_dX12_ofLate_0_0.2.2.2.2 21 (160, .iadd, 1) rfl
theorem dX12_ofLate_161 : decode cX12_ofLate 161 = .ok (.iconst 1, 1) := dr9 dk9_dX12_ofLate_0_0.2.2.2.2 22 (161, .iconst 1, 1) rfl
theorem dX12_ofLate_162 : decode cX12_ofLate 162 = .ok (.iastore, 1) := dr9 dk9_dX12_ofLate_0_0.2.2.2.2 23 (162, .iastore, 1) rfl
end
section
theorem w2287 : Cond.code yX12_wrapAt cX12_wrapAt 8 (some .int) ∈ GW := gw_k tk9_9 212 (rfl) rfl
theorem w2284 : Cond.methodLink RX12 529 yX12_wrapAt ∈ GW := gw_k tk9_9 209 (by decide +kernel) rfl
theorem w2286 : Cond.instanceMethod yX12_wrapAt ∈ GW := gw_k tk9_9 211 (by decide +kernel) rfl
theorem w140 : Cond.selects RX12 yX12_wrapAt yX12_wrapAt ∈ GW := gw_mem 140 (by decide +kernel) rfl
theorem hdV_yX12_wrapAt : yX12_wrapAt.cls = RX12 ∧ yX12_wrapAt.cls ≠ "java/lang/invoke/MethodHandle" ∧ yX12_wrapAt.cls ≠ "java/lang/invoke/VarHandle" ∧ (parseMethodDescriptor yX12_wrapAt.desc).map (fun d => d.parameters.length) = some 4 := by decide +kernel
theorem w2303 : Cond.code yX12_notes cX12_notes 4 none ∈ GW := gw_k tk9_9 228 (rfl) rfl
theorem w2300 : Cond.methodLink RX12 535 yX12_notes ∈ GW := gw_k tk9_9 225 (by decide +kernel) rfl
theorem w2302 : Cond.instanceMethod yX12_notes ∈ GW := gw_k tk9_9 227 (by decide +kernel) rfl
theorem w144 : Cond.selects RX12 yX12_notes yX12_notes ∈ GW := gw_mem 144 (by decide +kernel) rfl
theorem hdV_yX12_notes : yX12_notes.cls = RX12 ∧ yX12_notes.cls ≠ "java/lang/invoke/MethodHandle" ∧ yX12_notes.cls ≠ "java/lang/invoke/VarHandle" ∧ (parseMethodDescriptor yX12_notes.desc).map (fun d => d.parameters.length) = some 3 := by decide +kernel
theorem w2295 : Cond.code yX12_inside cX12_inside 11 (some .int) ∈ GW := gw_k tk9_9 220 (rfl) rfl
theorem w2292 : Cond.methodLink RX12 532 yX12_inside ∈ GW := gw_k tk9_9 217 (by decide +kernel) rfl
theorem w2294 : Cond.instanceMethod yX12_inside ∈ GW := gw_k tk9_9 219 (by decide +kernel) rfl
theorem w142 : Cond.selects RX12 yX12_inside yX12_inside ∈ GW := gw_mem 142 (by decide +kernel) rfl
theorem hdV_yX12_inside : yX12_inside.cls = RX12 ∧ yX12_inside.cls ≠ "java/lang/invoke/MethodHandle" ∧ yX12_inside.cls ≠ "java/lang/invoke/VarHandle" ∧ (parseMethodDescriptor yX12_inside.desc).map (fun d => d.parameters.length) = some 4 := by decide +kernel
theorem dk9_dX12_arounds_0_0 : dOk cX12_arounds [(0, .aload_n 0, 1), (1, .iload_n 1, 1), (2, .iload_n 2, 1), (3, .iload_n 3, 1), (4, .iconst 1, 1), (5, .invokevirtual 529, 3), (8, .istore 6, 2), (10, .iload 6, 2), (12, .ifCond .ge 14, 3), (26, .aload_n 0, 1), (27, .iconst 1, 1), (28, .iload 6, 2), (30, .iload 5, 2), (32, .invokevirtual 535, 3), (35, .aload_n 0, 1), (36, .aload_n 0, 1), (37, .getfield 137, 3), (40, .bipush 12, 2), (42, .aload_n 0, 1), (43, .getfield 286, 3), (46, .imul, 1), (47, .iload 6, 2), (49, .iadd, 1), (50, .iaload, 1)] = true ∧ dOk cX12_arounds [(51, .iload_n 2, 1), (52, .iload_n 3, 1), (53, .iload 4, 2), (55, .iload 5, 2), (57, .iload_n 1, 1), (58, .iconst 1, 1), (59, .iadd, 1), (60, .invokevirtual 538, 3), (63, .ireturn, 1), (15, .aload_n 0, 1), (16, .iload_n 2, 1), (17, .iload_n 3, 1), (18, .iload 4, 2), (20, .iload 5, 2), (22, .invokevirtual 532, 3), (25, .ireturn, 1)] = true := by decide +kernel
theorem dX12_arounds_0 : decode cX12_arounds 0 = .ok (.aload_n 0, 1) := dr9 dk9_dX12_arounds_0_0.1 0 (0, .aload_n 0, 1) rfl
theorem dX12_arounds_1 : decode cX12_arounds 1 = .ok (.iload_n 1, 1) := dr9 dk9_dX12_arounds_0_0.1 1 (1, .iload_n 1, 1) rfl
theorem dX12_arounds_2 : decode cX12_arounds 2 = .ok (.iload_n 2, 1) := dr9 dk9_dX12_arounds_0_0.1 2 (2, .iload_n 2, 1) rfl
theorem dX12_arounds_3 : decode cX12_arounds 3 = .ok (.iload_n 3, 1) := dr9 dk9_dX12_arounds_0_0.1 3 (3, .iload_n 3, 1) rfl
theorem dX12_arounds_4 : decode cX12_arounds 4 = .ok (.iconst 1, 1) := dr9 dk9_dX12_arounds_0_0.1 4 (4, .iconst 1, 1) rfl
theorem dX12_arounds_5 : decode cX12_arounds 5 = .ok (.invokevirtual 529, 3) := dr9 dk9_dX12_arounds_0_0.1 5 (5, .invokevirtual 529, 3) rfl
theorem dX12_arounds_8 : decode cX12_arounds 8 = .ok (.istore 6, 2) := dr9 dk9_dX12_arounds_0_0.1 6 (8, .istore 6, 2) rfl
theorem dX12_arounds_10 : decode cX12_arounds 10 = .ok (.iload 6, 2) := dr9 dk9_dX12_arounds_0_0.1 7 (10, .iload 6, 2) rfl
theorem dX12_arounds_12 : decode cX12_arounds 12 = .ok (.ifCond .ge 14, 3) := dr9 dk9_dX12_arounds_0_0.1 8 (12, .ifCond .ge 14, 3) rfl
theorem dX12_arounds_26 : decode cX12_arounds 26 = .ok (.aload_n 0, 1) := dr9 dk9_dX12_arounds_0_0.1 9 (26, .aload_n 0, 1) rfl
theorem dX12_arounds_27 : decode cX12_arounds 27 = .ok (.iconst 1, 1) := dr9 dk9_dX12_arounds_0_0.1 10 (27, .iconst 1, 1) rfl
theorem dX12_arounds_28 : decode cX12_arounds 28 = .ok (.iload 6, 2) := dr9 dk9_dX12_arounds_0_0.1 11 (28, .iload 6, 2) rfl
theorem dX12_arounds_30 : decode cX12_arounds 30 = .ok (.iload 5, 2) := dr9 dk9_dX12_arounds_0_0.1 12 (30, .iload 5, 2) rfl
theorem dX12_arounds_32 : decode cX12_arounds 32 = .ok (.invokevirtual 535, 3) := dr9 dk9_dX12_arounds_0_0.1 13 (32, .invokevirtual 535, 3) rfl
theorem dX12_arounds_35 : decode cX12_arounds 35 = .ok (.aload_n 0, 1) := dr9 dk9_dX12_arounds_0_0.1 14 (35, .aload_n 0, 1) rfl
theorem dX12_arounds_36 : decode cX12_arounds 36 = .ok (.aload_n 0, 1) := dr9 dk9_dX12_arounds_0_0.1 15 (36, .aload_n 0, 1) rfl
theorem dX12_arounds_37 : decode cX12_arounds 37 = .ok (.getfield 137, 3) := dr9 dk9_dX12_arounds_0_0.1 16 (37, .getfield 137, 3) rfl
theorem dX12_arounds_40 : decode cX12_arounds 40 = .ok (.bipush 12, 2) := dr9 dk9_dX12_arounds_0_0.1 17 (40, .bipush 12, 2) rfl
theorem dX12_arounds_42 : decode cX12_arounds 42 = .ok (.aload_n 0, 1) := dr9 dk9_dX12_arounds_0_0.1 18 (42, .aload_n 0, 1) rfl
theorem dX12_arounds_43 : decode cX12_arounds 43 = .ok (.getfield 286, 3) := dr9 dk9_dX12_arounds_0_0.1 19 (43, .getfield 286, 3) rfl
theorem dX12_arounds_46 : decode cX12_arounds 46 = .ok (.imul, 1) := dr9 dk9_dX12_arounds_0_0.1 20 (46, .imul, 1) rfl
theorem dX12_arounds_47 : decode cX12_arounds 47 = .ok (.iload 6, 2) := dr9 dk9_dX12_arounds_0_0.1 21 (47, .iload 6, 2) rfl
theorem dX12_arounds_49 : decode cX12_arounds 49 = .ok (.iadd, 1) := dr9 dk9_dX12_arounds_0_0.1 22 (49, .iadd, 1) rfl
theorem dX12_arounds_50 : decode cX12_arounds 50 = .ok (.iaload, 1) := dr9 dk9_dX12_arounds_0_0.1 23 (50, .iaload, 1) rfl
theorem dX12_arounds_51 : decode cX12_arounds 51 = .ok (.iload_n 2, 1) := dr9 dk9_dX12_arounds_0_0.2 0 (51, .iload_n 2, 1) rfl
theorem dX12_arounds_52 : decode cX12_arounds 52 = .ok (.iload_n 3, 1) := dr9 dk9_dX12_arounds_0_0.2 1 (52, .iload_n 3, 1) rfl
theorem dX12_arounds_53 : decode cX12_arounds 53 = .ok (.iload 4, 2) := dr9 dk9_dX12_arounds_0_0.2 2 (53, .iload 4, 2) rfl
theorem dX12_arounds_55 : decode cX12_arounds 55 = .ok (.iload 5, 2) := dr9 dk9_dX12_arounds_0_0.2 3 (55, .iload 5, 2) rfl
theorem dX12_arounds_57 : decode cX12_arounds 57 = .ok (.iload_n 1, 1) := dr9 dk9_dX12_arounds_0_0.2 4 (57, .iload_n 1, 1) rfl
theorem dX12_arounds_58 : decode cX12_arounds 58 = .ok (.iconst 1, 1) := dr9 dk9_dX12_arounds_0_0.2 5 (58, .iconst 1, 1) rfl
theorem dX12_arounds_59 : decode cX12_arounds 59 = .ok (.iadd, 1) := dr9 dk9_dX12_arounds_0_0.2 6 (59, .iadd, 1) rfl
theorem dX12_arounds_60 : decode cX12_arounds 60 = .ok (.invokevirtual 538, 3) := dr9 dk9_dX12_arounds_0_0.2 7 (60, .invokevirtual 538, 3) rfl
theorem dX12_arounds_63 : decode cX12_arounds 63 = .ok (.ireturn, 1) := dr9 dk9_dX12_arounds_0_0.2 8 (63, .ireturn, 1) rfl
theorem dX12_arounds_15 : decode cX12_arounds 15 = .ok (.aload_n 0, 1) := dr9 dk9_dX12_arounds_0_0.2 9 (15, .aload_n 0, 1) rfl
theorem dX12_arounds_16 : decode cX12_arounds 16 = .ok (.iload_n 2, 1) := dr9 dk9_dX12_arounds_0_0.2 10 (16, .iload_n 2, 1) rfl
theorem dX12_arounds_17 : decode cX12_arounds 17 = .ok (.iload_n 3, 1) := dr9 dk9_dX12_arounds_0_0.2 11 (17, .iload_n 3, 1) rfl
theorem dX12_arounds_18 : decode cX12_arounds 18 = .ok (.iload 4, 2) := dr9 dk9_dX12_arounds_0_0.2 12 (18, .iload 4, 2) rfl
theorem dX12_arounds_20 : decode cX12_arounds 20 = .ok (.iload 5, 2) := dr9 dk9_dX12_arounds_0_0.2 13 (20, .iload 5, 2) rfl
theorem dX12_arounds_22 : decode cX12_arounds 22 = .ok (.invokevirtual 532, 3) := dr9 dk9_dX12_arounds_0_0.2 14 (22, .invokevirtual 532, 3) rfl
theorem dX12_arounds_25 : decode cX12_arounds 25 = .ok (.ireturn, 1) := dr9 dk9_dX12_arounds_0_0.2 15 (25, .ireturn, 1) rfl
abbrev q_s_inside (D : va_G) (ks : KS) (ad : Nat → Nat) (kk : Nat → ClassId) (V : Vf) (L : Lf) (p0 : Int32) (p1 : Int32) (p2 : Int32) (p3 : Int32) (A : Nat → Prop) : Array Value → State → Outcome → State → Prop := va_Qi (fun (r : Int32) (u : Vf × Lf) => rgd bM u.1 ∧ agr [(0, 60), (0, 65), (0, 68), (0, 69), (0, 73), (0, 76), (0, 90), (0, 91), (0, 92), (0, 93), (0, 95), (0, 96), (0, 98)] [59, 61, 62, 63, 64, 66, 67, 74, 75, 77, 78, 79, 80, 94, 97] V u.1 ∧ u.2 = L ∧ (0 ≤ r.toInt ∧ r.toInt ≤ 2) ∧ ((u.1 0 93).toInt = (V 0 93).toInt) ∧ ((u.1 0 98).toInt = (V 0 98).toInt) ∧ ((V 0 60).toInt ≤ (u.1 0 60).toInt) ∧ ((V 0 65).toInt ≤ (u.1 0 65).toInt) ∧ ((u.1 0 65).toInt - (V 0 65).toInt ≤ (u.1 0 60).toInt - (V 0 60).toInt) ∧ ((u.1 0 73).toInt + (u.1 0 95).toInt - (u.1 0 65).toInt ≤ (V 0 73).toInt + (V 0 95).toInt - (V 0 65).toInt) ∧ ((V 0 73).toInt ≤ (u.1 0 73).toInt) ∧ ((V 0 69).toInt ≤ (u.1 0 69).toInt) ∧ ((u.1 0 95).toInt = (V 0 95).toInt) ∧ ((u.1 0 76).toInt - (u.1 0 69).toInt - (u.1 0 73).toInt ≤ (V 0 76).toInt - (V 0 69).toInt - (V 0 73).toInt + 1) ∧ (Imp (r.toInt ≠ 2) ((u.1 0 76).toInt - (u.1 0 69).toInt - (u.1 0 73).toInt ≤ (V 0 76).toInt - (V 0 69).toInt - (V 0 73).toInt)) ∧ (RT u.1) ∧ (FRM V u.1 (-1))) (fun u t => gq D A (mw ad kk ks.1 u.1 u.2) (mty kk) t) A
def K_s_inside (l : Launch) (D : va_G) (ks : KS) (d1 d2 : Nat) : Prop := ∀ (sz : Nat) (ad : Nat → Nat) (kk : Nat → ClassId) (V : Vf) (L : Lf) (p0 : Int32) (p1 : Int32) (p2 : Int32) (p3 : Int32) (hMV : rgd bM V) (rg_p0 : 0 ≤ p0.toInt ∧ p0.toInt ≤ 299) (rg_p1 : 0 ≤ p1.toInt ∧ p1.toInt ≤ 19) (rg_p2 : 0 ≤ p2.toInt ∧ p2.toInt ≤ 39) (rt : RT V) (n1 : (V 0 65).toInt ≤ (V 0 60).toInt) (n2 : (V 0 95).toInt ≤ (V 0 65).toInt) (n3 : (V 0 73).toInt + (V 0 95).toInt - (V 0 65).toInt ≤ 999000) (n4 : (V 0 76).toInt - (V 0 69).toInt - (V 0 73).toInt ≤ 1000000000) (n5 : 300 - (V 0 60).toInt ≤ (d1 : Int)) (n6 : 10 - (V 0 93).toInt ≤ (d2 : Int)) (oq1 : p0.toInt < (V 0 60).toInt) (n7 : (V 0 98).toInt + 400 * (d2 : Int) + 30 ≤ 19000) , Met l yX12_inside (Cond.code yX12_inside cX12_inside 11 (some .int) :: GW) (rK2 (4 * d1 + 40 * d2 + 13) (100 * d1 + 1000 * d2 + 500)) (va_Pc [.ref (ad 0), .int p0, .int p1, .int p2, .int p3] (gp D ks (mw ad kk ks.1 V L) (mty kk) sz)) (q_s_inside D ks ad kk V L p0 p1 p2 p3 (va_A (mw ad kk ks.1 V L) sz)) 0 0 (va_A (mw ad kk ks.1 V L) sz)
end
section
theorem w2299 : Cond.code yX12_wrapsOf cX12_wrapsOf 6 (some .int) ∈ GW := gw_k tk9_9 224 (rfl) rfl
theorem w2296 : Cond.methodLink RX12 542 yX12_wrapsOf ∈ GW := gw_k tk9_9 221 (by decide +kernel) rfl
theorem w2298 : Cond.instanceMethod yX12_wrapsOf ∈ GW := gw_k tk9_9 223 (by decide +kernel) rfl
theorem w143 : Cond.selects RX12 yX12_wrapsOf yX12_wrapsOf ∈ GW := gw_mem 143 (by decide +kernel) rfl
theorem hdV_yX12_wrapsOf : yX12_wrapsOf.cls = RX12 ∧ yX12_wrapsOf.cls ≠ "java/lang/invoke/MethodHandle" ∧ yX12_wrapsOf.cls ≠ "java/lang/invoke/VarHandle" ∧ (parseMethodDescriptor yX12_wrapsOf.desc).map (fun d => d.parameters.length) = some 3 := by decide +kernel
theorem dk9_dX12_failings_0_0 : dOk cX12_failings [(0, .aload_n 0, 1), (1, .getfield 471, 3), (4, .istore 4, 2), (6, .aload_n 0, 1), (7, .getfield 474, 3), (10, .istore 5, 2), (12, .aload_n 0, 1), (13, .iload_n 1, 1), (14, .iload_n 2, 1), (15, .iconst 3, 1), (16, .invokevirtual 542, 3), (19, .istore 6, 2), (21, .iload 6, 2), (23, .iconst 1, 1), (24, .isub, 1), (25, .istore 7, 2), (27, .iload 7, 2), (29, .ifCond .lt 78, 3), (107, .aload_n 0, 1), (108, .iload 4, 2), (110, .putfield 471, 3), (113, .aload_n 0, 1), (114, .iload 5, 2), (116, .putfield 474, 3)] = true ∧ dOk cX12_failings [(119, .iconst 1, 1), (120, .ireturn, 1), (32, .aload_n 0, 1), (33, .iload 7, 2), (35, .iload_n 1, 1), (36, .iload_n 2, 1), (37, .iconst 3, 1), (38, .invokevirtual 529, 3), (41, .istore 8, 2), (43, .iload 4, 2), (45, .ifCond .le 8, 3), (53, .iload 5, 2), (55, .istore 9, 2), (57, .aload_n 0, 1), (58, .iconst 3, 1), (59, .iload 8, 2), (61, .iload 9, 2), (63, .invokevirtual 535, 3), (66, .aload_n 0, 1), (67, .aload_n 0, 1), (68, .getfield 137, 3), (71, .bipush 12, 2), (73, .aload_n 0, 1), (74, .getfield 286, 3)] = true ∧ dOk cX12_failings [(77, .imul, 1), (78, .iload 8, 2), (80, .iadd, 1), (81, .iaload, 1), (82, .iload_n 1, 1), (83, .iload_n 3, 1), (84, .iload 9, 2), (86, .iconst (-1), 1), (87, .invokevirtual 503, 3), (90, .istore 10, 2), (92, .iload 10, 2), (94, .iconst 1, 1), (95, .if_icmp .eq 6, 3), (101, .iinc 7 (-1), 3), (104, .goto (-77), 3), (98, .iload 10, 2), (100, .ireturn, 1), (48, .bipush 20, 2), (50, .goto 5, 3)] = true := by decide +kernel
theorem dX12_failings_0 : decode cX12_failings 0 = .ok (.aload_n 0, 1) := dr9 dk9_dX12_failings_0_0.1 0 (0, .aload_n 0, 1) rfl
theorem dX12_failings_1 : decode cX12_failings 1 = .ok (.getfield 471, 3) := dr9 dk9_dX12_failings_0_0.1 1 (1, .getfield 471, 3) rfl
theorem dX12_failings_4 : decode cX12_failings 4 = .ok (.istore 4, 2) := dr9 dk9_dX12_failings_0_0.1 2 (4, .istore 4, 2) rfl
theorem dX12_failings_6 : decode cX12_failings 6 = .ok (.aload_n 0, 1) := dr9 dk9_dX12_failings_0_0.1 3 (6, .aload_n 0, 1) rfl
theorem dX12_failings_7 : decode cX12_failings 7 = .ok (.getfield 474, 3) := dr9 dk9_dX12_failings_0_0.1 4 (7, .getfield 474, 3) rfl
theorem dX12_failings_10 : decode cX12_failings 10 = .ok (.istore 5, 2) := dr9 dk9_dX12_failings_0_0.1 5 (10, .istore 5, 2) rfl
theorem dX12_failings_12 : decode cX12_failings 12 = .ok (.aload_n 0, 1) := dr9 dk9_dX12_failings_0_0.1 6 (12, .aload_n 0, 1) rfl
theorem dX12_failings_13 : decode cX12_failings 13 = .ok (.iload_n 1, 1) := dr9 dk9_dX12_failings_0_0.1 7 (13, .iload_n 1, 1) rfl
theorem dX12_failings_14 : decode cX12_failings 14 = .ok (.iload_n 2, 1) := dr9 dk9_dX12_failings_0_0.1 8 (14, .iload_n 2, 1) rfl
theorem dX12_failings_15 : decode cX12_failings 15 = .ok (.iconst 3, 1) := dr9 dk9_dX12_failings_0_0.1 9 (15, .iconst 3, 1) rfl
theorem dX12_failings_16 : decode cX12_failings 16 = .ok (.invokevirtual 542, 3) := dr9 dk9_dX12_failings_0_0.1 10 (16, .invokevirtual 542, 3) rfl
theorem dX12_failings_19 : decode cX12_failings 19 = .ok (.istore 6, 2) := dr9 dk9_dX12_failings_0_0.1 11 (19, .istore 6, 2) rfl
theorem dX12_failings_21 : decode cX12_failings 21 = .ok (.iload 6, 2) := dr9 dk9_dX12_failings_0_0.1 12 (21, .iload 6, 2) rfl
theorem dX12_failings_23 : decode cX12_failings 23 = .ok (.iconst 1, 1) := dr9 dk9_dX12_failings_0_0.1 13 (23, .iconst 1, 1) rfl
theorem dX12_failings_24 : decode cX12_failings 24 = .ok (.isub, 1) := dr9 dk9_dX12_failings_0_0.1 14 (24, .isub, 1) rfl
theorem dX12_failings_25 : decode cX12_failings 25 = .ok (.istore 7, 2) := dr9 dk9_dX12_failings_0_0.1 15 (25, .istore 7, 2) rfl
theorem dX12_failings_27 : decode cX12_failings 27 = .ok (.iload 7, 2) := dr9 dk9_dX12_failings_0_0.1 16 (27, .iload 7, 2) rfl
theorem dX12_failings_29 : decode cX12_failings 29 = .ok (.ifCond .lt 78, 3) := dr9 dk9_dX12_failings_0_0.1 17 (29, .ifCond .lt 78, 3) rfl
theorem dX12_failings_107 : decode cX12_failings 107 = .ok (.aload_n 0, 1) := dr9 dk9_dX12_failings_0_0.1 18 (107, .aload_n 0, 1) rfl
theorem dX12_failings_108 : decode cX12_failings 108 = .ok (.iload 4, 2) := dr9 dk9_dX12_failings_0_0.1 19 (108, .iload 4, 2) rfl
theorem dX12_failings_110 : decode cX12_failings 110 = .ok (.putfield 471, 3) := dr9 dk9_dX12_failings_0_0.1 20 (110, .putfield 471, 3) rfl
theorem dX12_failings_113 : decode cX12_failings 113 = .ok (.aload_n 0, 1) := dr9 dk9_dX12_failings_0_0.1 21 (113, .aload_n 0, 1) rfl
theorem dX12_failings_114 : decode cX12_failings 114 = .ok (.iload 5, 2) := dr9 dk9_dX12_failings_0_0.1 22 (114, .iload 5, 2) rfl
theorem dX12_failings_116 : decode cX12_failings 116 = .ok (.putfield 474, 3) := dr9 dk9_dX12_failings_0_0.1 23 (116, .putfield 474, 3) rfl
theorem dX12_failings_119 : decode cX12_failings 119 = .ok (.iconst 1, 1) := dr9 dk9_dX12_failings_0_0.2.1 0 (119, .iconst 1, 1) rfl
theorem dX12_failings_120 : decode cX12_failings 120 = .ok (.ireturn, 1) := dr9 dk9_dX12_failings_0_0.2.1 1 (120, .ireturn, 1) rfl
theorem dX12_failings_32 : decode cX12_failings 32 = .ok (.aload_n 0, 1) := dr9 dk9_dX12_failings_0_0.2.1 2 (32, .aload_n 0, 1) rfl
theorem dX12_failings_33 : decode cX12_failings 33 = .ok (.iload 7, 2) := dr9 dk9_dX12_failings_0_0.2.1 3 (33, .iload 7, 2) rfl
theorem dX12_failings_35 : decode cX12_failings 35 = .ok (.iload_n 1, 1) := dr9 dk9_dX12_failings_0_0.2.1 4 (35, .iload_n 1, 1) rfl
theorem dX12_failings_36 : decode cX12_failings 36 = .ok (.iload_n 2, 1) := dr9 dk9_dX12_failings_0_0.2.1 5 (36, .iload_n 2, 1) rfl
theorem dX12_failings_37 : decode cX12_failings 37 = .ok (.iconst 3, 1) := dr9 dk9_dX12_failings_0_0.2.1 6 (37, .iconst 3, 1) rfl
theorem dX12_failings_38 : decode cX12_failings 38 = .ok (.invokevirtual 529, 3) := dr9 dk9_dX12_failings_0_0.2.1 7 (38, .invokevirtual 529, 3) rfl
theorem dX12_failings_41 : decode cX12_failings 41 = .ok (.istore 8, 2) := dr9 dk9_dX12_failings_0_0.2.1 8 (41, .istore 8, 2) rfl
theorem dX12_failings_43 : decode cX12_failings 43 = .ok (.iload 4, 2) := dr9 dk9_dX12_failings_0_0.2.1 9 (43, .iload 4, 2) rfl
theorem dX12_failings_45 : decode cX12_failings 45 = .ok (.ifCond .le 8, 3) := dr9 dk9_dX12_failings_0_0.2.1 10 (45, .ifCond .le 8, 3) rfl
theorem dX12_failings_53 : decode cX12_failings 53 = .ok (.iload 5, 2) := dr9 dk9_dX12_failings_0_0.2.1 11 (53, .iload 5, 2) rfl
theorem dX12_failings_55 : decode cX12_failings 55 = .ok (.istore 9, 2) := dr9 dk9_dX12_failings_0_0.2.1 12 (55, .istore 9, 2) rfl
theorem dX12_failings_57 : decode cX12_failings 57 = .ok (.aload_n 0, 1) := dr9 dk9_dX12_failings_0_0.2.1 13 (57, .aload_n 0, 1) rfl
theorem dX12_failings_58 : decode cX12_failings 58 = .ok (.iconst 3, 1) := dr9 dk9_dX12_failings_0_0.2.1 14 (58, .iconst 3, 1) rfl
theorem dX12_failings_59 : decode cX12_failings 59 = .ok (.iload 8, 2) := dr9 dk9_dX12_failings_0_0.2.1 15 (59, .iload 8, 2) rfl
theorem dX12_failings_61 : decode cX12_failings 61 = .ok (.iload 9, 2) := dr9 dk9_dX12_failings_0_0.2.1 16 (61, .iload 9, 2) rfl
theorem dX12_failings_63 : decode cX12_failings 63 = .ok (.invokevirtual 535, 3) := dr9 dk9_dX12_failings_0_0.2.1 17 (63, .invokevirtual 535, 3) rfl
theorem dX12_failings_66 : decode cX12_failings 66 = .ok (.aload_n 0, 1) := dr9 dk9_dX12_failings_0_0.2.1 18 (66, .aload_n 0, 1) rfl
theorem dX12_failings_67 : decode cX12_failings 67 = .ok (.aload_n 0, 1) := dr9 dk9_dX12_failings_0_0.2.1 19 (67, .aload_n 0, 1) rfl
theorem dX12_failings_68 : decode cX12_failings 68 = .ok (.getfield 137, 3) := dr9 dk9_dX12_failings_0_0.2.1 20 (68, .getfield 137, 3) rfl
theorem dX12_failings_71 : decode cX12_failings 71 = .ok (.bipush 12, 2) := dr9 dk9_dX12_failings_0_0.2.1 21 (71, .bipush 12, 2) rfl
theorem dX12_failings_73 : decode cX12_failings 73 = .ok (.aload_n 0, 1) := dr9 dk9_dX12_failings_0_0.2.1 22 (73, .aload_n 0, 1) rfl
theorem dX12_failings_74 : decode cX12_failings 74 = .ok (.getfield 286, 3) := dr9 dk9_dX12_failings_0_0.2.1 23 (74, .getfield 286, 3) rfl
theorem dX12_failings_77 : decode cX12_failings 77 = .ok (.imul, 1) := dr9 dk9_dX12_failings_0_0.2.2 0 (77, .imul, 1) rfl
theorem dX12_failings_78 : decode cX12_failings 78 = .ok (.iload 8, 2) := dr9 dk9_dX12_failings_0_0.2.2 1 (78, .iload 8, 2) rfl
theorem dX12_failings_80 : decode cX12_failings 80 = .ok (.iadd, 1) := dr9 dk9_dX12_failings_0_0.2.2 2 (80, .iadd, 1) rfl
theorem dX12_failings_81 : decode cX12_failings 81 = .ok (.iaload, 1) := dr9 dk9_dX12_failings_0_0.2.2 3 (81, .iaload, 1) rfl
theorem dX12_failings_82 : decode cX12_failings 82 = .ok (.iload_n 1, 1) := dr9 dk9_dX12_failings_0_0.2.2 4 (82, .iload_n 1, 1) rfl
theorem dX12_failings_83 : decode cX12_failings 83 = .ok (.iload_n 3, 1) := dr9 dk9_dX12_failings_0_0.2.2 5 (83, .iload_n 3, 1) rfl
theorem dX12_failings_84 : decode cX12_failings 84 = .ok (.iload 9, 2) := dr9 dk9_dX12_failings_0_0.2.2 6 (84, .iload 9, 2) rfl
theorem dX12_failings_86 : decode cX12_failings 86 = .ok (.iconst (-1), 1) := dr9 dk9_dX12_failings_0_0.2.2 7 (86, .iconst (-1), 1) rfl
theorem dX12_failings_87 : decode cX12_failings 87 = .ok (.invokevirtual 503, 3) := dr9 dk9_dX12_failings_0_0.2.2 8 (87, .invokevirtual 503, 3) rfl
theorem dX12_failings_90 : decode cX12_failings 90 = .ok (.istore 10, 2) := dr9 dk9_dX12_failings_0_0.2.2 9 (90, .istore 10, 2) rfl
theorem dX12_failings_92 : decode cX12_failings 92 = .ok (.iload 10, 2) := dr9 dk9_dX12_failings_0_0.2.2 10 (92, .iload 10, 2) rfl
theorem dX12_failings_94 : decode cX12_failings 94 = .ok (.iconst 1, 1) := dr9 dk9_dX12_failings_0_0.2.2 11 (94, .iconst 1, 1) rfl
theorem dX12_failings_95 : decode cX12_failings 95 = .ok (.if_icmp .eq 6, 3) := dr9 dk9_dX12_failings_0_0.2.2 12 (95, .if_icmp .eq 6, 3) rfl
theorem dX12_failings_101 : decode cX12_failings 101 = .ok (.iinc 7 (-1), 3) := dr9 dk9_dX12_failings_0_0.2.2 13 (101, .iinc 7 (-1), 3) rfl
theorem dX12_failings_104 : decode cX12_failings 104 = .ok (.goto (-77), 3) := dr9 dk9_dX12_failings_0_0.2.2 14 (104, .goto (-77), 3) rfl
theorem dX12_failings_98 : decode cX12_failings 98 = .ok (.iload 10, 2) := dr9 dk9_dX12_failings_0_0.2.2 15 (98, .iload 10, 2) rfl
theorem dX12_failings_100 : decode cX12_failings 100 = .ok (.ireturn, 1) := dr9 dk9_dX12_failings_0_0.2.2 16 (100, .ireturn, 1) rfl
theorem dX12_failings_48 : decode cX12_failings 48 = .ok (.bipush 20, 2) := dr9 dk9_dX12_failings_0_0.2.2 17 (48, .bipush 20, 2) rfl
theorem dX12_failings_50 : decode cX12_failings 50 = .ok (.goto 5, 3) := dr9 dk9_dX12_failings_0_0.2.2 18 (50, .goto 5, 3) rfl
end
section
theorem dk9_dX12_inside_0_0 : dOk cX12_inside [(0, .iload 4, 2), (2, .istore 5, 2), (4, .aload_n 0, 1), (5, .iload_n 1, 1), (6, .iload_n 2, 1), (7, .iconst 0, 1), (8, .invokevirtual 542, 3), (11, .istore 6, 2), (13, .iconst 0, 1), (14, .istore 7, 2), (16, .iload 7, 2), (18, .iload 6, 2), (20, .if_icmp .ge 69, 3), (89, .aload_n 0, 1), (90, .getfield 107, 3), (93, .bipush 20, 2), (95, .bipush 24, 2), (97, .aload_n 0, 1), (98, .getfield 286, 3), (101, .imul, 1), (102, .aload_n 0, 1), (103, .getfield 164, 3), (106, .iload_n 1, 1), (107, .iaload, 1)] = true ∧ dOk cX12_inside [(108, .iadd, 1), (109, .imul, 1), (110, .iload_n 2, 1), (111, .iadd, 1), (112, .iaload, 1), (113, .istore 7, 2), (115, .iload 7, 2), (117, .ifCond .ge 10, 3), (127, .aload_n 0, 1), (128, .iconst 4, 1), (129, .iload_n 1, 1), (130, .iload 5, 2), (132, .invokevirtual 535, 3), (135, .aload_n 0, 1), (136, .iload 7, 2), (138, .iload_n 1, 1), (139, .iload_n 3, 1), (140, .iload 5, 2), (142, .iconst (-1), 1), (143, .invokevirtual 503, 3), (146, .istore 8, 2), (148, .aload_n 0, 1), (149, .iload_n 1, 1), (150, .iload_n 2, 1)] = true ∧ dOk cX12_inside [(151, .iconst 2, 1), (152, .invokevirtual 542, 3), (155, .istore 6, 2), (157, .iload 6, 2), (159, .iconst 1, 1), (160, .isub, 1), (161, .istore 9, 2), (163, .iload 9, 2), (165, .ifCond .lt 66, 3), (231, .iload 8, 2), (233, .ireturn, 1), (168, .iload 8, 2), (170, .ifCond .ne 61, 3), (173, .aload_n 0, 1), (174, .iload 9, 2), (176, .iload_n 1, 1), (177, .iload_n 2, 1), (178, .iconst 2, 1), (179, .invokevirtual 529, 3), (182, .istore 10, 2), (184, .aload_n 0, 1), (185, .getfield 545, 3), (188, .istore 5, 2), (190, .aload_n 0, 1)] = true ∧ dOk cX12_inside [(191, .iconst 2, 1), (192, .iload 10, 2), (194, .iload 5, 2), (196, .invokevirtual 535, 3), (199, .aload_n 0, 1), (200, .aload_n 0, 1), (201, .getfield 137, 3), (204, .bipush 12, 2), (206, .aload_n 0, 1), (207, .getfield 286, 3), (210, .imul, 1), (211, .iload 10, 2), (213, .iadd, 1), (214, .iaload, 1), (215, .iload_n 1, 1), (216, .iload_n 3, 1), (217, .iload 5, 2), (219, .iconst (-1), 1), (220, .invokevirtual 503, 3), (223, .istore 8, 2), (225, .iinc 9 (-1), 3), (228, .goto (-65), 3), (120, .aload_n 0, 1), (121, .bipush 11, 2)] = true ∧ dOk cX12_inside [(123, .invokevirtual 484, 3), (126, .ireturn, 1), (23, .aload_n 0, 1), (24, .iload 7, 2), (26, .iload_n 1, 1), (27, .iload_n 2, 1), (28, .iconst 0, 1), (29, .invokevirtual 529, 3), (32, .istore 8, 2), (34, .aload_n 0, 1), (35, .iconst 0, 1), (36, .iload 8, 2), (38, .iload 5, 2), (40, .invokevirtual 535, 3), (43, .aload_n 0, 1), (44, .aload_n 0, 1), (45, .getfield 137, 3), (48, .bipush 12, 2), (50, .aload_n 0, 1), (51, .getfield 286, 3), (54, .imul, 1), (55, .iload 8, 2), (57, .iadd, 1), (58, .iaload, 1)] = true ∧ dOk cX12_inside [(59, .iload_n 1, 1), (60, .iload_n 3, 1), (61, .iload 5, 2), (63, .iconst (-1), 1), (64, .invokevirtual 503, 3), (67, .istore 9, 2), (69, .iload 9, 2), (71, .ifCond .le 6, 3), (77, .aload_n 0, 1), (78, .getfield 545, 3), (81, .istore 5, 2), (83, .iinc 7 1, 3), (86, .goto (-70), 3), (74, .iload 9, 2), (76, .ireturn, 1)] = true := by decide +kernel
theorem dX12_inside_0 : decode cX12_inside 0 = .ok (.iload 4, 2) := dr9 dk9_dX12_inside_0_0.1 0 (0, .iload 4, 2) rfl
theorem dX12_inside_2 : decode cX12_inside 2 = .ok (.istore 5, 2) := dr9 dk9_dX12_inside_0_0.1 1 (2, .istore 5, 2) rfl
theorem dX12_inside_4 : decode cX12_inside 4 = .ok (.aload_n 0, 1) := dr9 dk9_dX12_inside_0_0.1 2 (4, .aload_n 0, 1) rfl
theorem dX12_inside_5 : decode cX12_inside 5 = .ok (.iload_n 1, 1) := dr9 dk9_dX12_inside_0_0.1 3 (5, .iload_n 1, 1) rfl
theorem dX12_inside_6 : decode cX12_inside 6 = .ok (.iload_n 2, 1) := dr9 dk9_dX12_inside_0_0.1 4 (6, .iload_n 2, 1) rfl
theorem dX12_inside_7 : decode cX12_inside 7 = .ok (.iconst 0, 1) := dr9 dk9_dX12_inside_0_0.1 5 (7, .iconst 0, 1) rfl
theorem dX12_inside_8 : decode cX12_inside 8 = .ok (.invokevirtual 542, 3) := dr9 dk9_dX12_inside_0_0.1 6 (8, .invokevirtual 542, 3) rfl
theorem dX12_inside_11 : decode cX12_inside 11 = .ok (.istore 6, 2) := dr9 dk9_dX12_inside_0_0.1 7 (11, .istore 6, 2) rfl
theorem dX12_inside_13 : decode cX12_inside 13 = .ok (.iconst 0, 1) := dr9 dk9_dX12_inside_0_0.1 8 (13, .iconst 0, 1) rfl
theorem dX12_inside_14 : decode cX12_inside 14 = .ok (.istore 7, 2) := dr9 dk9_dX12_inside_0_0.1 9 (14, .istore 7, 2) rfl
theorem dX12_inside_16 : decode cX12_inside 16 = .ok (.iload 7, 2) := dr9 dk9_dX12_inside_0_0.1 10 (16, .iload 7, 2) rfl
theorem dX12_inside_18 : decode cX12_inside 18 = .ok (.iload 6, 2) := dr9 dk9_dX12_inside_0_0.1 11 (18, .iload 6, 2) rfl
theorem dX12_inside_20 : decode cX12_inside 20 = .ok (.if_icmp .ge 69, 3) := dr9 dk9_dX12_inside_0_0.1 12 (20, .if_icmp .ge 69, 3) rfl
theorem dX12_inside_89 : decode cX12_inside 89 = .ok (.aload_n 0, 1) := dr9 dk9_dX12_inside_0_0.1 13 (89, .aload_n 0, 1) rfl
theorem dX12_inside_90 : decode cX12_inside 90 = .ok (.getfield 107, 3) := dr9 dk9_dX12_inside_0_0.1 14 (90, .getfield 107, 3) rfl
theorem dX12_inside_93 : decode cX12_inside 93 = .ok (.bipush 20, 2) := dr9 dk9_dX12_inside_0_0.1 15 (93, .bipush 20, 2) rfl
theorem dX12_inside_95 : decode cX12_inside 95 = .ok (.bipush 24, 2) := dr9 dk9_dX12_inside_0_0.1 16 (95, .bipush 24, 2) rfl
theorem dX12_inside_97 : decode cX12_inside 97 = .ok (.aload_n 0, 1) := dr9 dk9_dX12_inside_0_0.1 17 (97, .aload_n 0, 1) rfl
theorem dX12_inside_98 : decode cX12_inside 98 = .ok (.getfield 286, 3) := dr9 dk9_dX12_inside_0_0.1 18 (98, .getfield 286, 3) rfl
theorem dX12_inside_101 : decode cX12_inside 101 = .ok (.imul, 1) := dr9 dk9_dX12_inside_0_0.1 19 (101, .imul, 1) rfl
theorem dX12_inside_102 : decode cX12_inside 102 = .ok (.aload_n 0, 1) := dr9 dk9_dX12_inside_0_0.1 20 (102, .aload_n 0, 1) rfl
theorem dX12_inside_103 : decode cX12_inside 103 = .ok (.getfield 164, 3) := dr9 dk9_dX12_inside_0_0.1 21 (103, .getfield 164, 3) rfl
theorem dX12_inside_106 : decode cX12_inside 106 = .ok (.iload_n 1, 1) := dr9 dk9_dX12_inside_0_0.1 22 (106, .iload_n 1, 1) rfl
theorem dX12_inside_107 : decode cX12_inside 107 = .ok (.iaload, 1) := dr9 dk9_dX12_inside_0_0.1 23 (107, .iaload, 1) rfl
theorem dX12_inside_108 : decode cX12_inside 108 = .ok (.iadd, 1) := dr9 dk9_dX12_inside_0_0.2.1 0 (108, .iadd, 1) rfl
theorem dX12_inside_109 : decode cX12_inside 109 = .ok (.imul, 1) := dr9 dk9_dX12_inside_0_0.2.1 1 (109, .imul, 1) rfl
theorem dX12_inside_110 : decode cX12_inside 110 = .ok (.iload_n 2, 1) := dr9 dk9_dX12_inside_0_0.2.1 2 (110, .iload_n 2, 1) rfl
theorem dX12_inside_111 : decode cX12_inside 111 = .ok (.iadd, 1) := dr9 dk9_dX12_inside_0_0.2.1 3 (111, .iadd, 1) rfl
theorem dX12_inside_112 : decode cX12_inside 112 = .ok (.iaload, 1) := dr9 dk9_dX12_inside_0_0.2.1 4 (112, .iaload, 1) rfl
theorem dX12_inside_113 : decode cX12_inside 113 = .ok (.istore 7, 2) := dr9 dk9_dX12_inside_0_0.2.1 5 (113, .istore 7, 2) rfl
theorem dX12_inside_115 : decode cX12_inside 115 = .ok (.iload 7, 2) := dr9 dk9_dX12_inside_0_0.2.1 6 (115, .iload 7, 2) rfl
theorem dX12_inside_117 : decode cX12_inside 117 = .ok (.ifCond .ge 10, 3) := dr9 dk9_dX12_inside_0_0.2.1 7 (117, .ifCond .ge 10, 3) rfl
theorem dX12_inside_127 : decode cX12_inside 127 = .ok (.aload_n 0, 1) := dr9 dk9_dX12_inside_0_0.2.1 8 (127, .aload_n 0, 1) rfl
theorem dX12_inside_128 : decode cX12_inside 128 = .ok (.iconst 4, 1) := dr9 dk9_dX12_inside_0_0.2.1 9 (128, .iconst 4, 1) rfl
theorem dX12_inside_129 : decode cX12_inside 129 = .ok (.iload_n 1, 1) := dr9 dk9_dX12_inside_0_0.2.1 10 (129, .iload_n 1, 1) rfl
theorem dX12_inside_130 : decode cX12_inside 130 = .ok (.iload 5, 2) := dr9 dk9_dX12_inside_0_0.2.1 11 (130, .iload 5, 2) rfl
theorem dX12_inside_132 : decode cX12_inside 132 = .ok (.invokevirtual 535, 3) := dr9 dk9_dX12_inside_0_0.2.1 12 (132, .invokevirtual 535, 3) rfl
theorem dX12_inside_135 : decode cX12_inside 135 = .ok (.aload_n 0, 1) := dr9 dk9_dX12_inside_0_0.2.1 13 (135, .aload_n 0, 1) rfl
theorem dX12_inside_136 : decode cX12_inside 136 = .ok (.iload 7, 2) := dr9 dk9_dX12_inside_0_0.2.1 14 (136, .iload 7, 2) rfl
theorem dX12_inside_138 : decode cX12_inside 138 = .ok (.iload_n 1, 1) := dr9 dk9_dX12_inside_0_0.2.1 15 (138, .iload_n 1, 1) rfl
theorem dX12_inside_139 : decode cX12_inside 139 = .ok (.iload_n 3, 1) := dr9 dk9_dX12_inside_0_0.2.1 16 (139, .iload_n 3, 1) rfl
theorem dX12_inside_140 : decode cX12_inside 140 = .ok (.iload 5, 2) := dr9 dk9_dX12_inside_0_0.2.1 17 (140, .iload 5, 2) rfl
theorem dX12_inside_142 : decode cX12_inside 142 = .ok (.iconst (-1), 1) := dr9 dk9_dX12_inside_0_0.2.1 18 (142, .iconst (-1), 1) rfl
theorem dX12_inside_143 : decode cX12_inside 143 = .ok (.invokevirtual 503, 3) := dr9 dk9_dX12_inside_0_0.2.1 19 (143, .invokevirtual 503, 3) rfl
theorem dX12_inside_146 : decode cX12_inside 146 = .ok (.istore 8, 2) := dr9 dk9_dX12_inside_0_0.2.1 20 (146, .istore 8, 2) rfl
theorem dX12_inside_148 : decode cX12_inside 148 = .ok (.aload_n 0, 1) := dr9 dk9_dX12_inside_0_0.2.1 21 (148, .aload_n 0, 1) rfl
theorem dX12_inside_149 : decode cX12_inside 149 = .ok (.iload_n 1, 1) := dr9 dk9_dX12_inside_0_0.2.1 22 (149, .iload_n 1, 1) rfl
theorem dX12_inside_150 : decode cX12_inside 150 = .ok (.iload_n 2, 1) := dr9 dk9_dX12_inside_0_0.2.1 23 (150, .iload_n 2, 1) rfl
theorem dX12_inside_151 : decode cX12_inside 151 = .ok (.iconst 2, 1) := dr9 dk9_dX12_inside_0_0.2.2.1 0 (151, .iconst 2, 1) rfl
theorem dX12_inside_152 : decode cX12_inside 152 = .ok (.invokevirtual 542, 3) := dr9 dk9_dX12_inside_0_0.2.2.1 1 (152, .invokevirtual 542, 3) rfl
theorem dX12_inside_155 : decode cX12_inside 155 = .ok (.istore 6, 2) := dr9 dk9_dX12_inside_0_0.2.2.1 2 (155, .istore 6, 2) rfl
theorem dX12_inside_157 : decode cX12_inside 157 = .ok (.iload 6, 2) := dr9 dk9_dX12_inside_0_0.2.2.1 3 (157, .iload 6, 2) rfl
theorem dX12_inside_159 : decode cX12_inside 159 = .ok (.iconst 1, 1) := dr9 dk9_dX12_inside_0_0.2.2.1 4 (159, .iconst 1, 1) rfl
theorem dX12_inside_160 : decode cX12_inside 160 = .ok (.isub, 1) := dr9 dk9_dX12_inside_0_0.2.2.1 5 (160, .isub, 1) rfl
theorem dX12_inside_161 : decode cX12_inside 161 = .ok (.istore 9, 2) := dr9 dk9_dX12_inside_0_0.2.2.1 6 (161, .istore 9, 2) rfl
theorem dX12_inside_163 : decode cX12_inside 163 = .ok (.iload 9, 2) := dr9 dk9_dX12_inside_0_0.2.2.1 7 (163, .iload 9, 2) rfl
theorem dX12_inside_165 : decode cX12_inside 165 = .ok (.ifCond .lt 66, 3) := dr9 dk9_dX12_inside_0_0.2.2.1 8 (165, .ifCond .lt 66, 3) rfl
theorem dX12_inside_231 : decode cX12_inside 231 = .ok (.iload 8, 2) := dr9 dk9_dX12_inside_0_0.2.2.1 9 (231, .iload 8, 2) rfl
theorem dX12_inside_233 : decode cX12_inside 233 = .ok (.ireturn, 1) := dr9 dk9_dX12_inside_0_0.2.2.1 10 (233, .ireturn, 1) rfl
theorem dX12_inside_168 : decode cX12_inside 168 = .ok (.iload 8, 2) := dr9 dk9_dX12_inside_0_0.2.2.1 11 (168, .iload 8, 2) rfl
theorem dX12_inside_170 : decode cX12_inside 170 = .ok (.ifCond .ne 61, 3) := dr9 dk9_dX12_inside_0_0.2.2.1 12 (170, .ifCond .ne 61, 3) rfl
theorem dX12_inside_173 : decode cX12_inside 173 = .ok (.aload_n 0, 1) := dr9 dk9_dX12_inside_0_0.2.2.1 13 (173, .aload_n 0, 1) rfl
theorem dX12_inside_174 : decode cX12_inside 174 = .ok (.iload 9, 2) := dr9 dk9_dX12_inside_0_0.2.2.1 14 (174, .iload 9, 2) rfl
theorem dX12_inside_176 : decode cX12_inside 176 = .ok (.iload_n 1, 1) := dr9 dk9_dX12_inside_0_0.2.2.1 15 (176, .iload_n 1, 1) rfl
theorem dX12_inside_177 : decode cX12_inside 177 = .ok (.iload_n 2, 1) := dr9 dk9_dX12_inside_0_0.2.2.1 16 (177, .iload_n 2, 1) rfl
theorem dX12_inside_178 : decode cX12_inside 178 = .ok (.iconst 2, 1) := dr9 dk9_dX12_inside_0_0.2.2.1 17 (178, .iconst 2, 1) rfl
theorem dX12_inside_179 : decode cX12_inside 179 = .ok (.invokevirtual 529, 3) := dr9 dk9_dX12_inside_0_0.2.2.1 18 (179, .invokevirtual 529, 3) rfl
theorem dX12_inside_182 : decode cX12_inside 182 = .ok (.istore 10, 2) := dr9 dk9_dX12_inside_0_0.2.2.1 19 (182, .istore 10, 2) rfl
theorem dX12_inside_184 : decode cX12_inside 184 = .ok (.aload_n 0, 1) := dr9 dk9_dX12_inside_0_0.2.2.1 20 (184, .aload_n 0, 1) rfl
theorem dX12_inside_185 : decode cX12_inside 185 = .ok (.getfield 545, 3) := dr9 dk9_dX12_inside_0_0.2.2.1 21 (185, .getfield 545, 3) rfl
theorem dX12_inside_188 : decode cX12_inside 188 = .ok (.istore 5, 2) := dr9 dk9_dX12_inside_0_0.2.2.1 22 (188, .istore 5, 2) rfl
theorem dX12_inside_190 : decode cX12_inside 190 = .ok (.aload_n 0, 1) := dr9 dk9_dX12_inside_0_0.2.2.1 23 (190, .aload_n 0, 1) rfl
theorem dX12_inside_191 : decode cX12_inside 191 = .ok (.iconst 2, 1) := dr9 dk9_dX12_inside_0_0.2.2.2.1 0 (191, .iconst 2, 1) rfl
theorem dX12_inside_192 : decode cX12_inside 192 = .ok (.iload 10, 2) := dr9 dk9_dX12_inside_0_0.2.2.2.1 1 (192, .iload 10, 2) rfl
theorem dX12_inside_194 : decode cX12_inside 194 = .ok (.iload 5, 2) := dr9 dk9_dX12_inside_0_0.2.2.2.1 2 (194, .iload 5, 2) rfl
theorem dX12_inside_196 : decode cX12_inside 196 = .ok (.invokevirtual 535, 3) := dr9 dk9_dX12_inside_0_0.2.2.2.1 3 (196, .invokevirtual 535, 3) rfl
theorem dX12_inside_199 : decode cX12_inside 199 = .ok (.aload_n 0, 1) := dr9 dk9_dX12_inside_0_0.2.2.2.1 4 (199, .aload_n 0, 1) rfl
theorem dX12_inside_200 : decode cX12_inside 200 = .ok (.aload_n 0, 1) := dr9 dk9_dX12_inside_0_0.2.2.2.1 5 (200, .aload_n 0, 1) rfl
theorem dX12_inside_201 : decode cX12_inside 201 = .ok (.getfield 137, 3) := dr9 dk9_dX12_inside_0_0.2.2.2.1 6 (201, .getfield 137, 3) rfl
theorem dX12_inside_204 : decode cX12_inside 204 = .ok (.bipush 12, 2) := dr9 dk9_dX12_inside_0_0.2.2.2.1 7 (204, .bipush 12, 2) rfl
theorem dX12_inside_206 : decode cX12_inside 206 = .ok (.aload_n 0, 1) := dr9 dk9_dX12_inside_0_0.2.2.2.1 8 (206, .aload_n 0, 1) rfl
theorem dX12_inside_207 : decode cX12_inside 207 = .ok (.getfield 286, 3) := dr9 dk9_dX12_inside_0_0.2.2.2.1 9 (207, .getfield 286, 3) rfl
theorem dX12_inside_210 : decode cX12_inside 210 = .ok (.imul, 1) := dr9 dk9_dX12_inside_0_0.2.2.2.1 10 (210, .imul, 1) rfl
theorem dX12_inside_211 : decode cX12_inside 211 = .ok (.iload 10, 2) := dr9 dk9_dX12_inside_0_0.2.2.2.1 11 (211, .iload 10, 2) rfl
theorem dX12_inside_213 : decode cX12_inside 213 = .ok (.iadd, 1) := dr9 dk9_dX12_inside_0_0.2.2.2.1 12 (213, .iadd, 1) rfl
theorem dX12_inside_214 : decode cX12_inside 214 = .ok (.iaload, 1) := dr9 dk9_dX12_inside_0_0.2.2.2.1 13 (214, .iaload, 1) rfl
theorem dX12_inside_215 : decode cX12_inside 215 = .ok (.iload_n 1, 1) := dr9 dk9_dX12_inside_0_0.2.2.2.1 14 (215, .iload_n 1, 1) rfl
theorem dX12_inside_216 : decode cX12_inside 216 = .ok (.iload_n 3, 1) := dr9 dk9_dX12_inside_0_0.2.2.2.1 15 (216, .iload_n 3, 1) rfl
theorem dX12_inside_217 : decode cX12_inside 217 = .ok (.iload 5, 2) := dr9 dk9_dX12_inside_0_0.2.2.2.1 16 (217, .iload 5, 2) rfl
theorem dX12_inside_219 : decode cX12_inside 219 = .ok (.iconst (-1), 1) := dr9 dk9_dX12_inside_0_0.2.2.2.1 17 (219, .iconst (-1), 1) rfl
theorem dX12_inside_220 : decode cX12_inside 220 = .ok (.invokevirtual 503, 3) := dr9 dk9_dX12_inside_0_0.2.2.2.1 18 (220, .invokevirtual 503, 3) rfl
theorem dX12_inside_223 : decode cX12_inside 223 = .ok (.istore 8, 2) := dr9 dk9_dX12_inside_0_0.2.2.2.1 19 (223, .istore 8, 2) rfl
theorem dX12_inside_225 : decode cX12_inside 225 = .ok (.iinc 9 (-1), 3) := dr9 dk9_dX12_inside_0_0.2.2.2.1 20 (225, .iinc 9 (-1), 3) rfl
theorem dX12_inside_228 : decode cX12_inside 228 = .ok (.goto (-65), 3) := dr9 dk9_dX12_inside_0_0.2.2.2.1 21 (228, .goto (-65), 3) rfl
theorem dX12_inside_120 : decode cX12_inside 120 = .ok (.aload_n 0, 1) := dr9 dk9_dX12_inside_0_0.2.2.2.1 22 (120, .aload_n 0, 1) rfl
theorem dX12_inside_121 : decode cX12_inside 121 = .ok (.bipush 11, 2) := dr9 dk9_dX12_inside_0_0.2.2.2.1 23 (121, .bipush 11, 2) rfl
theorem dX12_inside_123 : decode cX12_inside 123 = .ok (.invokevirtual 484, 3) := dr9 dk9_dX12_inside_0_0.2.2.2.2.1 0 (123, .invokevirtual 484, 3) rfl
theorem dX12_inside_126 : decode cX12_inside 126 = .ok (.ireturn, 1) := dr9 dk9_dX12_inside_0_0.2.2.2.2.1 1 (126, .ireturn, 1) rfl
theorem dX12_inside_23 : decode cX12_inside 23 = .ok (.aload_n 0, 1) := dr9 dk9_dX12_inside_0_0.2.2.2.2.1 2 (23, .aload_n 0, 1) rfl
theorem dX12_inside_24 : decode cX12_inside 24 = .ok (.iload 7, 2) := dr9 dk9_dX12_inside_0_0.2.2.2.2.1 3 (24, .iload 7, 2) rfl
theorem dX12_inside_26 : decode cX12_inside 26 = .ok (.iload_n 1, 1) := dr9 dk9_dX12_inside_0_0.2.2.2.2.1 4 (26, .iload_n 1, 1) rfl
theorem dX12_inside_27 : decode cX12_inside 27 = .ok (.iload_n 2, 1) := dr9 dk9_dX12_inside_0_0.2.2.2.2.1 5 (27, .iload_n 2, 1) rfl
theorem dX12_inside_28 : decode cX12_inside 28 = .ok (.iconst 0, 1) := dr9 dk9_dX12_inside_0_0.2.2.2.2.1 6 (28, .iconst 0, 1) rfl
theorem dX12_inside_29 : decode cX12_inside 29 = .ok (.invokevirtual 529, 3) := dr9 dk9_dX12_inside_0_0.2.2.2.2.1 7 (29, .invokevirtual 529, 3) rfl
theorem dX12_inside_32 : decode cX12_inside 32 = .ok (.istore 8, 2) := dr9 dk9_dX12_inside_0_0.2.2.2.2.1 8 (32, .istore 8, 2) rfl
theorem dX12_inside_34 : decode cX12_inside 34 = .ok (.aload_n 0, 1) := dr9 dk9_dX12_inside_0_0.2.2.2.2.1 9 (34, .aload_n 0, 1) rfl
theorem dX12_inside_35 : decode cX12_inside 35 = .ok (.iconst 0, 1) := dr9 dk9_dX12_inside_0_0.2.2.2.2.1 10 (35, .iconst 0, 1) rfl
theorem dX12_inside_36 : decode cX12_inside 36 = .ok (.iload 8, 2) := dr9 dk9_dX12_inside_0_0.2.2.2.2.1 11 (36, .iload 8, 2) rfl
theorem dX12_inside_38 : decode cX12_inside 38 = .ok (.iload 5, 2) := dr9 dk9_dX12_inside_0_0.2.2.2.2.1 12 (38, .iload 5, 2) rfl
theorem dX12_inside_40 : decode cX12_inside 40 = .ok (.invokevirtual 535, 3) := dr9 dk9_dX12_inside_0_0.2.2.2.2.1 13 (40, .invokevirtual 535, 3) rfl
theorem dX12_inside_43 : decode cX12_inside 43 = .ok (.aload_n 0, 1) := dr9 dk9_dX12_inside_0_0.2.2.2.2.1 14 (43, .aload_n 0, 1) rfl
theorem dX12_inside_44 : decode cX12_inside 44 = .ok (.aload_n 0, 1) := dr9 dk9_dX12_inside_0_0.2.2.2.2.1 15 (44, .aload_n 0, 1) rfl
theorem dX12_inside_45 : decode cX12_inside 45 = .ok (.getfield 137, 3) := dr9 dk9_dX12_inside_0_0.2.2.2.2.1 16 (45, .getfield 137, 3) rfl
theorem dX12_inside_48 : decode cX12_inside 48 = .ok (.bipush 12, 2) := dr9 dk9_dX12_inside_0_0.2.2.2.2.1 17 (48, .bipush 12, 2) rfl
theorem dX12_inside_50 : decode cX12_inside 50 = .ok (.aload_n 0, 1) := dr9 dk9_dX12_inside_0_0.2.2.2.2.1 18 (50, .aload_n 0, 1) rfl
theorem dX12_inside_51 : decode cX12_inside 51 = .ok (.getfield 286, 3) := dr9 dk9_dX12_inside_0_0.2.2.2.2.1 19 (51, .getfield 286, 3) rfl
theorem dX12_inside_54 : decode cX12_inside 54 = .ok (.imul, 1) := dr9 dk9_dX12_inside_0_0.2.2.2.2.1 20 (54, .imul, 1) rfl
theorem dX12_inside_55 : decode cX12_inside 55 = .ok (.iload 8, 2) := dr9 dk9_dX12_inside_0_0.2.2.2.2.1 21 (55, .iload 8, 2) rfl
theorem dX12_inside_57 : decode cX12_inside 57 = .ok (.iadd, 1) := dr9 dk9_dX12_inside_0_0.2.2.2.2.1 22 (57, .iadd, 1) rfl
theorem dX12_inside_58 : decode cX12_inside 58 = .ok (.iaload, 1) := dr9 dk9_dX12_inside_0_0.2.2.2.2.1 23 (58, .iaload, 1) rfl
theorem dX12_inside_59 : decode cX12_inside 59 = .ok (.iload_n 1, 1) := dr9 dk9_dX12_inside_0_0.2.2.2.2.2 0 (59, .iload_n 1, 1) rfl
theorem dX12_inside_60 : decode cX12_inside 60 = .ok (.iload_n 3, 1) := dr9 dk9_dX12_inside_0_0.2.2.2.2.2 1 (60, .iload_n 3, 1) rfl
theorem dX12_inside_61 : decode cX12_inside 61 = .ok (.iload 5, 2) := dr9 dk9_dX12_inside_0_0.2.2.2.2.2 2 (61, .iload 5, 2) rfl
theorem dX12_inside_63 : decode cX12_inside 63 = .ok (.iconst (-1), 1) := dr9 dk9_dX12_inside_0_0.2.2.2.2.2 3 (63, .iconst (-1), 1) rfl
theorem dX12_inside_64 : decode cX12_inside 64 = .ok (.invokevirtual 503, 3) := dr9 dk9_dX12_inside_0_0.2.2.2.2.2 4 (64, .invokevirtual 503, 3) rfl
theorem dX12_inside_67 : decode cX12_inside 67 = .ok (.istore 9, 2) := dr9 dk9_dX12_inside_0_0.2.2.2.2.2 5 (67, .istore 9, 2) rfl
theorem dX12_inside_69 : decode cX12_inside 69 = .ok (.iload 9, 2) := dr9 dk9_dX12_inside_0_0.2.2.2.2.2 6 (69, .iload 9, 2) rfl
theorem dX12_inside_71 : decode cX12_inside 71 = .ok (.ifCond .le 6, 3) := dr9 dk9_dX12_inside_0_0.2.2.2.2.2 7 (71, .ifCond .le 6, 3) rfl
theorem dX12_inside_77 : decode cX12_inside 77 = .ok (.aload_n 0, 1) := dr9 dk9_dX12_inside_0_0.2.2.2.2.2 8 (77, .aload_n 0, 1) rfl
theorem dX12_inside_78 : decode cX12_inside 78 = .ok (.getfield 545, 3) := dr9 dk9_dX12_inside_0_0.2.2.2.2.2 9 (78, .getfield 545, 3) rfl
theorem dX12_inside_81 : decode cX12_inside 81 = .ok (.istore 5, 2) := dr9 dk9_dX12_inside_0_0.2.2.2.2.2 10 (81, .istore 5, 2) rfl
theorem dX12_inside_83 : decode cX12_inside 83 = .ok (.iinc 7 1, 3) := dr9 dk9_dX12_inside_0_0.2.2.2.2.2 11 (83, .iinc 7 1, 3) rfl
theorem dX12_inside_86 : decode cX12_inside 86 = .ok (.goto (-70), 3) := dr9 dk9_dX12_inside_0_0.2.2.2.2.2 12 (86, .goto (-70), 3) rfl
theorem dX12_inside_74 : decode cX12_inside 74 = .ok (.iload 9, 2) := dr9 dk9_dX12_inside_0_0.2.2.2.2.2 13 (74, .iload 9, 2) rfl
theorem dX12_inside_76 : decode cX12_inside 76 = .ok (.ireturn, 1) := dr9 dk9_dX12_inside_0_0.2.2.2.2.2 14 (76, .ireturn, 1) rfl
end
section
/-! making: the new object's own places -/
theorem FRM.state0 {V W X : Vf} {k : Nat} {v : Int32} {x : Int} (h : FRM V W x) (e : X = up2 W 63 k v) (h0 : (V 0 60).toInt ≤ (k : Int)) : FRM V X x := by
  have a : agr [] [63] W X := agr.up agr.rf e rfl
  refine ⟨by rw [a 0 60 rfl]; exact h.1, fun o ho => ?_, fun o k' ho he hk hl => (a 66 _ rfl).trans (h.2.2.1 o k' ho he hk hl), fun i hi => (a 94 _ rfl).trans (h.2.2.2 i hi)⟩
  have b := h.2.1 o ho
  have e63 : X 63 o = W 63 o := up2_k e (by omega)
  refine ⟨(a 61 _ rfl).trans b.1, (a 62 _ rfl).trans b.2.1, ?_, ?_⟩
  · rw [e63]
    exact b.2.2.1
  · rw [e63]
    exact b.2.2.2
theorem FRM.trn {fs : List (Nat × Nat)} {cs : List Nat} {V W X : Vf} {x : Int} (h1 : FRM V W (-1)) (h2 : FRM W X x) (a : agr fs cs V W) (q : thC fs cs) (hf : (V 0 95).toInt ≤ (W 0 95).toInt) (hx : (V 0 60).toInt ≤ x) : FRM V X (-1) := by
  have h3 : FRM V X x := FRM.tr h1.weak h2 a q hf
  exact ⟨h3.1, h3.2.1, fun o k ho _ hk hl => h3.2.2.1 o k ho (by omega) hk hl, h3.2.2.2⟩
theorem FRM.more {V W V1 X : Vf} {k : Nat} {o v : Int32} {x : Int} (h : FRM V W x) (e1 : V1 = up2 W 94 k o) (e2 : X = up2 V1 0 95 v) (hk : (V 0 95).toInt ≤ (k : Int)) : FRM V X x := by
  have a : agr [(0, 95)] [94] W X := agr.up (agr.up agr.rf e1 rfl) e2 rfl
  refine ⟨by rw [a 0 60 rfl]; exact h.1, fun o ho => ?_, fun o k' ho he hk hl => (a 66 _ rfl).trans (h.2.2.1 o k' ho he hk hl), fun i hi => ?_⟩
  · have b := h.2.1 o ho
    have e63 : X 63 o = W 63 o := a 63 _ rfl
    refine ⟨(a 61 _ rfl).trans b.1, (a 62 _ rfl).trans b.2.1, ?_, ?_⟩
    · rw [e63]
      exact b.2.2.1
    · rw [e63]
      exact b.2.2.2
  · exact ((up2_o e2 (by decide)).trans (up2_k e1 (by omega))).trans (h.2.2.2 i hi)
/-- the joins of an object whose joins are being laid: none from need l on (of those that are not late) -/
def JZ (V W : Vf) (c o : Nat) (l : Int) : Prop := ∀ k : Nat, k < 8 → l ≤ (k : Int) → (V 29 (8 * (24 * nwh V + c) + k)).toInt ≠ 1 → (W 66 (8 * o + k)).toInt = 0
def JL (V W : Vf) (c o k : Nat) (m : Int) : Prop := (V 29 (8 * (24 * nwh V + c) + k)).toInt ≠ 1 → (W 66 (8 * o + k)).toInt ≤ m
theorem FRM.nl {fs : List (Nat × Nat)} {cs : List Nat} {V W X : Vf} {c o : Nat} (h : FRM W X (-1)) (a : agr fs cs V W) (q : thC fs cs) (ho : (o : Int) < (W 0 60).toInt) (e : Int32.toNatClampNeg (W 61 o) = c) : ∀ k, k < 8 → (V 29 (8 * (24 * nwh V + c) + k)).toInt ≠ 1 → X 66 (8 * o + k) = W 66 (8 * o + k) := by
  intro k hk hl
  have en : nwh W = nwh V := by unfold nwh; rw [a 0 11 q.1]
  exact h.2.2.1 o k ho (by omega) hk (by rw [en, e, a _ _ (q.2.2.2.2.2.2 _)]; exact hl)
theorem JZ.keep {V W X : Vf} {c o : Nat} {l l' : Int} (h : JZ V W c o l) (hl : l ≤ l') (e : ∀ k, k < 8 → (V 29 (8 * (24 * nwh V + c) + k)).toInt ≠ 1 → X 66 (8 * o + k) = W 66 (8 * o + k)) : JZ V X c o l' := fun k hk h1 h2 => by rw [e k hk h2]; exact h k hk (by omega) h2
theorem JL.keep {V W X : Vf} {c o k : Nat} {m m' : Int} (h : JL V W c o k m) (hm : m ≤ m') (hk : k < 8) (e : ∀ k, k < 8 → (V 29 (8 * (24 * nwh V + c) + k)).toInt ≠ 1 → X 66 (8 * o + k) = W 66 (8 * o + k)) : JL V X c o k m' := fun h2 => by rw [e k hk h2]; have := h h2; omega
theorem JZ.jl {V W : Vf} {c o k : Nat} {m : Int} (h : JZ V W c o (k : Int)) (hk : k < 8) (hm : 0 ≤ m) : JL V W c o k m := fun h2 => by rw [h k hk (Int.le_refl _) h2]; exact hm
theorem JZ.up {V W W1 X : Vf} {c o k p r : Nat} {g v : Int32} {l : Int} (h : JZ V W c o l) (e1 : W1 = up2 W 67 p g) (e2 : X = up2 W1 66 r v) (hr : r = 8 * o + k) (hl : (k : Int) < l) : JZ V X c o l := fun j hj h1 h2 => by
  have e : X 66 (8 * o + j) = W 66 (8 * o + j) := (up2_k e2 (by omega)).trans (up2_o e1 (by decide))
  rw [e]
  exact h j hj h1 h2
theorem JL.up {V W1 X : Vf} {c o k r : Nat} {v : Int32} {m : Int} (e2 : X = up2 W1 66 r v) (hr : r = 8 * o + k) (hm : v.toInt ≤ m) : JL V X c o k m := fun _ => by
  rw [← hr, up2_s e2]
  exact hm

theorem w2267 : Cond.code yX12_joinsAll cX12_joinsAll 8 (some .int) ∈ GW := gw_k tk9_9 192 (rfl) rfl
theorem w2264 : Cond.methodLink RX12 500 yX12_joinsAll ∈ GW := gw_k tk9_9 189 (by decide +kernel) rfl
theorem w2266 : Cond.instanceMethod yX12_joinsAll ∈ GW := gw_k tk9_9 191 (by decide +kernel) rfl
theorem w135 : Cond.selects RX12 yX12_joinsAll yX12_joinsAll ∈ GW := gw_mem 135 (by decide +kernel) rfl
theorem hdV_yX12_joinsAll : yX12_joinsAll.cls = RX12 ∧ yX12_joinsAll.cls ≠ "java/lang/invoke/MethodHandle" ∧ yX12_joinsAll.cls ≠ "java/lang/invoke/VarHandle" ∧ (parseMethodDescriptor yX12_joinsAll.desc).map (fun d => d.parameters.length) = some 3 := by decide +kernel
theorem dk9_dX12_makes_0_0 : dOk cX12_makes [(0, .aload_n 0, 1), (1, .invokevirtual 497, 3), (4, .ifCond .ne 5, 3), (9, .aload_n 0, 1), (10, .getfield 411, 3), (13, .sipush 300, 3), (16, .if_icmp .ne 10, 3), (26, .aload_n 0, 1), (27, .getfield 411, 3), (30, .istore 4, 2), (32, .aload_n 0, 1), (33, .dup, 1), (34, .getfield 411, 3), (37, .iconst 1, 1), (38, .iadd, 1), (39, .putfield 411, 3), (42, .aload_n 0, 1), (43, .getfield 164, 3), (46, .iload 4, 2), (48, .iload_n 1, 1), (49, .iastore, 1), (50, .aload_n 0, 1), (51, .getfield 167, 3), (54, .iload 4, 2)] = true ∧ dOk cX12_makes [(56, .iload_n 2, 1), (57, .iastore, 1), (58, .aload_n 0, 1), (59, .getfield 170, 3), (62, .iload 4, 2), (64, .iconst 0, 1), (65, .iastore, 1), (66, .iconst 0, 1), (67, .istore 5, 2), (69, .iload 5, 2), (71, .bipush 8, 2), (73, .if_icmp .ge 23, 3), (96, .aload_n 0, 1), (97, .iload 4, 2), (99, .iload_n 1, 1), (100, .iload_n 2, 1), (101, .invokevirtual 500, 3), (104, .istore 5, 2), (106, .iload 5, 2), (108, .ifCond .ne 45, 3), (153, .iload 5, 2), (155, .ifCond .ne 61, 3), (216, .aload_n 0, 1), (217, .getfield 170, 3)] = true ∧ dOk cX12_makes [(220, .iload 4, 2), (222, .iconst 2, 1), (223, .iastore, 1), (224, .iload 5, 2), (226, .iconst 1, 1), (227, .if_icmp .ne 46, 3), (273, .iload 5, 2), (275, .ireturn, 1), (230, .iload_n 3, 1), (231, .ifCond .ne 42, 3), (234, .aload_n 0, 1), (235, .getfield 474, 3), (238, .bipush 12, 2), (240, .if_icmp .eq 33, 3), (243, .aload_n 0, 1), (244, .getfield 474, 3), (247, .bipush 13, 2), (249, .if_icmp .eq 24, 3), (252, .aload_n 0, 1), (253, .getfield 474, 3), (256, .bipush 16, 2), (258, .if_icmp .eq 15, 3), (261, .aload_n 0, 1), (262, .getfield 161, 3)] = true ∧ dOk cX12_makes [(265, .bipush 24, 2), (267, .iload_n 2, 1), (268, .imul, 1), (269, .iload_n 1, 1), (270, .iadd, 1), (271, .iconst 1, 1), (272, .bastore, 1), (111, .aload_n 0, 1), (112, .getfield 101, 3), (115, .bipush 24, 2), (117, .aload_n 0, 1), (118, .getfield 286, 3), (121, .imul, 1), (122, .iload_n 1, 1), (123, .iadd, 1), (124, .iaload, 1), (125, .ifCond .lt 28, 3), (158, .aload_n 0, 1), (159, .getfield 170, 3), (162, .iload 4, 2), (164, .iconst 1, 1), (165, .iastore, 1), (166, .aload_n 0, 1), (167, .getfield 173, 3)] = true ∧ dOk cX12_makes [(170, .iload 4, 2), (172, .aload_n 0, 1), (173, .getfield 414, 3), (176, .iastore, 1), (177, .aload_n 0, 1), (178, .dup, 1), (179, .getfield 414, 3), (182, .iconst 1, 1), (183, .iadd, 1), (184, .putfield 414, 3), (187, .aload_n 0, 1), (188, .getfield 222, 3), (191, .aload_n 0, 1), (192, .getfield 507, 3), (195, .iload 4, 2), (197, .iastore, 1), (198, .aload_n 0, 1), (199, .dup, 1), (200, .getfield 507, 3), (203, .iconst 1, 1), (204, .iadd, 1), (205, .putfield 507, 3), (208, .aload_n 0, 1), (209, .iload 4, 2)] = true ∧ dOk cX12_makes [(211, .putfield 490, 3), (214, .iconst 0, 1), (215, .ireturn, 1), (128, .aload_n 0, 1), (129, .aload_n 0, 1), (130, .getfield 101, 3), (133, .bipush 24, 2), (135, .aload_n 0, 1), (136, .getfield 286, 3), (139, .imul, 1), (140, .iload_n 1, 1), (141, .iadd, 1), (142, .iaload, 1), (143, .iload 4, 2), (145, .iload_n 2, 1), (146, .iconst 0, 1), (147, .iconst (-1), 1), (148, .invokevirtual 503, 3), (151, .istore 5, 2), (76, .aload_n 0, 1), (77, .getfield 176, 3), (80, .bipush 8, 2), (82, .iload 4, 2), (84, .imul, 1)] = true ∧ dOk cX12_makes [(85, .iload 5, 2), (87, .iadd, 1), (88, .iconst 0, 1), (89, .iastore, 1), (90, .iinc 5 1, 3), (93, .goto (-24), 3), (19, .aload_n 0, 1), (20, .bipush 16, 2), (22, .invokevirtual 484, 3), (25, .ireturn, 1), (7, .iconst 2, 1), (8, .ireturn, 1)] = true := by decide +kernel
theorem dX12_makes_0 : decode cX12_makes 0 = .ok (.aload_n 0, 1) := dr9 dk9_dX12_makes_0_0.1 0 (0, .aload_n 0, 1) rfl
theorem dX12_makes_1 : decode cX12_makes 1 = .ok (.invokevirtual 497, 3) := dr9 dk9_dX12_makes_0_0.1 1 (1, .invokevirtual 497, 3) rfl
theorem dX12_makes_4 : decode cX12_makes 4 = .ok (.ifCond .ne 5, 3) := dr9 dk9_dX12_makes_0_0.1 2 (4, .ifCond .ne 5, 3) rfl
theorem dX12_makes_9 : decode cX12_makes 9 = .ok (.aload_n 0, 1) := dr9 dk9_dX12_makes_0_0.1 3 (9, .aload_n 0, 1) rfl
theorem dX12_makes_10 : decode cX12_makes 10 = .ok (.getfield 411, 3) := dr9 dk9_dX12_makes_0_0.1 4 (10, .getfield 411, 3) rfl
theorem dX12_makes_13 : decode cX12_makes 13 = .ok (.sipush 300, 3) := dr9 dk9_dX12_makes_0_0.1 5 (13, .sipush 300, 3) rfl
theorem dX12_makes_16 : decode cX12_makes 16 = .ok (.if_icmp .ne 10, 3) := dr9 dk9_dX12_makes_0_0.1 6 (16, .if_icmp .ne 10, 3) rfl
theorem dX12_makes_26 : decode cX12_makes 26 = .ok (.aload_n 0, 1) := dr9 dk9_dX12_makes_0_0.1 7 (26, .aload_n 0, 1) rfl
theorem dX12_makes_27 : decode cX12_makes 27 = .ok (.getfield 411, 3) := dr9 dk9_dX12_makes_0_0.1 8 (27, .getfield 411, 3) rfl
theorem dX12_makes_30 : decode cX12_makes 30 = .ok (.istore 4, 2) := dr9 dk9_dX12_makes_0_0.1 9 (30, .istore 4, 2) rfl
theorem dX12_makes_32 : decode cX12_makes 32 = .ok (.aload_n 0, 1) := dr9 dk9_dX12_makes_0_0.1 10 (32, .aload_n 0, 1) rfl
theorem dX12_makes_33 : decode cX12_makes 33 = .ok (.dup, 1) := dr9 dk9_dX12_makes_0_0.1 11 (33, .dup, 1) rfl
theorem dX12_makes_34 : decode cX12_makes 34 = .ok (.getfield 411, 3) := dr9 dk9_dX12_makes_0_0.1 12 (34, .getfield 411, 3) rfl
theorem dX12_makes_37 : decode cX12_makes 37 = .ok (.iconst 1, 1) := dr9 dk9_dX12_makes_0_0.1 13 (37, .iconst 1, 1) rfl
theorem dX12_makes_38 : decode cX12_makes 38 = .ok (.iadd, 1) := dr9 dk9_dX12_makes_0_0.1 14 (38, .iadd, 1) rfl
theorem dX12_makes_39 : decode cX12_makes 39 = .ok (.putfield 411, 3) := dr9 dk9_dX12_makes_0_0.1 15 (39, .putfield 411, 3) rfl
theorem dX12_makes_42 : decode cX12_makes 42 = .ok (.aload_n 0, 1) := dr9 dk9_dX12_makes_0_0.1 16 (42, .aload_n 0, 1) rfl
theorem dX12_makes_43 : decode cX12_makes 43 = .ok (.getfield 164, 3) := dr9 dk9_dX12_makes_0_0.1 17 (43, .getfield 164, 3) rfl
theorem dX12_makes_46 : decode cX12_makes 46 = .ok (.iload 4, 2) := dr9 dk9_dX12_makes_0_0.1 18 (46, .iload 4, 2) rfl
theorem dX12_makes_48 : decode cX12_makes 48 = .ok (.iload_n 1, 1) := dr9 dk9_dX12_makes_0_0.1 19 (48, .iload_n 1, 1) rfl
theorem dX12_makes_49 : decode cX12_makes 49 = .ok (.iastore, 1) := dr9 dk9_dX12_makes_0_0.1 20 (49, .iastore, 1) rfl
theorem dX12_makes_50 : decode cX12_makes 50 = .ok (.aload_n 0, 1) := dr9 dk9_dX12_makes_0_0.1 21 (50, .aload_n 0, 1) rfl
theorem dX12_makes_51 : decode cX12_makes 51 = .ok (.getfield 167, 3) := dr9 dk9_dX12_makes_0_0.1 22 (51, .getfield 167, 3) rfl
theorem dX12_makes_54 : decode cX12_makes 54 = .ok (.iload 4, 2) := dr9 dk9_dX12_makes_0_0.1 23 (54, .iload 4, 2) rfl
theorem dX12_makes_56 : decode cX12_makes 56 = .ok (.iload_n 2, 1) := dr9 dk9_dX12_makes_0_0.2.1 0 (56, .iload_n 2, 1) rfl
theorem dX12_makes_57 : decode cX12_makes 57 = .ok (.iastore, 1) := dr9 dk9_dX12_makes_0_0.2.1 1 (57, .iastore, 1) rfl
theorem dX12_makes_58 : decode cX12_makes 58 = .ok (.aload_n 0, 1) := dr9 dk9_dX12_makes_0_0.2.1 2 (58, .aload_n 0, 1) rfl
theorem dX12_makes_59 : decode cX12_makes 59 = .ok (.getfield 170, 3) := dr9 dk9_dX12_makes_0_0.2.1 3 (59, .getfield 170, 3) rfl
theorem dX12_makes_62 : decode cX12_makes 62 = .ok (.iload 4, 2) := dr9 dk9_dX12_makes_0_0.2.1 4 (62, .iload 4, 2) rfl
theorem dX12_makes_64 : decode cX12_makes 64 = .ok (.iconst 0, 1) := dr9 dk9_dX12_makes_0_0.2.1 5 (64, .iconst 0, 1) rfl
theorem dX12_makes_65 : decode cX12_makes 65 = .ok (.iastore, 1) := dr9 dk9_dX12_makes_0_0.2.1 6 (65, .iastore, 1) rfl
theorem dX12_makes_66 : decode cX12_makes 66 = .ok (.iconst 0, 1) := dr9 dk9_dX12_makes_0_0.2.1 7 (66, .iconst 0, 1) rfl
theorem dX12_makes_67 : decode cX12_makes 67 = .ok (.istore 5, 2) := dr9 dk9_dX12_makes_0_0.2.1 8 (67, .istore 5, 2) rfl
theorem dX12_makes_69 : decode cX12_makes 69 = .ok (.iload 5, 2) := dr9 dk9_dX12_makes_0_0.2.1 9 (69, .iload 5, 2) rfl
theorem dX12_makes_71 : decode cX12_makes 71 = .ok (.bipush 8, 2) := dr9 dk9_dX12_makes_0_0.2.1 10 (71, .bipush 8, 2) rfl
theorem dX12_makes_73 : decode cX12_makes 73 = .ok (.if_icmp .ge 23, 3) := dr9 dk9_dX12_makes_0_0.2.1 11 (73, .if_icmp .ge 23, 3) rfl
theorem dX12_makes_96 : decode cX12_makes 96 = .ok (.aload_n 0, 1) := dr9 dk9_dX12_makes_0_0.2.1 12 (96, .aload_n 0, 1) rfl
theorem dX12_makes_97 : decode cX12_makes 97 = .ok (.iload 4, 2) := dr9 dk9_dX12_makes_0_0.2.1 13 (97, .iload 4, 2) rfl
theorem dX12_makes_99 : decode cX12_makes 99 = .ok (.iload_n 1, 1) := dr9 dk9_dX12_makes_0_0.2.1 14 (99, .iload_n 1, 1) rfl
theorem dX12_makes_100 : decode cX12_makes 100 = .ok (.iload_n 2, 1) := dr9 dk9_dX12_makes_0_0.2.1 15 (100, .iload_n 2, 1) rfl
theorem dX12_makes_101 : decode cX12_makes 101 = .ok (.invokevirtual 500, 3) := dr9 dk9_dX12_makes_0_0.2.1 16 (101, .invokevirtual 500, 3) rfl
theorem dX12_makes_104 : decode cX12_makes 104 = .ok (.istore 5, 2) := dr9 dk9_dX12_makes_0_0.2.1 17 (104, .istore 5, 2) rfl
theorem dX12_makes_106 : decode cX12_makes 106 = .ok (.iload 5, 2) := dr9 dk9_dX12_makes_0_0.2.1 18 (106, .iload 5, 2) rfl
theorem dX12_makes_108 : decode cX12_makes 108 = .ok (.ifCond .ne 45, 3) := dr9 dk9_dX12_makes_0_0.2.1 19 (108, .ifCond .ne 45, 3) rfl
theorem dX12_makes_153 : decode cX12_makes 153 = .ok (.iload 5, 2) := dr9 dk9_dX12_makes_0_0.2.1 20 (153, .iload 5, 2) rfl
theorem dX12_makes_155 : decode cX12_makes 155 = .ok (.ifCond .ne 61, 3) := dr9 dk9_dX12_makes_0_0.2.1 21 (155, .ifCond .ne 61, 3) rfl
theorem dX12_makes_216 : decode cX12_makes 216 = .ok (.aload_n 0, 1) := dr9 dk9_dX12_makes_0_0.2.1 22 (216, .aload_n 0, 1) rfl
theorem dX12_makes_217 : decode cX12_makes 217 = .ok (.getfield 170, 3) := dr9 dk9_dX12_makes_0_0.2.1 23 (217, .getfield 170, 3) rfl
theorem dX12_makes_220 : decode cX12_makes 220 = .ok (.iload 4, 2) := dr9 dk9_dX12_makes_0_0.2.2.1 0 (220, .iload 4, 2) rfl
theorem dX12_makes_222 : decode cX12_makes 222 = .ok (.iconst 2, 1) := dr9 dk9_dX12_makes_0_0.2.2.1 1 (222, .iconst 2, 1) rfl
theorem dX12_makes_223 : decode cX12_makes 223 = .ok (.iastore, 1) := dr9 dk9_dX12_makes_0_0.2.2.1 2 (223, .iastore, 1) rfl
theorem dX12_makes_224 : decode cX12_makes 224 = .ok (.iload 5, 2) := dr9 dk9_dX12_makes_0_0.2.2.1 3 (224, .iload 5, 2) rfl
theorem dX12_makes_226 : decode cX12_makes 226 = .ok (.iconst 1, 1) := dr9 dk9_dX12_makes_0_0.2.2.1 4 (226, .iconst 1, 1) rfl
theorem dX12_makes_227 : decode cX12_makes 227 = .ok (.if_icmp .ne 46, 3) := dr9 dk9_dX12_makes_0_0.2.2.1 5 (227, .if_icmp .ne 46, 3) rfl
theorem dX12_makes_273 : decode cX12_makes 273 = .ok (.iload 5, 2) := dr9 dk9_dX12_makes_0_0.2.2.1 6 (273, .iload 5, 2) rfl
theorem dX12_makes_275 : decode cX12_makes 275 = .ok (.ireturn, 1) := dr9 dk9_dX12_makes_0_0.2.2.1 7 (275, .ireturn, 1) rfl
theorem dX12_makes_230 : decode cX12_makes 230 = .ok (.iload_n 3, 1) := dr9 dk9_dX12_makes_0_0.2.2.1 8 (230, .iload_n 3, 1) rfl
theorem dX12_makes_231 : decode cX12_makes 231 = .ok (.ifCond .ne 42, 3) := dr9 dk9_dX12_makes_0_0.2.2.1 9 (231, .ifCond .ne 42, 3) rfl
theorem dX12_makes_234 : decode cX12_makes 234 = .ok (.aload_n 0, 1) := dr9 dk9_dX12_makes_0_0.2.2.1 10 (234, .aload_n 0, 1) rfl
theorem dX12_makes_235 : decode cX12_makes 235 = .ok (.getfield 474, 3) := dr9 dk9_dX12_makes_0_0.2.2.1 11 (235, .getfield 474, 3) rfl
theorem dX12_makes_238 : decode cX12_makes 238 = .ok (.bipush 12, 2) := dr9 dk9_dX12_makes_0_0.2.2.1 12 (238, .bipush 12, 2) rfl
theorem dX12_makes_240 : decode cX12_makes 240 = .ok (.if_icmp .eq 33, 3) := dr9 dk9_dX12_makes_0_0.2.2.1 13 (240, .if_icmp .eq 33, 3) rfl
theorem dX12_makes_243 : decode cX12_makes 243 = .ok (.aload_n 0, 1) := dr9 dk9_dX12_makes_0_0.2.2.1 14 (243, .aload_n 0, 1) rfl
theorem dX12_makes_244 : decode cX12_makes 244 = .ok (.getfield 474, 3) := dr9 dk9_dX12_makes_0_0.2.2.1 15 (244, .getfield 474, 3) rfl
theorem dX12_makes_247 : decode cX12_makes 247 = .ok (.bipush 13, 2) := dr9 dk9_dX12_makes_0_0.2.2.1 16 (247, .bipush 13, 2) rfl
theorem dX12_makes_249 : decode cX12_makes 249 = .ok (.if_icmp .eq 24, 3) := dr9 dk9_dX12_makes_0_0.2.2.1 17 (249, .if_icmp .eq 24, 3) rfl
theorem dX12_makes_252 : decode cX12_makes 252 = .ok (.aload_n 0, 1) := dr9 dk9_dX12_makes_0_0.2.2.1 18 (252, .aload_n 0, 1) rfl
theorem dX12_makes_253 : decode cX12_makes 253 = .ok (.getfield 474, 3) := dr9 dk9_dX12_makes_0_0.2.2.1 19 (253, .getfield 474, 3) rfl
theorem dX12_makes_256 : decode cX12_makes 256 = .ok (.bipush 16, 2) := dr9 dk9_dX12_makes_0_0.2.2.1 20 (256, .bipush 16, 2) rfl
theorem dX12_makes_258 : decode cX12_makes 258 = .ok (.if_icmp .eq 15, 3) := dr9 dk9_dX12_makes_0_0.2.2.1 21 (258, .if_icmp .eq 15, 3) rfl
theorem dX12_makes_261 : decode cX12_makes 261 = .ok (.aload_n 0, 1) := dr9 dk9_dX12_makes_0_0.2.2.1 22 (261, .aload_n 0, 1) rfl
theorem dX12_makes_262 : decode cX12_makes 262 = .ok (.getfield 161, 3) := dr9 dk9_dX12_makes_0_0.2.2.1 23 (262, .getfield 161, 3) rfl
theorem dX12_makes_265 : decode cX12_makes 265 = .ok (.bipush 24, 2) := dr9 dk9_dX12_makes_0_0.2.2.2.1 0 (265, .bipush 24, 2) rfl
theorem dX12_makes_267 : decode cX12_makes 267 = .ok (.iload_n 2, 1) := dr9 dk9_dX12_makes_0_0.2.2.2.1 1 (267, .iload_n 2, 1) rfl
theorem dX12_makes_268 : decode cX12_makes 268 = .ok (.imul, 1) := dr9 dk9_dX12_makes_0_0.2.2.2.1 2 (268, .imul, 1) rfl
theorem dX12_makes_269 : decode cX12_makes 269 = .ok (.iload_n 1, 1) := dr9 dk9_dX12_makes_0_0.2.2.2.1 3 (269, .iload_n 1, 1) rfl
theorem dX12_makes_270 : decode cX12_makes 270 = .ok (.iadd, 1) := dr9 dk9_dX12_makes_0_0.2.2.2.1 4 (270, .iadd, 1) rfl
theorem dX12_makes_271 : decode cX12_makes 271 = .ok (.iconst 1, 1) := dr9 dk9_dX12_makes_0_0.2.2.2.1 5 (271, .iconst 1, 1) rfl
theorem dX12_makes_272 : decode cX12_makes 272 = .ok (.bastore, 1) := dr9 dk9_dX12_makes_0_0.2.2.2.1 6 (272, .bastore, 1) rfl
theorem dX12_makes_111 : decode cX12_makes 111 = .ok (.aload_n 0, 1) := dr9 dk9_dX12_makes_0_0.2.2.2.1 7 (111, .aload_n 0, 1) rfl
theorem dX12_makes_112 : decode cX12_makes 112 = .ok (.getfield 101, 3) := dr9 dk9_dX12_makes_0_0.2.2.2.1 8 (112, .getfield 101, 3) rfl
theorem dX12_makes_115 : decode cX12_makes 115 = .ok (.bipush 24, 2) := dr9 dk9_dX12_makes_0_0.2.2.2.1 9 (115, .bipush 24, 2) rfl
theorem dX12_makes_117 : decode cX12_makes 117 = .ok (.aload_n 0, 1) := dr9 dk9_dX12_makes_0_0.2.2.2.1 10 (117, .aload_n 0, 1) rfl
theorem dX12_makes_118 : decode cX12_makes 118 = .ok (.getfield 286, 3) := dr9 dk9_dX12_makes_0_0.2.2.2.1 11 (118, .getfield 286, 3) rfl
theorem dX12_makes_121 : decode cX12_makes 121 = .ok (.imul, 1) := dr9 dk9_dX12_makes_0_0.2.2.2.1 12 (121, .imul, 1) rfl
theorem dX12_makes_122 : decode cX12_makes 122 = .ok (.iload_n 1, 1) := dr9 dk9_dX12_makes_0_0.2.2.2.1 13 (122, .iload_n 1, 1) rfl
theorem dX12_makes_123 : decode cX12_makes 123 = .ok (.iadd, 1) := dr9 dk9_dX12_makes_0_0.2.2.2.1 14 (123, .iadd, 1) rfl
theorem dX12_makes_124 : decode cX12_makes 124 = .ok (.iaload, 1) := dr9 dk9_dX12_makes_0_0.2.2.2.1 15 (124, .iaload, 1) rfl
theorem dX12_makes_125 : decode cX12_makes 125 = .ok (.ifCond .lt 28, 3) := dr9 dk9_dX12_makes_0_0.2.2.2.1 16 (125, .ifCond .lt 28, 3) rfl
theorem dX12_makes_158 : decode cX12_makes 158 = .ok (.aload_n 0, 1) := dr9 dk9_dX12_makes_0_0.2.2.2.1 17 (158, .aload_n 0, 1) rfl
theorem dX12_makes_159 : decode cX12_makes 159 = .ok (.getfield 170, 3) := dr9 dk9_dX12_makes_0_0.2.2.2.1 18 (159, .getfield 170, 3) rfl
theorem dX12_makes_162 : decode cX12_makes 162 = .ok (.iload 4, 2) := dr9 dk9_dX12_makes_0_0.2.2.2.1 19 (162, .iload 4, 2) rfl
theorem dX12_makes_164 : decode cX12_makes 164 = .ok (.iconst 1, 1) := dr9 dk9_dX12_makes_0_0.2.2.2.1 20 (164, .iconst 1, 1) rfl
theorem dX12_makes_165 : decode cX12_makes 165 = .ok (.iastore, 1) := dr9 dk9_dX12_makes_0_0.2.2.2.1 21 (165, .iastore, 1) rfl
theorem dX12_makes_166 : decode cX12_makes 166 = .ok (.aload_n 0, 1) := dr9 dk9_dX12_makes_0_0.2.2.2.1 22 (166, .aload_n 0, 1) rfl
theorem dX12_makes_167 : decode cX12_makes 167 = .ok (.getfield 173, 3) := dr9 dk9_dX12_makes_0_0.2.2.2.1 23 (167, .getfield 173, 3) rfl
theorem dX12_makes_170 : decode cX12_makes 170 = .ok (.iload 4, 2) := dr9 dk9_dX12_makes_0_0.2.2.2.2.1 0 (170, .iload 4, 2) rfl
theorem dX12_makes_172 : decode cX12_makes 172 = .ok (.aload_n 0, 1) := dr9 dk9_dX12_makes_0_0.2.2.2.2.1 1 (172, .aload_n 0, 1) rfl
theorem dX12_makes_173 : decode cX12_makes 173 = .ok (.getfield 414, 3) := dr9 dk9_dX12_makes_0_0.2.2.2.2.1 2 (173, .getfield 414, 3) rfl
theorem dX12_makes_176 : decode cX12_makes 176 = .ok (.iastore, 1) := dr9 dk9_dX12_makes_0_0.2.2.2.2.1 3 (176, .iastore, 1) rfl
theorem dX12_makes_177 : decode cX12_makes 177 = .ok (.aload_n 0, 1) := dr9 dk9_dX12_makes_0_0.2.2.2.2.1 4 (177, .aload_n 0, 1) rfl
theorem dX12_makes_178 : decode cX12_makes 178 = .ok (.dup, 1) := dr9 dk9_dX12_makes_0_0.2.2.2.2.1 5 (178, .dup, 1) rfl
theorem dX12_makes_179 : decode cX12_makes 179 = .ok (.getfield 414, 3) := dr9 dk9_dX12_makes_0_0.2.2.2.2.1 6 (179, .getfield 414, 3) rfl
theorem dX12_makes_182 : decode cX12_makes 182 = .ok (.iconst 1, 1) := dr9 dk9_dX12_makes_0_0.2.2.2.2.1 7 (182, .iconst 1, 1) rfl
theorem dX12_makes_183 : decode cX12_makes 183 = .ok (.iadd, 1) := dr9 dk9_dX12_makes_0_0.2.2.2.2.1 8 (183, .iadd, 1) rfl
theorem dX12_makes_184 : decode cX12_makes 184 = .ok (.putfield 414, 3) := dr9 dk9_dX12_makes_0_0.2.2.2.2.1 9 (184, .putfield 414, 3) rfl
theorem dX12_makes_187 : decode cX12_makes 187 = .ok (.aload_n 0, 1) := dr9 dk9_dX12_makes_0_0.2.2.2.2.1 10 (187, .aload_n 0, 1) rfl
theorem dX12_makes_188 : decode cX12_makes 188 = .ok (.getfield 222, 3) := dr9 dk9_dX12_makes_0_0.2.2.2.2.1 11 (188, .getfield 222, 3) rfl
theorem dX12_makes_191 : decode cX12_makes 191 = .ok (.aload_n 0, 1) := dr9 dk9_dX12_makes_0_0.2.2.2.2.1 12 (191, .aload_n 0, 1) rfl
theorem dX12_makes_192 : decode cX12_makes 192 = .ok (.getfield 507, 3) := dr9 dk9_dX12_makes_0_0.2.2.2.2.1 13 (192, .getfield 507, 3) rfl
theorem dX12_makes_195 : decode cX12_makes 195 = .ok (.iload 4, 2) := dr9 dk9_dX12_makes_0_0.2.2.2.2.1 14 (195, .iload 4, 2) rfl
theorem dX12_makes_197 : decode cX12_makes 197 = .ok (.iastore, 1) := dr9 dk9_dX12_makes_0_0.2.2.2.2.1 15 (197, .iastore, 1) rfl
theorem dX12_makes_198 : decode cX12_makes 198 = .ok (.aload_n 0, 1) := dr9 dk9_dX12_makes_0_0.2.2.2.2.1 16 (198, .aload_n 0, 1) rfl
theorem dX12_makes_199 : decode cX12_makes 199 = .ok (.dup, 1) := dr9 dk9_dX12_makes_0_0.2.2.2.2.1 17 (199, .dup, 1) rfl
theorem dX12_makes_200 : decode cX12_makes 200 = .ok (.getfield 507, 3) := dr9 dk9_dX12_makes_0_0.2.2.2.2.1 18 (200, .getfield 507, 3) rfl
theorem dX12_makes_203 : decode cX12_makes 203 = .ok (.iconst 1, 1) := dr9 dk9_dX12_makes_0_0.2.2.2.2.1 19 (203, .iconst 1, 1) rfl
theorem dX12_makes_204 : decode cX12_makes 204 = .ok (.iadd, 1) := dr9 dk9_dX12_makes_0_0.2.2.2.2.1 20 (204, .iadd, 1) rfl
theorem dX12_makes_205 : decode cX12_makes 205 = .ok (.putfield 507, 3) := dr9 dk9_dX12_makes_0_0.2.2.2.2.1 21 (205, .putfield 507, 3) rfl
theorem dX12_makes_208 : decode cX12_makes 208 = .ok (.aload_n 0, 1) := dr9 dk9_dX12_makes_0_0.2.2.2.2.1 22 (208, .aload_n 0, 1) rfl
theorem dX12_makes_209 : decode cX12_makes 209 = .ok (.iload 4, 2) := dr9 dk9_dX12_makes_0_0.2.2.2.2.1 23 (209, .iload 4, 2) rfl
theorem dX12_makes_211 : decode cX12_makes 211 = .ok (.putfield 490, 3) := dr9 dk9_dX12_makes_0_0.2.2.2.2.2.1 0 (211, .putfield 490, 3) rfl
theorem dX12_makes_214 : decode cX12_makes 214 = .ok (.iconst 0, 1) := dr9 dk9_dX12_makes_0_0.2.2.2.2.2.1 1 (214, .iconst 0, 1) rfl
theorem dX12_makes_215 : decode cX12_makes 215 = .ok (.ireturn, 1) := dr9 dk9_dX12_makes_0_0.2.2.2.2.2.1 2 (215, .ireturn, 1) rfl
theorem dX12_makes_128 : decode cX12_makes 128 = .ok (.aload_n 0, 1) := dr9 dk9_dX12_makes_0_0.2.2.2.2.2.1 3 (128, .aload_n 0, 1) rfl
theorem dX12_makes_129 : decode cX12_makes 129 = .ok (.aload_n 0, 1) := dr9 dk9_dX12_makes_0_0.2.2.2.2.2.1 4 (129, .aload_n 0, 1) rfl
theorem dX12_makes_130 : decode cX12_makes 130 = .ok (.getfield 101, 3) := dr9 dk9_dX12_makes_0_0.2.2.2.2.2.1 5 (130, .getfield 101, 3) rfl
theorem dX12_makes_133 : decode cX12_makes 133 = .ok (.bipush 24, 2) := dr9 dk9_dX12_makes_0_0.2.2.2.2.2.1 6 (133, .bipush 24, 2) rfl
theorem dX12_makes_135 : decode cX12_makes 135 = .ok (.aload_n 0, 1) := dr9 dk9_dX12_makes_0_0.2.2.2.2.2.1 7 (135, .aload_n 0, 1) rfl
theorem dX12_makes_136 : decode cX12_makes 136 = .ok (.getfield 286, 3) := dr9 dk9_dX12_makes_0_0.2.2.2.2.2.1 8 (136, .getfield 286, 3) rfl
theorem dX12_makes_139 : decode cX12_makes 139 = .ok (.imul, 1) := dr9 dk9_dX12_makes_0_0.2.2.2.2.2.1 9 (139, .imul, 1) rfl
theorem dX12_makes_140 : decode cX12_makes 140 = .ok (.iload_n 1, 1) := dr9 dk9_dX12_makes_0_0.2.2.2.2.2.1 10 (140, .iload_n 1, 1) rfl
theorem dX12_makes_141 : decode cX12_makes 141 = .ok (.iadd, 1) := dr9 dk9_dX12_makes_0_0.2.2.2.2.2.1 11 (141, .iadd, 1) rfl
theorem dX12_makes_142 : decode cX12_makes 142 = .ok (.iaload, 1) := dr9 dk9_dX12_makes_0_0.2.2.2.2.2.1 12 (142, .iaload, 1) rfl
theorem dX12_makes_143 : decode cX12_makes 143 = .ok (.iload 4, 2) := dr9 dk9_dX12_makes_0_0.2.2.2.2.2.1 13 (143, .iload 4, 2) rfl
theorem dX12_makes_145 : decode cX12_makes 145 = .ok (.iload_n 2, 1) := dr9 dk9_dX12_makes_0_0.2.2.2.2.2.1 14 (145, .iload_n 2, 1) rfl
theorem dX12_makes_146 : decode cX12_makes 146 = .ok (.iconst 0, 1) := dr9 dk9_dX12_makes_0_0.2.2.2.2.2.1 15 (146, .iconst 0, 1) rfl
theorem dX12_makes_147 : decode cX12_makes 147 = .ok (.iconst (-1), 1) := dr9 dk9_dX12_makes_0_0.2.2.2.2.2.1 16 (147, .iconst (-1), 1) rfl
theorem dX12_makes_148 : decode cX12_makes 148 = .ok (.invokevirtual 503, 3) := dr9 dk9_dX12_makes_0_0.2.2.2.2.2.1 17 (148, .invokevirtual 503, 3) rfl
theorem dX12_makes_151 : decode cX12_makes 151 = .ok (.istore 5, 2) := dr9 dk9_dX12_makes_0_0.2.2.2.2.2.1 18 (151, .istore 5, 2) rfl
theorem dX12_makes_76 : decode cX12_makes 76 = .ok (.aload_n 0, 1) := dr9 dk9_dX12_makes_0_0.2.2.2.2.2.1 19 (76, .aload_n 0, 1) rfl
theorem dX12_makes_77 : decode cX12_makes 77 = .ok (.getfield 176, 3) := dr9 dk9_dX12_makes_0_0.2.2.2.2.2.1 20 (77, .getfield 176, 3) rfl
theorem dX12_makes_80 : decode cX12_makes 80 = .ok (.bipush 8, 2) := dr9 dk9_dX12_makes_0_0.2.2.2.2.2.1 21 (80, .bipush 8, 2) rfl
theorem dX12_makes_82 : decode cX12_makes 82 = .ok (.iload 4, 2) := dr9 dk9_dX12_makes_0_0.2.2.2.2.2.1 22 (82, .iload 4, 2) rfl
theorem dX12_makes_84 : decode cX12_makes 84 = .ok (.imul, 1) := dr9 dk9_dX12_makes_0_0.2.2.2.2.2.1 23 (84, .imul, 1) rfl
theorem dX12_makes_85 : decode cX12_makes 85 = .ok (.iload 5, 2) := dr9 dk9_dX12_makes_0_0.2.2.2.2.2.2 0 (85, .iload 5, 2) rfl
theorem dX12_makes_87 : decode cX12_makes 87 = .ok (.iadd, 1) := dr9 dk9_dX12_makes_0_0.2.2.2.2.2.2 1 (87, .iadd, 1) rfl
theorem dX12_makes_88 : decode cX12_makes 88 = .ok (.iconst 0, 1) := dr9 dk9_dX12_makes_0_0.2.2.2.2.2.2 2 (88, .iconst 0, 1) rfl
theorem dX12_makes_89 : decode cX12_makes 89 = .ok (.iastore, 1) := dr9 dk9_dX12_makes_0_0.2.2.2.2.2.2 3 (89, .iastore, 1) rfl
theorem dX12_makes_90 : decode cX12_makes 90 = .ok (.iinc 5 1, 3) := dr9 dk9_dX12_makes_0_0.2.2.2.2.2.2 4 (90, .iinc 5 1, 3) rfl
theorem dX12_makes_93 : decode cX12_makes 93 = .ok (.goto (-24), 3) := dr9 dk9_dX12_makes_0_0.2.2.2.2.2.2 5 (93, .goto (-24), 3) rfl
theorem dX12_makes_19 : decode cX12_makes 19 = .ok (.aload_n 0, 1) := dr9 dk9_dX12_makes_0_0.2.2.2.2.2.2 6 (19, .aload_n 0, 1) rfl
theorem dX12_makes_20 : decode cX12_makes 20 = .ok (.bipush 16, 2) := dr9 dk9_dX12_makes_0_0.2.2.2.2.2.2 7 (20, .bipush 16, 2) rfl
theorem dX12_makes_22 : decode cX12_makes 22 = .ok (.invokevirtual 484, 3) := dr9 dk9_dX12_makes_0_0.2.2.2.2.2.2 8 (22, .invokevirtual 484, 3) rfl
theorem dX12_makes_25 : decode cX12_makes 25 = .ok (.ireturn, 1) := dr9 dk9_dX12_makes_0_0.2.2.2.2.2.2 9 (25, .ireturn, 1) rfl
theorem dX12_makes_7 : decode cX12_makes 7 = .ok (.iconst 2, 1) := dr9 dk9_dX12_makes_0_0.2.2.2.2.2.2 10 (7, .iconst 2, 1) rfl
theorem dX12_makes_8 : decode cX12_makes 8 = .ok (.ireturn, 1) := dr9 dk9_dX12_makes_0_0.2.2.2.2.2.2 11 (8, .ireturn, 1) rfl
abbrev q_s_joinsAll (D : va_G) (ks : KS) (ad : Nat → Nat) (kk : Nat → ClassId) (V : Vf) (L : Lf) (p0 : Int32) (p1 : Int32) (p2 : Int32) (A : Nat → Prop) : Array Value → State → Outcome → State → Prop := va_Qi (fun (r : Int32) (u : Vf × Lf) => rgd bM u.1 ∧ agr [(0, 60), (0, 65), (0, 68), (0, 69), (0, 73), (0, 76), (0, 90), (0, 91), (0, 92), (0, 93), (0, 95), (0, 96), (0, 98)] [59, 61, 62, 63, 64, 66, 67, 74, 75, 77, 78, 79, 80, 94, 97] V u.1 ∧ u.2 = L ∧ (0 ≤ r.toInt ∧ r.toInt ≤ 2) ∧ ((u.1 0 93).toInt = (V 0 93).toInt) ∧ ((u.1 0 98).toInt = (V 0 98).toInt) ∧ ((V 0 60).toInt ≤ (u.1 0 60).toInt) ∧ ((V 0 65).toInt ≤ (u.1 0 65).toInt) ∧ ((u.1 0 65).toInt - (V 0 65).toInt ≤ (u.1 0 60).toInt - (V 0 60).toInt) ∧ ((u.1 0 73).toInt + (u.1 0 95).toInt - (u.1 0 65).toInt ≤ (V 0 73).toInt + (V 0 95).toInt - (V 0 65).toInt) ∧ ((V 0 73).toInt ≤ (u.1 0 73).toInt) ∧ ((V 0 69).toInt ≤ (u.1 0 69).toInt) ∧ ((V 0 95).toInt ≤ (u.1 0 95).toInt) ∧ ((u.1 0 95).toInt - (V 0 95).toInt ≤ (u.1 0 65).toInt - (V 0 65).toInt) ∧ ((u.1 0 76).toInt - (u.1 0 69).toInt - (u.1 0 73).toInt ≤ (V 0 76).toInt - (V 0 69).toInt - (V 0 73).toInt) ∧ (RT u.1) ∧ (FRM V u.1 p0.toInt)) (fun u t => gq D A (mw ad kk ks.1 u.1 u.2) (mty kk) t) A
def K_s_joinsAll (l : Launch) (D : va_G) (ks : KS) (d1 d2 : Nat) : Prop := ∀ (sz : Nat) (ad : Nat → Nat) (kk : Nat → ClassId) (V : Vf) (L : Lf) (p0 : Int32) (p1 : Int32) (p2 : Int32) (hMV : rgd bM V) (rg_p0 : 0 ≤ p0.toInt ∧ p0.toInt ≤ 299) (rg_p1 : 0 ≤ p1.toInt ∧ p1.toInt ≤ 23) (rg_p2 : 0 ≤ p2.toInt ∧ p2.toInt ≤ 39) (rt : RT V) (n1 : (V 0 65).toInt ≤ (V 0 60).toInt) (n2 : (V 0 95).toInt ≤ (V 0 65).toInt) (n3 : (V 0 73).toInt + (V 0 95).toInt - (V 0 65).toInt ≤ 999000) (n4 : (V 0 76).toInt - (V 0 69).toInt - (V 0 73).toInt ≤ 1000000000) (n5 : 300 - (V 0 60).toInt ≤ (d1 : Int)) (n6 : 10 - (V 0 93).toInt ≤ (d2 : Int)) (oq1 : p0.toInt < (V 0 60).toInt) (n7 : (V 0 98).toInt + 400 * (d2 : Int) + 30 ≤ 19000) (tq : th V (Int32.toNatClampNeg p1)) (ob : (V 61 (Int32.toNatClampNeg p0)).toInt = p1.toInt) (jz : JZ V V (Int32.toNatClampNeg p1) (Int32.toNatClampNeg p0) 0) , Met l yX12_joinsAll (Cond.code yX12_joinsAll cX12_joinsAll 8 (some .int) :: GW) (rK2 (4 * d1 + 40 * d2 + 16) (100 * d1 + 1000 * d2 + 620)) (va_Pc [.ref (ad 0), .int p0, .int p1, .int p2] (gp D ks (mw ad kk ks.1 V L) (mty kk) sz)) (q_s_joinsAll D ks ad kk V L p0 p1 p2 (va_A (mw ad kk ks.1 V L) sz)) 0 0 (va_A (mw ad kk ks.1 V L) sz)
end
section
theorem dk9_dX12_joinsAll_0_0 : dOk cX12_joinsAll [(0, .iconst 0, 1), (1, .istore 4, 2), (3, .iload 4, 2), (5, .aload_n 0, 1), (6, .getfield 86, 3), (9, .bipush 24, 2), (11, .aload_n 0, 1), (12, .getfield 286, 3), (15, .imul, 1), (16, .iload_n 2, 1), (17, .iadd, 1), (18, .iaload, 1), (19, .if_icmp .ge 154, 3), (173, .iconst 0, 1), (174, .ireturn, 1), (22, .bipush 8, 2), (24, .bipush 24, 2), (26, .aload_n 0, 1), (27, .getfield 286, 3), (30, .imul, 1), (31, .iload_n 2, 1), (32, .iadd, 1), (33, .imul, 1), (34, .iload 4, 2)] = true ∧ dOk cX12_joinsAll [(36, .iadd, 1), (37, .istore 5, 2), (39, .iconst 0, 1), (40, .istore 6, 2), (42, .iload 6, 2), (44, .aload_n 0, 1), (45, .getfield 62, 3), (48, .aload_n 0, 1), (49, .getfield 286, 3), (52, .iaload, 1), (53, .if_icmp .ge 114, 3), (167, .iinc 4 1, 3), (170, .goto (-167), 3), (56, .aload_n 0, 1), (57, .getfield 92, 3), (60, .iload 5, 2), (62, .baload, 1), (63, .ifCond .ne 104, 3), (66, .aload_n 0, 1), (67, .iload 5, 2), (69, .iload 6, 2), (71, .invokevirtual 465, 3), (74, .ifCond .ne 6, 3), (80, .aload_n 0, 1)] = true ∧ dOk cX12_joinsAll [(81, .iload 6, 2), (83, .iload_n 3, 1), (84, .invokevirtual 510, 3), (87, .istore 7, 2), (89, .iload 7, 2), (91, .iconst 1, 1), (92, .if_icmp .ne 13, 3), (105, .iload 7, 2), (107, .ifCond .le 6, 3), (113, .aload_n 0, 1), (114, .getfield 180, 3), (117, .bipush 24, 2), (119, .bipush 8, 2), (121, .iload_n 1, 1), (122, .imul, 1), (123, .iload 4, 2), (125, .iadd, 1), (126, .imul, 1), (127, .aload_n 0, 1), (128, .getfield 176, 3), (131, .bipush 8, 2), (133, .iload_n 1, 1), (134, .imul, 1), (135, .iload 4, 2)] = true ∧ dOk cX12_joinsAll [(137, .iadd, 1), (138, .iaload, 1), (139, .iadd, 1), (140, .aload_n 0, 1), (141, .getfield 490, 3), (144, .iastore, 1), (145, .aload_n 0, 1), (146, .getfield 176, 3), (149, .bipush 8, 2), (151, .iload_n 1, 1), (152, .imul, 1), (153, .iload 4, 2), (155, .iadd, 1), (156, .dup2, 1), (157, .iaload, 1), (158, .iconst 1, 1), (159, .iadd, 1), (160, .iastore, 1), (161, .iinc 6 1, 3), (164, .goto (-122), 3), (110, .iload 7, 2), (112, .ireturn, 1), (95, .aload_n 0, 1), (96, .dup, 1)] = true ∧ dOk cX12_joinsAll [(97, .getfield 471, 3), (100, .iconst 1, 1), (101, .iadd, 1), (102, .putfield 471, 3), (77, .goto 84, 3)] = true := by decide +kernel
theorem dX12_joinsAll_0 : decode cX12_joinsAll 0 = .ok (.iconst 0, 1) := dr9 dk9_dX12_joinsAll_0_0.1 0 (0, .iconst 0, 1) rfl
theorem dX12_joinsAll_1 : decode cX12_joinsAll 1 = .ok (.istore 4, 2) := dr9 dk9_dX12_joinsAll_0_0.1 1 (1, .istore 4, 2) rfl
theorem dX12_joinsAll_3 : decode cX12_joinsAll 3 = .ok (.iload 4, 2) := dr9 dk9_dX12_joinsAll_0_0.1 2 (3, .iload 4, 2) rfl
theorem dX12_joinsAll_5 : decode cX12_joinsAll 5 = .ok (.aload_n 0, 1) := dr9 dk9_dX12_joinsAll_0_0.1 3 (5, .aload_n 0, 1) rfl
theorem dX12_joinsAll_6 : decode cX12_joinsAll 6 = .ok (.getfield 86, 3) := dr9 dk9_dX12_joinsAll_0_0.1 4 (6, .getfield 86, 3) rfl
theorem dX12_joinsAll_9 : decode cX12_joinsAll 9 = .ok (.bipush 24, 2) := dr9 dk9_dX12_joinsAll_0_0.1 5 (9, .bipush 24, 2) rfl
theorem dX12_joinsAll_11 : decode cX12_joinsAll 11 = .ok (.aload_n 0, 1) := dr9 dk9_dX12_joinsAll_0_0.1 6 (11, .aload_n 0, 1) rfl
theorem dX12_joinsAll_12 : decode cX12_joinsAll 12 = .ok (.getfield 286, 3) := dr9 dk9_dX12_joinsAll_0_0.1 7 (12, .getfield 286, 3) rfl
theorem dX12_joinsAll_15 : decode cX12_joinsAll 15 = .ok (.imul, 1) := dr9 dk9_dX12_joinsAll_0_0.1 8 (15, .imul, 1) rfl
theorem dX12_joinsAll_16 : decode cX12_joinsAll 16 = .ok (.iload_n 2, 1) := dr9 dk9_dX12_joinsAll_0_0.1 9 (16, .iload_n 2, 1) rfl
theorem dX12_joinsAll_17 : decode cX12_joinsAll 17 = .ok (.iadd, 1) := dr9 dk9_dX12_joinsAll_0_0.1 10 (17, .iadd, 1) rfl
theorem dX12_joinsAll_18 : decode cX12_joinsAll 18 = .ok (.iaload, 1) := dr9 dk9_dX12_joinsAll_0_0.1 11 (18, .iaload, 1) rfl
theorem dX12_joinsAll_19 : decode cX12_joinsAll 19 = .ok (.if_icmp .ge 154, 3) := dr9 dk9_dX12_joinsAll_0_0.1 12 (19, .if_icmp .ge 154, 3) rfl
theorem dX12_joinsAll_173 : decode cX12_joinsAll 173 = .ok (.iconst 0, 1) := dr9 dk9_dX12_joinsAll_0_0.1 13 (173, .iconst 0, 1) rfl
theorem dX12_joinsAll_174 : decode cX12_joinsAll 174 = .ok (.ireturn, 1) := dr9 dk9_dX12_joinsAll_0_0.1 14 (174, .ireturn, 1) rfl
theorem dX12_joinsAll_22 : decode cX12_joinsAll 22 = .ok (.bipush 8, 2) := dr9 dk9_dX12_joinsAll_0_0.1 15 (22, .bipush 8, 2) rfl
theorem dX12_joinsAll_24 : decode cX12_joinsAll 24 = .ok (.bipush 24, 2) := dr9 dk9_dX12_joinsAll_0_0.1 16 (24, .bipush 24, 2) rfl
theorem dX12_joinsAll_26 : decode cX12_joinsAll 26 = .ok (.aload_n 0, 1) := dr9 dk9_dX12_joinsAll_0_0.1 17 (26, .aload_n 0, 1) rfl
theorem dX12_joinsAll_27 : decode cX12_joinsAll 27 = .ok (.getfield 286, 3) := dr9 dk9_dX12_joinsAll_0_0.1 18 (27, .getfield 286, 3) rfl
theorem dX12_joinsAll_30 : decode cX12_joinsAll 30 = .ok (.imul, 1) := dr9 dk9_dX12_joinsAll_0_0.1 19 (30, .imul, 1) rfl
theorem dX12_joinsAll_31 : decode cX12_joinsAll 31 = .ok (.iload_n 2, 1) := dr9 dk9_dX12_joinsAll_0_0.1 20 (31, .iload_n 2, 1) rfl
theorem dX12_joinsAll_32 : decode cX12_joinsAll 32 = .ok (.iadd, 1) := dr9 dk9_dX12_joinsAll_0_0.1 21 (32, .iadd, 1) rfl
theorem dX12_joinsAll_33 : decode cX12_joinsAll 33 = .ok (.imul, 1) := dr9 dk9_dX12_joinsAll_0_0.1 22 (33, .imul, 1) rfl
theorem dX12_joinsAll_34 : decode cX12_joinsAll 34 = .ok (.iload 4, 2) := dr9 dk9_dX12_joinsAll_0_0.1 23 (34, .iload 4, 2) rfl
theorem dX12_joinsAll_36 : decode cX12_joinsAll 36 = .ok (.iadd, 1) := dr9 dk9_dX12_joinsAll_0_0.2.1 0 (36, .iadd, 1) rfl
theorem dX12_joinsAll_37 : decode cX12_joinsAll 37 = .ok (.istore 5, 2) := dr9 dk9_dX12_joinsAll_0_0.2.1 1 (37, .istore 5, 2) rfl
theorem dX12_joinsAll_39 : decode cX12_joinsAll 39 = .ok (.iconst 0, 1) := dr9 dk9_dX12_joinsAll_0_0.2.1 2 (39, .iconst 0, 1) rfl
theorem dX12_joinsAll_40 : decode cX12_joinsAll 40 = .ok (.istore 6, 2) := dr9 dk9_dX12_joinsAll_0_0.2.1 3 (40, .istore 6, 2) rfl
theorem dX12_joinsAll_42 : decode cX12_joinsAll 42 = .ok (.iload 6, 2) := dr9 dk9_dX12_joinsAll_0_0.2.1 4 (42, .iload 6, 2) rfl
theorem dX12_joinsAll_44 : decode cX12_joinsAll 44 = .ok (.aload_n 0, 1) := dr9 dk9_dX12_joinsAll_0_0.2.1 5 (44, .aload_n 0, 1) rfl
theorem dX12_joinsAll_45 : decode cX12_joinsAll 45 = .ok (.getfield 62, 3) := dr9 dk9_dX12_joinsAll_0_0.2.1 6 (45, .getfield 62, 3) rfl
theorem dX12_joinsAll_48 : decode cX12_joinsAll 48 = .ok (.aload_n 0, 1) := dr9 dk9_dX12_joinsAll_0_0.2.1 7 (48, .aload_n 0, 1) rfl
theorem dX12_joinsAll_49 : decode cX12_joinsAll 49 = .ok (.getfield 286, 3) := dr9 dk9_dX12_joinsAll_0_0.2.1 8 (49, .getfield 286, 3) rfl
theorem dX12_joinsAll_52 : decode cX12_joinsAll 52 = .ok (.iaload, 1) := dr9 dk9_dX12_joinsAll_0_0.2.1 9 (52, .iaload, 1) rfl
theorem dX12_joinsAll_53 : decode cX12_joinsAll 53 = .ok (.if_icmp .ge 114, 3) := dr9 dk9_dX12_joinsAll_0_0.2.1 10 (53, .if_icmp .ge 114, 3) rfl
theorem dX12_joinsAll_167 : decode cX12_joinsAll 167 = .ok (.iinc 4 1, 3) := dr9 dk9_dX12_joinsAll_0_0.2.1 11 (167, .iinc 4 1, 3) rfl
theorem dX12_joinsAll_170 : decode cX12_joinsAll 170 = .ok (.goto (-167), 3) := dr9 dk9_dX12_joinsAll_0_0.2.1 12 (170, .goto (-167), 3) rfl
theorem dX12_joinsAll_56 : decode cX12_joinsAll 56 = .ok (.aload_n 0, 1) := dr9 dk9_dX12_joinsAll_0_0.2.1 13 (56, .aload_n 0, 1) rfl
theorem dX12_joinsAll_57 : decode cX12_joinsAll 57 = .ok (.getfield 92, 3) := dr9 dk9_dX12_joinsAll_0_0.2.1 14 (57, .getfield 92, 3) rfl
theorem dX12_joinsAll_60 : decode cX12_joinsAll 60 = .ok (.iload 5, 2) := dr9 dk9_dX12_joinsAll_0_0.2.1 15 (60, .iload 5, 2) rfl
theorem dX12_joinsAll_62 : decode cX12_joinsAll 62 = .ok (.baload, 1) := dr9 dk9_dX12_joinsAll_0_0.2.1 16 (62, .baload, 1) rfl
theorem dX12_joinsAll_63 : decode cX12_joinsAll 63 = .ok (.ifCond .ne 104, 3) := dr9 dk9_dX12_joinsAll_0_0.2.1 17 (63, .ifCond .ne 104, 3) rfl
theorem dX12_joinsAll_66 : decode cX12_joinsAll 66 = .ok (.aload_n 0, 1) := dr9 dk9_dX12_joinsAll_0_0.2.1 18 (66, .aload_n 0, 1) rfl
theorem dX12_joinsAll_67 : decode cX12_joinsAll 67 = .ok (.iload 5, 2) := dr9 dk9_dX12_joinsAll_0_0.2.1 19 (67, .iload 5, 2) rfl
theorem dX12_joinsAll_69 : decode cX12_joinsAll 69 = .ok (.iload 6, 2) := dr9 dk9_dX12_joinsAll_0_0.2.1 20 (69, .iload 6, 2) rfl
theorem dX12_joinsAll_71 : decode cX12_joinsAll 71 = .ok (.invokevirtual 465, 3) := dr9 dk9_dX12_joinsAll_0_0.2.1 21 (71, .invokevirtual 465, 3) rfl
theorem dX12_joinsAll_74 : decode cX12_joinsAll 74 = .ok (.ifCond .ne 6, 3) := dr9 dk9_dX12_joinsAll_0_0.2.1 22 (74, .ifCond .ne 6, 3) rfl
theorem dX12_joinsAll_80 : decode cX12_joinsAll 80 = .ok (.aload_n 0, 1) := dr9 dk9_dX12_joinsAll_0_0.2.1 23 (80, .aload_n 0, 1) rfl
theorem dX12_joinsAll_81 : decode cX12_joinsAll 81 = .ok (.iload 6, 2) := dr9 dk9_dX12_joinsAll_0_0.2.2.1 0 (81, .iload 6, 2) rfl
theorem dX12_joinsAll_83 : decode cX12_joinsAll 83 = .ok (.iload_n 3, 1) := dr9 dk9_dX12_joinsAll_0_0.2.2.1 1 (83, .iload_n 3, 1) rfl
theorem dX12_joinsAll_84 : decode cX12_joinsAll 84 = .ok (.invokevirtual 510, 3) := dr9 dk9_dX12_joinsAll_0_0.2.2.1 2 (84, .invokevirtual 510, 3) rfl
theorem dX12_joinsAll_87 : decode cX12_joinsAll 87 = .ok (.istore 7, 2) := dr9 dk9_dX12_joinsAll_0_0.2.2.1 3 (87, .istore 7, 2) rfl
theorem dX12_joinsAll_89 : decode cX12_joinsAll 89 = .ok (.iload 7, 2) := dr9 dk9_dX12_joinsAll_0_0.2.2.1 4 (89, .iload 7, 2) rfl
theorem dX12_joinsAll_91 : decode cX12_joinsAll 91 = .ok (.iconst 1, 1) := dr9 dk9_dX12_joinsAll_0_0.2.2.1 5 (91, .iconst 1, 1) rfl
theorem dX12_joinsAll_92 : decode cX12_joinsAll 92 = .ok (.if_icmp .ne 13, 3) := dr9 dk9_dX12_joinsAll_0_0.2.2.1 6 (92, .if_icmp .ne 13, 3) rfl
theorem dX12_joinsAll_105 : decode cX12_joinsAll 105 = .ok (.iload 7, 2) := dr9 dk9_dX12_joinsAll_0_0.2.2.1 7 (105, .iload 7, 2) rfl
theorem dX12_joinsAll_107 : decode cX12_joinsAll 107 = .ok (.ifCond .le 6, 3) := dr9 dk9_dX12_joinsAll_0_0.2.2.1 8 (107, .ifCond .le 6, 3) rfl
theorem dX12_joinsAll_113 : decode cX12_joinsAll 113 = .ok (.aload_n 0, 1) := dr9 dk9_dX12_joinsAll_0_0.2.2.1 9 (113, .aload_n 0, 1) rfl
theorem dX12_joinsAll_114 : decode cX12_joinsAll 114 = .ok (.getfield 180, 3) := dr9 dk9_dX12_joinsAll_0_0.2.2.1 10 (114, .getfield 180, 3) rfl
theorem dX12_joinsAll_117 : decode cX12_joinsAll 117 = .ok (.bipush 24, 2) := dr9 dk9_dX12_joinsAll_0_0.2.2.1 11 (117, .bipush 24, 2) rfl
theorem dX12_joinsAll_119 : decode cX12_joinsAll 119 = .ok (.bipush 8, 2) := dr9 dk9_dX12_joinsAll_0_0.2.2.1 12 (119, .bipush 8, 2) rfl
theorem dX12_joinsAll_121 : decode cX12_joinsAll 121 = .ok (.iload_n 1, 1) := dr9 dk9_dX12_joinsAll_0_0.2.2.1 13 (121, .iload_n 1, 1) rfl
theorem dX12_joinsAll_122 : decode cX12_joinsAll 122 = .ok (.imul, 1) := dr9 dk9_dX12_joinsAll_0_0.2.2.1 14 (122, .imul, 1) rfl
theorem dX12_joinsAll_123 : decode cX12_joinsAll 123 = .ok (.iload 4, 2) := dr9 dk9_dX12_joinsAll_0_0.2.2.1 15 (123, .iload 4, 2) rfl
theorem dX12_joinsAll_125 : decode cX12_joinsAll 125 = .ok (.iadd, 1) := dr9 dk9_dX12_joinsAll_0_0.2.2.1 16 (125, .iadd, 1) rfl
theorem dX12_joinsAll_126 : decode cX12_joinsAll 126 = .ok (.imul, 1) := dr9 dk9_dX12_joinsAll_0_0.2.2.1 17 (126, .imul, 1) rfl
theorem dX12_joinsAll_127 : decode cX12_joinsAll 127 = .ok (.aload_n 0, 1) := dr9 dk9_dX12_joinsAll_0_0.2.2.1 18 (127, .aload_n 0, 1) rfl
theorem dX12_joinsAll_128 : decode cX12_joinsAll 128 = .ok (.getfield 176, 3) := dr9 dk9_dX12_joinsAll_0_0.2.2.1 19 (128, .getfield 176, 3) rfl
theorem dX12_joinsAll_131 : decode cX12_joinsAll 131 = .ok (.bipush 8, 2) := dr9 dk9_dX12_joinsAll_0_0.2.2.1 20 (131, .bipush 8, 2) rfl
theorem dX12_joinsAll_133 : decode cX12_joinsAll 133 = .ok (.iload_n 1, 1) := dr9 dk9_dX12_joinsAll_0_0.2.2.1 21 (133, .iload_n 1, 1) rfl
theorem dX12_joinsAll_134 : decode cX12_joinsAll 134 = .ok (.imul, 1) := dr9 dk9_dX12_joinsAll_0_0.2.2.1 22 (134, .imul, 1) rfl
theorem dX12_joinsAll_135 : decode cX12_joinsAll 135 = .ok (.iload 4, 2) := dr9 dk9_dX12_joinsAll_0_0.2.2.1 23 (135, .iload 4, 2) rfl
theorem dX12_joinsAll_137 : decode cX12_joinsAll 137 = .ok (.iadd, 1) := dr9 dk9_dX12_joinsAll_0_0.2.2.2.1 0 (137, .iadd, 1) rfl
theorem dX12_joinsAll_138 : decode cX12_joinsAll 138 = .ok (.iaload, 1) := dr9 dk9_dX12_joinsAll_0_0.2.2.2.1 1 (138, .iaload, 1) rfl
theorem dX12_joinsAll_139 : decode cX12_joinsAll 139 = .ok (.iadd, 1) := dr9 dk9_dX12_joinsAll_0_0.2.2.2.1 2 (139, .iadd, 1) rfl
theorem dX12_joinsAll_140 : decode cX12_joinsAll 140 = .ok (.aload_n 0, 1) := dr9 dk9_dX12_joinsAll_0_0.2.2.2.1 3 (140, .aload_n 0, 1) rfl
theorem dX12_joinsAll_141 : decode cX12_joinsAll 141 = .ok (.getfield 490, 3) := dr9 dk9_dX12_joinsAll_0_0.2.2.2.1 4 (141, .getfield 490, 3) rfl
theorem dX12_joinsAll_144 : decode cX12_joinsAll 144 = .ok (.iastore, 1) := dr9 dk9_dX12_joinsAll_0_0.2.2.2.1 5 (144, .iastore, 1) rfl
theorem dX12_joinsAll_145 : decode cX12_joinsAll 145 = .ok (.aload_n 0, 1) := dr9 dk9_dX12_joinsAll_0_0.2.2.2.1 6 (145, .aload_n 0, 1) rfl
theorem dX12_joinsAll_146 : decode cX12_joinsAll 146 = .ok (.getfield 176, 3) := dr9 dk9_dX12_joinsAll_0_0.2.2.2.1 7 (146, .getfield 176, 3) rfl
theorem dX12_joinsAll_149 : decode cX12_joinsAll 149 = .ok (.bipush 8, 2) := dr9 dk9_dX12_joinsAll_0_0.2.2.2.1 8 (149, .bipush 8, 2) rfl
theorem dX12_joinsAll_151 : decode cX12_joinsAll 151 = .ok (.iload_n 1, 1) := dr9 dk9_dX12_joinsAll_0_0.2.2.2.1 9 (151, .iload_n 1, 1) rfl
theorem dX12_joinsAll_152 : decode cX12_joinsAll 152 = .ok (.imul, 1) := dr9 dk9_dX12_joinsAll_0_0.2.2.2.1 10 (152, .imul, 1) rfl
theorem dX12_joinsAll_153 : decode cX12_joinsAll 153 = .ok (.iload 4, 2) := dr9 dk9_dX12_joinsAll_0_0.2.2.2.1 11 (153, .iload 4, 2) rfl
theorem dX12_joinsAll_155 : decode cX12_joinsAll 155 = .ok (.iadd, 1) := dr9 dk9_dX12_joinsAll_0_0.2.2.2.1 12 (155, .iadd, 1) rfl
theorem dX12_joinsAll_156 : decode cX12_joinsAll 156 = .ok (.dup2, 1) := dr9 dk9_dX12_joinsAll_0_0.2.2.2.1 13 (156, .dup2, 1) rfl
theorem dX12_joinsAll_157 : decode cX12_joinsAll 157 = .ok (.iaload, 1) := dr9 dk9_dX12_joinsAll_0_0.2.2.2.1 14 (157, .iaload, 1) rfl
theorem dX12_joinsAll_158 : decode cX12_joinsAll 158 = .ok (.iconst 1, 1) := dr9 dk9_dX12_joinsAll_0_0.2.2.2.1 15 (158, .iconst 1, 1) rfl
theorem dX12_joinsAll_159 : decode cX12_joinsAll 159 = .ok (.iadd, 1) := dr9 dk9_dX12_joinsAll_0_0.2.2.2.1 16 (159, .iadd, 1) rfl
theorem dX12_joinsAll_160 : decode cX12_joinsAll 160 = .ok (.iastore, 1) := dr9 dk9_dX12_joinsAll_0_0.2.2.2.1 17 (160, .iastore, 1) rfl
theorem dX12_joinsAll_161 : decode cX12_joinsAll 161 = .ok (.iinc 6 1, 3) := dr9 dk9_dX12_joinsAll_0_0.2.2.2.1 18 (161, .iinc 6 1, 3) rfl
theorem dX12_joinsAll_164 : decode cX12_joinsAll 164 = .ok (.goto (-122), 3) := dr9 dk9_dX12_joinsAll_0_0.2.2.2.1 19 (164, .goto (-122), 3) rfl
theorem dX12_joinsAll_110 : decode cX12_joinsAll 110 = .ok (.iload 7, 2) := dr9 dk9_dX12_joinsAll_0_0.2.2.2.1 20 (110, .iload 7, 2) rfl
theorem dX12_joinsAll_112 : decode cX12_joinsAll 112 = .ok (.ireturn, 1) := dr9 dk9_dX12_joinsAll_0_0.2.2.2.1 21 (112, .ireturn, 1) rfl
theorem dX12_joinsAll_95 : decode cX12_joinsAll 95 = .ok (.aload_n 0, 1) := dr9 dk9_dX12_joinsAll_0_0.2.2.2.1 22 (95, .aload_n 0, 1) rfl
theorem dX12_joinsAll_96 : decode cX12_joinsAll 96 = .ok (.dup, 1) := dr9 dk9_dX12_joinsAll_0_0.2.2.2.1 23 (96, .dup, 1) rfl
theorem dX12_joinsAll_97 : decode cX12_joinsAll 97 = .ok (.getfield 471, 3) := dr9 dk9_dX12_joinsAll_0_0.2.2.2.2 0 (97, .getfield 471, 3) rfl
theorem dX12_joinsAll_100 : decode cX12_joinsAll 100 = .ok (.iconst 1, 1) := dr9 dk9_dX12_joinsAll_0_0.2.2.2.2 1 (100, .iconst 1, 1) rfl
theorem dX12_joinsAll_101 : decode cX12_joinsAll 101 = .ok (.iadd, 1) := dr9 dk9_dX12_joinsAll_0_0.2.2.2.2 2 (101, .iadd, 1) rfl
theorem dX12_joinsAll_102 : decode cX12_joinsAll 102 = .ok (.putfield 471, 3) := dr9 dk9_dX12_joinsAll_0_0.2.2.2.2 3 (102, .putfield 471, 3) rfl
theorem dX12_joinsAll_77 : decode cX12_joinsAll 77 = .ok (.goto 84, 3) := dr9 dk9_dX12_joinsAll_0_0.2.2.2.2 4 (77, .goto 84, 3) rfl
end
section
/-! the calls' group: all of it, for every depth -/
def KG (l : Launch) (D : va_G) (ks : KS) (d1 d2 : Nat) : Prop := K_s_calls l D ks d1 d2 ∧ (∀ d3, K_s_arounds l D ks d1 d2 d3) ∧ K_s_failings l D ks d1 d2 ∧ K_s_getsWhole l D ks d1 d2 ∧ K_s_joinsAll l D ks d1 d2 ∧ K_s_closes l D ks d1 d2
/-! between the calls: RT0; how many objects may still be closed: mu -/
def RTt (V : Vf) : Prop := (∀ o : Nat, (o : Int) < (V 0 60).toInt → th V (Int32.toNatClampNeg (V 61 o))) ∧ (∀ o k i : Nat, (o : Int) < (V 0 60).toInt → k < 8 → (i : Int) < (V 66 (8 * o + k)).toInt → (V 67 (24 * (8 * o + k) + i)).toInt < (V 0 60).toInt) ∧ (∀ i : Nat, (i : Int) < (V 0 95).toInt → (V 94 i).toInt < (V 0 60).toInt ∧ 1 ≤ (V 63 (Int32.toNatClampNeg (V 94 i))).toInt)
def RT0 (V : Vf) : Prop := TB V ∧ RD V ∧ ((V 0 54).toInt = 1 ∨ (V 0 60).toInt = 0) ∧ RTt V ∧ (V 0 95).toInt = 0
theorem RT0.rt {V : Vf} (h : RT0 V) (r : (V 0 54).toInt = 1) : RT V := ⟨h.1, h.2.1 r, h.2.2.2.1⟩
theorem RT.r0 {V : Vf} (h : RT V) (r : (V 0 54).toInt = 1) (f : (V 0 95).toInt = 0) : RT0 V := ⟨h.1, fun _ => h.2.1, Or.inl r, h.2.2, f⟩
theorem RTt.z {V : Vf} (h0 : (V 0 60).toInt = 0) (f : (V 0 95).toInt = 0) : RTt V := ⟨fun o ho => absurd ho (by omega), fun o _ _ ho => absurd ho (by omega), fun i hi => absurd hi (by omega)⟩
/-- as rtC, but fresh and how many they are may have been written -/
def r0C (fs : List (Nat × Nat)) (cs : List Nat) : Prop := thC fs cs ∧ (∀ y ∈ fs, y.1 = 0) ∧ (∀ y ∈ cs, trk y = false) ∧ wrL fs cs 0 60 = false ∧ wrL fs cs 0 54 = false ∧ (∀ k, wrL fs cs 61 k = false) ∧ (∀ k, wrL fs cs 66 k = false) ∧ (∀ k, wrL fs cs 67 k = false)
theorem RT0.ag {fs : List (Nat × Nat)} {cs : List Nat} {V W : Vf} (h : RT0 V) (hM : rgd bM V) (a : agr fs cs V W) (q : r0C fs cs) (c0 : c0k V W) (f : (W 0 95).toInt = 0) : RT0 W := by
  obtain ⟨q1, q2, q3, q60, q54, q61, q66, q67⟩ := q
  refine ⟨TB.ag h.1 hM a q1.1 q2 q3, fun r => RD_st (h.2.1 (by rw [a 0 54 q54] at r; exact r)) a q1 c0, ?_, ⟨?_, ?_, ?_⟩, f⟩
  · rw [a 0 54 q54, a 0 60 q60]
    exact h.2.2.1
  · intro o ho
    rw [a 0 60 q60] at ho
    rw [a _ _ (q61 o)]
    exact (h.2.2.2.1.1 o ho).ag a q1
  · intro o k i ho hk hi
    rw [a 0 60 q60] at ho ⊢
    rw [a _ _ (q66 _)] at hi
    rw [a _ _ (q67 _)]
    exact h.2.2.2.1.2.1 o k i ho hk hi
  · intro i hi
    omega
def alv (V : Vf) : Nat → Nat
  | 0 => 0
  | n + 1 => alv V n + (if (V 63 n).toInt = 1 then 1 else 0)
theorem alv_le (V : Vf) (n : Nat) : ∀ k, alv V (n + k) ≤ alv V n + k
  | 0 => Nat.le_refl _
  | k + 1 => by
    have ih := alv_le V n k
    show alv V (n + k) + (if (V 63 (n + k)).toInt = 1 then 1 else 0) ≤ alv V n + (k + 1)
    split <;> omega
theorem alv_mono {V W : Vf} : ∀ n, (∀ o, o < n → (W 63 o).toInt = 1 → (V 63 o).toInt = 1) → alv W n ≤ alv V n
  | 0, _ => Nat.le_refl _
  | n + 1, h => by
    have ih := alv_mono (V := V) (W := W) n (fun o ho => h o (by omega))
    show alv W n + (if (W 63 n).toInt = 1 then 1 else 0) ≤ alv V n + (if (V 63 n).toInt = 1 then 1 else 0)
    by_cases e : (W 63 n).toInt = 1
    · rw [if_pos e, if_pos (h n (by omega) e)]
      omega
    · rw [if_neg e]
      omega
theorem alv_drop {V W : Vf} {x : Nat} (hv : (V 63 x).toInt = 1) (hw : (W 63 x).toInt ≠ 1) : ∀ n, (∀ o, o < n → (W 63 o).toInt = 1 → (V 63 o).toInt = 1) → x < n → alv W n + 1 ≤ alv V n
  | 0, _, hx => absurd hx (by omega)
  | n + 1, h, hx => by
    show alv W n + (if (W 63 n).toInt = 1 then 1 else 0) + 1 ≤ alv V n + (if (V 63 n).toInt = 1 then 1 else 0)
    by_cases e : x = n
    · subst e
      have ih := alv_mono (V := V) (W := W) x (fun o ho => h o (by omega))
      rw [if_neg hw, if_pos hv]
      omega
    · have ih := alv_drop hv hw n (fun o ho => h o (by omega)) (by omega)
      by_cases e : (W 63 n).toInt = 1
      · rw [if_pos e, if_pos (h n (by omega) e)]
        omega
      · rw [if_neg e]
        omega
theorem alv_self (V : Vf) : ∀ n, alv V n ≤ n
  | 0 => Nat.le_refl _
  | n + 1 => by
    have ih := alv_self V n
    show alv V n + (if (V 63 n).toInt = 1 then 1 else 0) ≤ n + 1
    split <;> omega
def mu (V : Vf) : Nat := 300 - (V 0 60).toInt.toNat + alv V (V 0 60).toInt.toNat
theorem mu_le {V : Vf} (h : (V 0 60).toInt ≤ 300) : mu V ≤ 300 := by
  unfold mu
  have := alv_self V (V 0 60).toInt.toNat
  omega
theorem mu_drop {V W : Vf} {x : Nat} (f : FRM V W (-1)) (h0 : 0 ≤ (V 0 60).toInt) (hx : (x : Int) < (V 0 60).toInt) (hv : (V 63 x).toInt = 1) (hw : (W 63 x).toInt = 2) (h3 : (W 0 60).toInt ≤ 300) (hM : ∀ o, 0 ≤ (V 63 o).toInt) : mu W + 1 ≤ mu V := by
  unfold mu
  have hf := f.1
  have e : (W 0 60).toInt.toNat = (V 0 60).toInt.toNat + ((W 0 60).toInt.toNat - (V 0 60).toInt.toNat) := by omega
  have a1 := alv_le W (V 0 60).toInt.toNat ((W 0 60).toInt.toNat - (V 0 60).toInt.toNat)
  rw [← e] at a1
  have a2 := alv_drop (V := V) (W := W) (x := x) hv (by omega) (V 0 60).toInt.toNat (fun o ho h1 => by
    have b := (f.2.1 o (by omega)).2.2
    have c := hM o
    rcases Decidable.em ((V 63 o).toInt = 0) with z | z
    · have := b.1 z
      omega
    · have := b.2 (by omega)
      omega) (by omega)
  omega
theorem mu_ag {fs : List (Nat × Nat)} {cs : List Nat} {V W : Vf} (a : agr fs cs V W) (q60 : wrL fs cs 0 60 = false) (q63 : ∀ k, wrL fs cs 63 k = false) : mu W = mu V := by
  unfold mu
  rw [a 0 60 q60]
  have h : ∀ n, alv W n = alv V n := fun n => by
    induction n with
    | zero => rfl
    | succ n ih =>
      show alv W n + (if (W 63 n).toInt = 1 then 1 else 0) = alv V n + (if (V 63 n).toInt = 1 then 1 else 0)
      rw [ih, a _ _ (q63 n)]
  rw [h]

theorem w2351 : Cond.code yX12_latestIn cX12_latestIn 4 (some .int) ∈ GW := gw_k tk9_10 36 (rfl) rfl
theorem w2348 : Cond.methodLink RX12 585 yX12_latestIn ∈ GW := gw_k tk9_10 33 (by decide +kernel) rfl
theorem w2350 : Cond.instanceMethod yX12_latestIn ∈ GW := gw_k tk9_10 35 (by decide +kernel) rfl
theorem w154 : Cond.selects RX12 yX12_latestIn yX12_latestIn ∈ GW := gw_mem 154 (by decide +kernel) rfl
theorem hdV_yX12_latestIn : yX12_latestIn.cls = RX12 ∧ yX12_latestIn.cls ≠ "java/lang/invoke/MethodHandle" ∧ yX12_latestIn.cls ≠ "java/lang/invoke/VarHandle" ∧ (parseMethodDescriptor yX12_latestIn.desc).map (fun d => d.parameters.length) = some 1 := by decide +kernel
theorem w1805 : Cond.fieldLink RX12 588 "WiringHouseModel" "isSpent" "Z" ∈ GW := gw_k tk9_7 210 (by decide +kernel) rfl
theorem w2347 : Cond.code yX12_closeAll cX12_closeAll 5 (some .int) ∈ GW := gw_k tk9_10 32 (rfl) rfl
theorem w2344 : Cond.methodLink RX12 582 yX12_closeAll ∈ GW := gw_k tk9_10 29 (by decide +kernel) rfl
theorem w2346 : Cond.instanceMethod yX12_closeAll ∈ GW := gw_k tk9_10 31 (by decide +kernel) rfl
theorem w153 : Cond.selects RX12 yX12_closeAll yX12_closeAll ∈ GW := gw_mem 153 (by decide +kernel) rfl
theorem hdV_yX12_closeAll : yX12_closeAll.cls = RX12 ∧ yX12_closeAll.cls ≠ "java/lang/invoke/MethodHandle" ∧ yX12_closeAll.cls ≠ "java/lang/invoke/VarHandle" ∧ (parseMethodDescriptor yX12_closeAll.desc).map (fun d => d.parameters.length) = some 1 := by decide +kernel
theorem dk9_dX12_closeAll_0_0 : dOk cX12_closeAll [(0, .iconst 0, 1), (1, .istore_n 2, 1), (2, .aload_n 0, 1), (3, .getfield 244, 3), (6, .iconst 1, 1), (7, .isub, 1), (8, .istore_n 3, 1), (9, .iload_n 3, 1), (10, .ifCond .le 94, 3), (104, .aload_n 0, 1), (105, .iload_n 1, 1), (106, .invokevirtual 585, 3), (109, .istore_n 3, 1), (110, .iload_n 3, 1), (111, .ifCond .lt 43, 3), (154, .aload_n 0, 1), (155, .getfield 152, 3), (158, .iload_n 1, 1), (159, .iload_n 1, 1), (160, .ifCond .ne 7, 3), (167, .iconst 0, 1), (168, .bastore, 1), (169, .iconst 0, 1), (170, .istore 4, 2)] = true ∧ dOk cX12_closeAll [(172, .iload 4, 2), (174, .bipush 24, 2), (176, .if_icmp .ge 22, 3), (198, .iload_n 2, 1), (199, .ireturn, 1), (179, .aload_n 0, 1), (180, .getfield 161, 3), (183, .bipush 24, 2), (185, .iload_n 1, 1), (186, .imul, 1), (187, .iload 4, 2), (189, .iadd, 1), (190, .iconst 0, 1), (191, .bastore, 1), (192, .iinc 4 1, 3), (195, .goto (-23), 3), (163, .iconst 1, 1), (164, .goto 4, 3), (114, .aload_n 0, 1), (115, .iload_n 3, 1), (116, .invokevirtual 513, 3), (119, .istore 4, 2), (121, .aload_n 0, 1), (122, .aload_n 0, 1)] = true ∧ dOk cX12_closeAll [(123, .getfield 588, 3), (126, .ifCond .ne 8, 3), (134, .iconst 1, 1), (135, .goto 4, 3), (139, .putfield 588, 3), (142, .iinc 2 1, 3), (145, .aload_n 0, 1), (146, .iload_n 1, 1), (147, .invokevirtual 585, 3), (150, .istore_n 3, 1), (151, .goto (-41), 3), (129, .iload 4, 2), (131, .ifCond .eq 7, 3), (138, .iconst 0, 1), (13, .aload_n 0, 1), (14, .getfield 152, 3), (17, .iload_n 3, 1), (18, .baload, 1), (19, .ifCond .eq 59, 3), (78, .iconst 0, 1), (79, .istore 4, 2), (81, .iload_n 2, 1), (82, .iload 4, 2), (84, .ifCond .eq 11, 3)] = true ∧ dOk cX12_closeAll [(95, .iconst 0, 1), (96, .iadd, 1), (97, .istore_n 2, 1), (98, .iinc 3 (-1), 3), (101, .goto (-92), 3), (22, .aload_n 0, 1), (23, .getfield 155, 3), (26, .iload_n 1, 1), (27, .iaload, 1), (28, .ifCond .ne 16, 3), (44, .aload_n 0, 1), (45, .getfield 155, 3), (48, .iload_n 1, 1), (49, .iaload, 1), (50, .iconst 1, 1), (51, .if_icmp .ne 27, 3), (54, .aload_n 0, 1), (55, .getfield 155, 3), (58, .iload_n 3, 1), (59, .iaload, 1), (60, .iconst 2, 1), (61, .if_icmp .ne 17, 3), (64, .aload_n 0, 1), (65, .getfield 158, 3)] = true ∧ dOk cX12_closeAll [(68, .iload_n 3, 1), (69, .iaload, 1), (70, .iload_n 1, 1), (71, .if_icmp .ne 7, 3), (74, .iconst 1, 1), (75, .goto 4, 3), (87, .aload_n 0, 1), (88, .iload_n 3, 1), (89, .invokevirtual 582, 3), (92, .goto 4, 3), (31, .aload_n 0, 1), (32, .getfield 155, 3), (35, .iload_n 3, 1), (36, .iaload, 1), (37, .iconst 1, 1), (38, .if_icmp .ne 40, 3), (41, .goto 33, 3)] = true := by decide +kernel
theorem dX12_closeAll_0 : decode cX12_closeAll 0 = .ok (.iconst 0, 1) := dr9 dk9_dX12_closeAll_0_0.1 0 (0, .iconst 0, 1) rfl
theorem dX12_closeAll_1 : decode cX12_closeAll 1 = .ok (.istore_n 2, 1) := dr9 dk9_dX12_closeAll_0_0.1 1 (1, .istore_n 2, 1) rfl
theorem dX12_closeAll_2 : decode cX12_closeAll 2 = .ok (.aload_n 0, 1) := dr9 dk9_dX12_closeAll_0_0.1 2 (2, .aload_n 0, 1) rfl
theorem dX12_closeAll_3 : decode cX12_closeAll 3 = .ok (.getfield 244, 3) := dr9 dk9_dX12_closeAll_0_0.1 3 (3, .getfield 244, 3) rfl
theorem dX12_closeAll_6 : decode cX12_closeAll 6 = .ok (.iconst 1, 1) := dr9 dk9_dX12_closeAll_0_0.1 4 (6, .iconst 1, 1) rfl
theorem dX12_closeAll_7 : decode cX12_closeAll 7 = .ok (.isub, 1) := dr9 dk9_dX12_closeAll_0_0.1 5 (7, .isub, 1) rfl
theorem dX12_closeAll_8 : decode cX12_closeAll 8 = .ok (.istore_n 3, 1) := dr9 dk9_dX12_closeAll_0_0.1 6 (8, .istore_n 3, 1) rfl
theorem dX12_closeAll_9 : decode cX12_closeAll 9 = .ok (.iload_n 3, 1) := dr9 dk9_dX12_closeAll_0_0.1 7 (9, .iload_n 3, 1) rfl
theorem dX12_closeAll_10 : decode cX12_closeAll 10 = .ok (.ifCond .le 94, 3) := dr9 dk9_dX12_closeAll_0_0.1 8 (10, .ifCond .le 94, 3) rfl
theorem dX12_closeAll_104 : decode cX12_closeAll 104 = .ok (.aload_n 0, 1) := dr9 dk9_dX12_closeAll_0_0.1 9 (104, .aload_n 0, 1) rfl
theorem dX12_closeAll_105 : decode cX12_closeAll 105 = .ok (.iload_n 1, 1) := dr9 dk9_dX12_closeAll_0_0.1 10 (105, .iload_n 1, 1) rfl
theorem dX12_closeAll_106 : decode cX12_closeAll 106 = .ok (.invokevirtual 585, 3) := dr9 dk9_dX12_closeAll_0_0.1 11 (106, .invokevirtual 585, 3) rfl
theorem dX12_closeAll_109 : decode cX12_closeAll 109 = .ok (.istore_n 3, 1) := dr9 dk9_dX12_closeAll_0_0.1 12 (109, .istore_n 3, 1) rfl
theorem dX12_closeAll_110 : decode cX12_closeAll 110 = .ok (.iload_n 3, 1) := dr9 dk9_dX12_closeAll_0_0.1 13 (110, .iload_n 3, 1) rfl
theorem dX12_closeAll_111 : decode cX12_closeAll 111 = .ok (.ifCond .lt 43, 3) := dr9 dk9_dX12_closeAll_0_0.1 14 (111, .ifCond .lt 43, 3) rfl
theorem dX12_closeAll_154 : decode cX12_closeAll 154 = .ok (.aload_n 0, 1) := dr9 dk9_dX12_closeAll_0_0.1 15 (154, .aload_n 0, 1) rfl
theorem dX12_closeAll_155 : decode cX12_closeAll 155 = .ok (.getfield 152, 3) := dr9 dk9_dX12_closeAll_0_0.1 16 (155, .getfield 152, 3) rfl
theorem dX12_closeAll_158 : decode cX12_closeAll 158 = .ok (.iload_n 1, 1) := dr9 dk9_dX12_closeAll_0_0.1 17 (158, .iload_n 1, 1) rfl
theorem dX12_closeAll_159 : decode cX12_closeAll 159 = .ok (.iload_n 1, 1) := dr9 dk9_dX12_closeAll_0_0.1 18 (159, .iload_n 1, 1) rfl
theorem dX12_closeAll_160 : decode cX12_closeAll 160 = .ok (.ifCond .ne 7, 3) := dr9 dk9_dX12_closeAll_0_0.1 19 (160, .ifCond .ne 7, 3) rfl
theorem dX12_closeAll_167 : decode cX12_closeAll 167 = .ok (.iconst 0, 1) := dr9 dk9_dX12_closeAll_0_0.1 20 (167, .iconst 0, 1) rfl
theorem dX12_closeAll_168 : decode cX12_closeAll 168 = .ok (.bastore, 1) := dr9 dk9_dX12_closeAll_0_0.1 21 (168, .bastore, 1) rfl
theorem dX12_closeAll_169 : decode cX12_closeAll 169 = .ok (.iconst 0, 1) := dr9 dk9_dX12_closeAll_0_0.1 22 (169, .iconst 0, 1) rfl
theorem dX12_closeAll_170 : decode cX12_closeAll 170 = .ok (.istore 4, 2) := dr9 dk9_dX12_closeAll_0_0.1 23 (170, .istore 4, 2) rfl
theorem dX12_closeAll_172 : decode cX12_closeAll 172 = .ok (.iload 4, 2) := dr9 dk9_dX12_closeAll_0_0.2.1 0 (172, .iload 4, 2) rfl
theorem dX12_closeAll_174 : decode cX12_closeAll 174 = .ok (.bipush 24, 2) := dr9 dk9_dX12_closeAll_0_0.2.1 1 (174, .bipush 24, 2) rfl
theorem dX12_closeAll_176 : decode cX12_closeAll 176 = .ok (.if_icmp .ge 22, 3) := dr9 dk9_dX12_closeAll_0_0.2.1 2 (176, .if_icmp .ge 22, 3) rfl
theorem dX12_closeAll_198 : decode cX12_closeAll 198 = .ok (.iload_n 2, 1) := dr9 dk9_dX12_closeAll_0_0.2.1 3 (198, .iload_n 2, 1) rfl
theorem dX12_closeAll_199 : decode cX12_closeAll 199 = .ok (.ireturn, 1) := dr9 dk9_dX12_closeAll_0_0.2.1 4 (199, .ireturn, 1) rfl
theorem dX12_closeAll_179 : decode cX12_closeAll 179 = .ok (.aload_n 0, 1) := dr9 dk9_dX12_closeAll_0_0.2.1 5 (179, .aload_n 0, 1) rfl
theorem dX12_closeAll_180 : decode cX12_closeAll 180 = .ok (.getfield 161, 3) := dr9 dk9_dX12_closeAll_0_0.2.1 6 (180, .getfield 161, 3) rfl
theorem dX12_closeAll_183 : decode cX12_closeAll 183 = .ok (.bipush 24, 2) := dr9 dk9_dX12_closeAll_0_0.2.1 7 (183, .bipush 24, 2) rfl
theorem dX12_closeAll_185 : decode cX12_closeAll 185 = .ok (.iload_n 1, 1) := dr9 dk9_dX12_closeAll_0_0.2.1 8 (185, .iload_n 1, 1) rfl
theorem dX12_closeAll_186 : decode cX12_closeAll 186 = .ok (.imul, 1) := dr9 dk9_dX12_closeAll_0_0.2.1 9 (186, .imul, 1) rfl
theorem dX12_closeAll_187 : decode cX12_closeAll 187 = .ok (.iload 4, 2) := dr9 dk9_dX12_closeAll_0_0.2.1 10 (187, .iload 4, 2) rfl
theorem dX12_closeAll_189 : decode cX12_closeAll 189 = .ok (.iadd, 1) := dr9 dk9_dX12_closeAll_0_0.2.1 11 (189, .iadd, 1) rfl
theorem dX12_closeAll_190 : decode cX12_closeAll 190 = .ok (.iconst 0, 1) := dr9 dk9_dX12_closeAll_0_0.2.1 12 (190, .iconst 0, 1) rfl
theorem dX12_closeAll_191 : decode cX12_closeAll 191 = .ok (.bastore, 1) := dr9 dk9_dX12_closeAll_0_0.2.1 13 (191, .bastore, 1) rfl
theorem dX12_closeAll_192 : decode cX12_closeAll 192 = .ok (.iinc 4 1, 3) := dr9 dk9_dX12_closeAll_0_0.2.1 14 (192, .iinc 4 1, 3) rfl
theorem dX12_closeAll_195 : decode cX12_closeAll 195 = .ok (.goto (-23), 3) := dr9 dk9_dX12_closeAll_0_0.2.1 15 (195, .goto (-23), 3) rfl
theorem dX12_closeAll_163 : decode cX12_closeAll 163 = .ok (.iconst 1, 1) := dr9 dk9_dX12_closeAll_0_0.2.1 16 (163, .iconst 1, 1) rfl
theorem dX12_closeAll_164 : decode cX12_closeAll 164 = .ok (.goto 4, 3) := dr9 dk9_dX12_closeAll_0_0.2.1 17 (164, .goto 4, 3) rfl
theorem dX12_closeAll_114 : decode cX12_closeAll 114 = .ok (.aload_n 0, 1) := dr9 dk9_dX12_closeAll_0_0.2.1 18 (114, .aload_n 0, 1) rfl
theorem dX12_closeAll_115 : decode cX12_closeAll 115 = .ok (.iload_n 3, 1) := dr9 dk9_dX12_closeAll_0_0.2.1 19 (115, .iload_n 3, 1) rfl
theorem dX12_closeAll_116 : decode cX12_closeAll 116 = .ok (.invokevirtual 513, 3) := dr9 dk9_dX12_closeAll_0_0.2.1 20 (116, .invokevirtual 513, 3) rfl
theorem dX12_closeAll_119 : decode cX12_closeAll 119 = .ok (.istore 4, 2) := dr9 dk9_dX12_closeAll_0_0.2.1 21 (119, .istore 4, 2) rfl
theorem dX12_closeAll_121 : decode cX12_closeAll 121 = .ok (.aload_n 0, 1) := dr9 dk9_dX12_closeAll_0_0.2.1 22 (121, .aload_n 0, 1) rfl
theorem dX12_closeAll_122 : decode cX12_closeAll 122 = .ok (.aload_n 0, 1) := dr9 dk9_dX12_closeAll_0_0.2.1 23 (122, .aload_n 0, 1) rfl
theorem dX12_closeAll_123 : decode cX12_closeAll 123 = .ok (.getfield 588, 3) := dr9 dk9_dX12_closeAll_0_0.2.2.1 0 (123, .getfield 588, 3) rfl
theorem dX12_closeAll_126 : decode cX12_closeAll 126 = .ok (.ifCond .ne 8, 3) := dr9 dk9_dX12_closeAll_0_0.2.2.1 1 (126, .ifCond .ne 8, 3) rfl
theorem dX12_closeAll_134 : decode cX12_closeAll 134 = .ok (.iconst 1, 1) := dr9 dk9_dX12_closeAll_0_0.2.2.1 2 (134, .iconst 1, 1) rfl
theorem dX12_closeAll_135 : decode cX12_closeAll 135 = .ok (.goto 4, 3) := dr9 dk9_dX12_closeAll_0_0.2.2.1 3 (135, .goto 4, 3) rfl
theorem dX12_closeAll_139 : decode cX12_closeAll 139 = .ok (.putfield 588, 3) := dr9 dk9_dX12_closeAll_0_0.2.2.1 4 (139, .putfield 588, 3) rfl
theorem dX12_closeAll_142 : decode cX12_closeAll 142 = .ok (.iinc 2 1, 3) := dr9 dk9_dX12_closeAll_0_0.2.2.1 5 (142, .iinc 2 1, 3) rfl
theorem dX12_closeAll_145 : decode cX12_closeAll 145 = .ok (.aload_n 0, 1) := dr9 dk9_dX12_closeAll_0_0.2.2.1 6 (145, .aload_n 0, 1) rfl
theorem dX12_closeAll_146 : decode cX12_closeAll 146 = .ok (.iload_n 1, 1) := dr9 dk9_dX12_closeAll_0_0.2.2.1 7 (146, .iload_n 1, 1) rfl
theorem dX12_closeAll_147 : decode cX12_closeAll 147 = .ok (.invokevirtual 585, 3) := dr9 dk9_dX12_closeAll_0_0.2.2.1 8 (147, .invokevirtual 585, 3) rfl
theorem dX12_closeAll_150 : decode cX12_closeAll 150 = .ok (.istore_n 3, 1) := dr9 dk9_dX12_closeAll_0_0.2.2.1 9 (150, .istore_n 3, 1) rfl
theorem dX12_closeAll_151 : decode cX12_closeAll 151 = .ok (.goto (-41), 3) := dr9 dk9_dX12_closeAll_0_0.2.2.1 10 (151, .goto (-41), 3) rfl
theorem dX12_closeAll_129 : decode cX12_closeAll 129 = .ok (.iload 4, 2) := dr9 dk9_dX12_closeAll_0_0.2.2.1 11 (129, .iload 4, 2) rfl
theorem dX12_closeAll_131 : decode cX12_closeAll 131 = .ok (.ifCond .eq 7, 3) := dr9 dk9_dX12_closeAll_0_0.2.2.1 12 (131, .ifCond .eq 7, 3) rfl
theorem dX12_closeAll_138 : decode cX12_closeAll 138 = .ok (.iconst 0, 1) := dr9 dk9_dX12_closeAll_0_0.2.2.1 13 (138, .iconst 0, 1) rfl
theorem dX12_closeAll_13 : decode cX12_closeAll 13 = .ok (.aload_n 0, 1) := dr9 dk9_dX12_closeAll_0_0.2.2.1 14 (13, .aload_n 0, 1) rfl
theorem dX12_closeAll_14 : decode cX12_closeAll 14 = .ok (.getfield 152, 3) := dr9 dk9_dX12_closeAll_0_0.2.2.1 15 (14, .getfield 152, 3) rfl
theorem dX12_closeAll_17 : decode cX12_closeAll 17 = .ok (.iload_n 3, 1) := dr9 dk9_dX12_closeAll_0_0.2.2.1 16 (17, .iload_n 3, 1) rfl
theorem dX12_closeAll_18 : decode cX12_closeAll 18 = .ok (.baload, 1) := dr9 dk9_dX12_closeAll_0_0.2.2.1 17 (18, .baload, 1) rfl
theorem dX12_closeAll_19 : decode cX12_closeAll 19 = .ok (.ifCond .eq 59, 3) := dr9 dk9_dX12_closeAll_0_0.2.2.1 18 (19, .ifCond .eq 59, 3) rfl
theorem dX12_closeAll_78 : decode cX12_closeAll 78 = .ok (.iconst 0, 1) := dr9 dk9_dX12_closeAll_0_0.2.2.1 19 (78, .iconst 0, 1) rfl
theorem dX12_closeAll_79 : decode cX12_closeAll 79 = .ok (.istore 4, 2) := dr9 dk9_dX12_closeAll_0_0.2.2.1 20 (79, .istore 4, 2) rfl
theorem dX12_closeAll_81 : decode cX12_closeAll 81 = .ok (.iload_n 2, 1) := dr9 dk9_dX12_closeAll_0_0.2.2.1 21 (81, .iload_n 2, 1) rfl
theorem dX12_closeAll_82 : decode cX12_closeAll 82 = .ok (.iload 4, 2) := dr9 dk9_dX12_closeAll_0_0.2.2.1 22 (82, .iload 4, 2) rfl
theorem dX12_closeAll_84 : decode cX12_closeAll 84 = .ok (.ifCond .eq 11, 3) := dr9 dk9_dX12_closeAll_0_0.2.2.1 23 (84, .ifCond .eq 11, 3) rfl
theorem dX12_closeAll_95 : decode cX12_closeAll 95 = .ok (.iconst 0, 1) := dr9 dk9_dX12_closeAll_0_0.2.2.2.1 0 (95, .iconst 0, 1) rfl
theorem dX12_closeAll_96 : decode cX12_closeAll 96 = .ok (.iadd, 1) := dr9 dk9_dX12_closeAll_0_0.2.2.2.1 1 (96, .iadd, 1) rfl
theorem dX12_closeAll_97 : decode cX12_closeAll 97 = .ok (.istore_n 2, 1) := dr9 dk9_dX12_closeAll_0_0.2.2.2.1 2 (97, .istore_n 2, 1) rfl
theorem dX12_closeAll_98 : decode cX12_closeAll 98 = .ok (.iinc 3 (-1), 3) := dr9 dk9_dX12_closeAll_0_0.2.2.2.1 3 (98, .iinc 3 (-1), 3) rfl
theorem dX12_closeAll_101 : decode cX12_closeAll 101 = .ok (.goto (-92), 3) := dr9 dk9_dX12_closeAll_0_0.2.2.2.1 4 (101, .goto (-92), 3) rfl
theorem dX12_closeAll_22 : decode cX12_closeAll 22 = .ok (.aload_n 0, 1) := dr9 dk9_dX12_closeAll_0_0.2.2.2.1 5 (22, .aload_n 0, 1) rfl
theorem dX12_closeAll_23 : decode cX12_closeAll 23 = .ok (.getfield 155, 3) := dr9 dk9_dX12_closeAll_0_0.2.2.2.1 6 (23, .getfield 155, 3) rfl
theorem dX12_closeAll_26 : decode cX12_closeAll 26 = .ok (.iload_n 1, 1) := dr9 dk9_dX12_closeAll_0_0.2.2.2.1 7 (26, .iload_n 1, 1) rfl
theorem dX12_closeAll_27 : decode cX12_closeAll 27 = .ok (.iaload, 1) := dr9 dk9_dX12_closeAll_0_0.2.2.2.1 8 (27, .iaload, 1) rfl
theorem dX12_closeAll_28 : decode cX12_closeAll 28 = .ok (.ifCond .ne 16, 3) := dr9 dk9_dX12_closeAll_0_0.2.2.2.1 9 (28, .ifCond .ne 16, 3) rfl
theorem dX12_closeAll_44 : decode cX12_closeAll 44 = .ok (.aload_n 0, 1) := dr9 dk9_dX12_closeAll_0_0.2.2.2.1 10 (44, .aload_n 0, 1) rfl
theorem dX12_closeAll_45 : decode cX12_closeAll 45 = .ok (.getfield 155, 3) := dr9 dk9_dX12_closeAll_0_0.2.2.2.1 11 (45, .getfield 155, 3) rfl
theorem dX12_closeAll_48 : decode cX12_closeAll 48 = .ok (.iload_n 1, 1) := dr9 dk9_dX12_closeAll_0_0.2.2.2.1 12 (48, .iload_n 1, 1) rfl
theorem dX12_closeAll_49 : decode cX12_closeAll 49 = .ok (.iaload, 1) := dr9 dk9_dX12_closeAll_0_0.2.2.2.1 13 (49, .iaload, 1) rfl
theorem dX12_closeAll_50 : decode cX12_closeAll 50 = .ok (.iconst 1, 1) := dr9 dk9_dX12_closeAll_0_0.2.2.2.1 14 (50, .iconst 1, 1) rfl
theorem dX12_closeAll_51 : decode cX12_closeAll 51 = .ok (.if_icmp .ne 27, 3) := dr9 dk9_dX12_closeAll_0_0.2.2.2.1 15 (51, .if_icmp .ne 27, 3) rfl
theorem dX12_closeAll_54 : decode cX12_closeAll 54 = .ok (.aload_n 0, 1) := dr9 dk9_dX12_closeAll_0_0.2.2.2.1 16 (54, .aload_n 0, 1) rfl
theorem dX12_closeAll_55 : decode cX12_closeAll 55 = .ok (.getfield 155, 3) := dr9 dk9_dX12_closeAll_0_0.2.2.2.1 17 (55, .getfield 155, 3) rfl
theorem dX12_closeAll_58 : decode cX12_closeAll 58 = .ok (.iload_n 3, 1) := dr9 dk9_dX12_closeAll_0_0.2.2.2.1 18 (58, .iload_n 3, 1) rfl
theorem dX12_closeAll_59 : decode cX12_closeAll 59 = .ok (.iaload, 1) := dr9 dk9_dX12_closeAll_0_0.2.2.2.1 19 (59, .iaload, 1) rfl
theorem dX12_closeAll_60 : decode cX12_closeAll 60 = .ok (.iconst 2, 1) := dr9 dk9_dX12_closeAll_0_0.2.2.2.1 20 (60, .iconst 2, 1) rfl
theorem dX12_closeAll_61 : decode cX12_closeAll 61 = .ok (.if_icmp .ne 17, 3) := dr9 dk9_dX12_closeAll_0_0.2.2.2.1 21 (61, .if_icmp .ne 17, 3) rfl
theorem dX12_closeAll_64 : decode cX12_closeAll 64 = .ok (.aload_n 0, 1) := dr9 dk9_dX12_closeAll_0_0.2.2.2.1 22 (64, .aload_n 0, 1) rfl
theorem dX12_closeAll_65 : decode cX12_closeAll 65 = .ok (.getfield 158, 3) := dr9 dk9_dX12_closeAll_0_0.2.2.2.1 23 (65, .getfield 158, 3) rfl
theorem dX12_closeAll_68 : decode cX12_closeAll 68 = .ok (.iload_n 3, 1) := dr9 dk9_dX12_closeAll_0_0.2.2.2.2 0 (68, .iload_n 3, 1) rfl
theorem dX12_closeAll_69 : decode cX12_closeAll 69 = .ok (.iaload, 1) := dr9 dk9_dX12_closeAll_0_0.2.2.2.2 1 (69, .iaload, 1) rfl
theorem dX12_closeAll_70 : decode cX12_closeAll 70 = .ok (.iload_n 1, 1) := dr9 dk9_dX12_closeAll_0_0.2.2.2.2 2 (70, .iload_n 1, 1) rfl
theorem dX12_closeAll_71 : decode cX12_closeAll 71 = .ok (.if_icmp .ne 7, 3) := dr9 dk9_dX12_closeAll_0_0.2.2.2.2 3 (71, .if_icmp .ne 7, 3) rfl
theorem dX12_closeAll_74 : decode cX12_closeAll 74 = .ok (.iconst 1, 1) := dr9 dk9_dX12_closeAll_0_0.2.2.2.2 4 (74, .iconst 1, 1) rfl
theorem dX12_closeAll_75 : decode cX12_closeAll 75 = .ok (.goto 4, 3) := dr9 dk9_dX12_closeAll_0_0.2.2.2.2 5 (75, .goto 4, 3) rfl
theorem dX12_closeAll_87 : decode cX12_closeAll 87 = .ok (.aload_n 0, 1) := dr9 dk9_dX12_closeAll_0_0.2.2.2.2 6 (87, .aload_n 0, 1) rfl
theorem dX12_closeAll_88 : decode cX12_closeAll 88 = .ok (.iload_n 3, 1) := dr9 dk9_dX12_closeAll_0_0.2.2.2.2 7 (88, .iload_n 3, 1) rfl
theorem dX12_closeAll_89 : decode cX12_closeAll 89 = .ok (.invokevirtual 582, 3) := dr9 dk9_dX12_closeAll_0_0.2.2.2.2 8 (89, .invokevirtual 582, 3) rfl
theorem dX12_closeAll_92 : decode cX12_closeAll 92 = .ok (.goto 4, 3) := dr9 dk9_dX12_closeAll_0_0.2.2.2.2 9 (92, .goto 4, 3) rfl
theorem dX12_closeAll_31 : decode cX12_closeAll 31 = .ok (.aload_n 0, 1) := dr9 dk9_dX12_closeAll_0_0.2.2.2.2 10 (31, .aload_n 0, 1) rfl
theorem dX12_closeAll_32 : decode cX12_closeAll 32 = .ok (.getfield 155, 3) := dr9 dk9_dX12_closeAll_0_0.2.2.2.2 11 (32, .getfield 155, 3) rfl
theorem dX12_closeAll_35 : decode cX12_closeAll 35 = .ok (.iload_n 3, 1) := dr9 dk9_dX12_closeAll_0_0.2.2.2.2 12 (35, .iload_n 3, 1) rfl
theorem dX12_closeAll_36 : decode cX12_closeAll 36 = .ok (.iaload, 1) := dr9 dk9_dX12_closeAll_0_0.2.2.2.2 13 (36, .iaload, 1) rfl
theorem dX12_closeAll_37 : decode cX12_closeAll 37 = .ok (.iconst 1, 1) := dr9 dk9_dX12_closeAll_0_0.2.2.2.2 14 (37, .iconst 1, 1) rfl
theorem dX12_closeAll_38 : decode cX12_closeAll 38 = .ok (.if_icmp .ne 40, 3) := dr9 dk9_dX12_closeAll_0_0.2.2.2.2 15 (38, .if_icmp .ne 40, 3) rfl
theorem dX12_closeAll_41 : decode cX12_closeAll 41 = .ok (.goto 33, 3) := dr9 dk9_dX12_closeAll_0_0.2.2.2.2 16 (41, .goto 33, 3) rfl
abbrev r_s_callsT : Room := { frames := 1608, cells := 0, slots := 0, locals := 40320 }
abbrev q_s_callsT (D : va_G) (ks : KS) (ad : Nat → Nat) (kk : Nat → ClassId) (V : Vf) (L : Lf) (p0 : Int32) (p1 : Int32) (p2 : Int32) (p3 : Int32) (A : Nat → Prop) : Array Value → State → Outcome → State → Prop := q_s_calls D ks ad kk V L p0 p1 p2 p3 A
abbrev r_s_getsWholeT : Room := { frames := 1616, cells := 0, slots := 0, locals := 40620 }
abbrev q_s_getsWholeT (D : va_G) (ks : KS) (ad : Nat → Nat) (kk : Nat → ClassId) (V : Vf) (L : Lf) (p0 : Int32) (p1 : Int32) (A : Nat → Prop) : Array Value → State → Outcome → State → Prop := q_s_getsWhole D ks ad kk V L p0 p1 A
abbrev r_s_closesT : Room := { frames := 1613, cells := 0, slots := 0, locals := 40500 }
abbrev q_s_closesT (D : va_G) (ks : KS) (ad : Nat → Nat) (kk : Nat → ClassId) (V : Vf) (L : Lf) (p0 : Int32) (A : Nat → Prop) : Array Value → State → Outcome → State → Prop := q_s_closes D ks ad kk V L p0 A
abbrev r_s_begins2 : Room := { frames := 0, cells := 0, slots := 0, locals := 0 }
abbrev q_s_begins2 (D : va_G) (ks : KS) (ad : Nat → Nat) (kk : Nat → ClassId) (V : Vf) (L : Lf) (A : Nat → Prop) : Array Value → State → Outcome → State → Prop := va_Qv (fun (u : Vf × Lf) => rgd bM u.1 ∧ agr [(0, 69), (0, 71), (0, 72), (0, 93), (0, 95), (0, 98)] [] V u.1 ∧ u.2 = L ∧ ((u.1 0 69).toInt = 0) ∧ ((u.1 0 93).toInt = 0) ∧ ((u.1 0 98).toInt = 0) ∧ ((u.1 0 95).toInt = 0)) (fun u t => gq D A (mw ad kk ks.1 u.1 u.2) (mty kk) t) A
abbrev r_s_latestIn2 : Room := { frames := 0, cells := 0, slots := 0, locals := 0 }
abbrev q_s_latestIn2 (D : va_G) (ks : KS) (ad : Nat → Nat) (kk : Nat → ClassId) (V : Vf) (L : Lf) (p0 : Int32) (A : Nat → Prop) : Array Value → State → Outcome → State → Prop := va_Qi (fun (r : Int32) (_ : Unit) => ((-1) ≤ r.toInt ∧ r.toInt ≤ 299) ∧ (r.toInt < (V 0 60).toInt) ∧ (Imp (0 ≤ r.toInt) ((V 63 (Int32.toNatClampNeg r)).toInt = 1))) (fun _ t => gq D A (mw ad kk ks.1 V L) (mty kk) t) A
abbrev q_s_closeAll (D : va_G) (ks : KS) (ad : Nat → Nat) (kk : Nat → ClassId) (V : Vf) (L : Lf) (p0 : Int32) (A : Nat → Prop) : Array Value → State → Outcome → State → Prop := va_Qi (fun (r : Int32) (u : Vf × Lf) => rgd bM u.1 ∧ agr [(0, 60), (0, 65), (0, 68), (0, 69), (0, 73), (0, 76), (0, 90), (0, 91), (0, 92), (0, 93), (0, 95), (0, 96), (0, 98), (0, 99)] [56, 59, 61, 62, 63, 64, 66, 67, 74, 75, 77, 78, 79, 80, 94, 97] V u.1 ∧ u.2 = L ∧ ((u.1 0 93).toInt = (V 0 93).toInt) ∧ ((u.1 0 98).toInt = (V 0 98).toInt) ∧ ((u.1 0 65).toInt ≤ (u.1 0 60).toInt) ∧ ((u.1 0 73).toInt - (u.1 0 65).toInt + (mu u.1 : Int) ≤ (V 0 73).toInt - (V 0 65).toInt + (mu V : Int)) ∧ ((u.1 0 76).toInt - (u.1 0 69).toInt - (u.1 0 73).toInt ≤ (V 0 76).toInt - (V 0 69).toInt - (V 0 73).toInt) ∧ (RT0 u.1)) (fun u t => gq D A (mw ad kk ks.1 u.1 u.2) (mty kk) t) A
def K_s_closeAll (l : Launch) (D : va_G) (ks : KS) (d3 : Nat) : Prop := ∀ (sz : Nat) (ad : Nat → Nat) (kk : Nat → ClassId) (V : Vf) (L : Lf) (p0 : Int32) (hMV : rgd bM V) (rg_p0 : 0 ≤ p0.toInt ∧ p0.toInt ≤ 39) (r0 : RT0 V) (n1 : (V 0 65).toInt ≤ (V 0 60).toInt) (n3 : (V 0 73).toInt - (V 0 65).toInt + (mu V : Int) ≤ 998000) (n4 : (V 0 76).toInt - (V 0 69).toInt - (V 0 73).toInt ≤ 1000000000) (m5 : (V 0 98).toInt = 0) (m6 : (V 0 93).toInt = 0) (c1 : 2 ≤ (d3 : Int) ∨ ((V 57 (Int32.toNatClampNeg p0)).toInt ≠ 0 ∧ (1 ≤ (d3 : Int) ∨ (V 57 (Int32.toNatClampNeg p0)).toInt ≠ 1))) , Met l yX12_closeAll (Cond.code yX12_closeAll cX12_closeAll 5 (some .int) :: GW) (rK2 (2 * d3 + 1616) (40 * d3 + 40600)) (va_Pc [.ref (ad 0), .int p0] (gp D ks (mw ad kk ks.1 V L) (mty kk) sz)) (q_s_closeAll D ks ad kk V L p0 (va_A (mw ad kk ks.1 V L) sz)) 0 0 (va_A (mw ad kk ks.1 V L) sz)
end
section
theorem w2234 : Cond.code yX12_begins_ cX12_begins_ 1 none ∈ GW := gw_k tk9_9 159 (rfl) rfl
theorem w2231 : Cond.methodLink RX12 577 yX12_begins_ ∈ GW := gw_k tk9_9 156 (by decide +kernel) rfl
theorem w2233 : Cond.instanceMethod yX12_begins_ ∈ GW := gw_k tk9_9 158 (by decide +kernel) rfl
theorem w127 : Cond.selects RX12 yX12_begins_ yX12_begins_ ∈ GW := gw_mem 127 (by decide +kernel) rfl
theorem hdV_yX12_begins_ : yX12_begins_.cls = RX12 ∧ yX12_begins_.cls ≠ "java/lang/invoke/MethodHandle" ∧ yX12_begins_.cls ≠ "java/lang/invoke/VarHandle" ∧ (parseMethodDescriptor yX12_begins_.desc).map (fun d => d.parameters.length) = some 0 := by decide +kernel
theorem w2335 : Cond.code yX12_ends cX12_ends 2 (some .boolean) ∈ GW := gw_k tk9_10 20 (rfl) rfl
theorem w2332 : Cond.methodLink RX12 579 yX12_ends ∈ GW := gw_k tk9_10 17 (by decide +kernel) rfl
theorem w2334 : Cond.instanceMethod yX12_ends ∈ GW := gw_k tk9_10 19 (by decide +kernel) rfl
theorem w152 : Cond.selects RX12 yX12_ends yX12_ends ∈ GW := gw_mem 152 (by decide +kernel) rfl
theorem hdV_yX12_ends : yX12_ends.cls = RX12 ∧ yX12_ends.cls ≠ "java/lang/invoke/MethodHandle" ∧ yX12_ends.cls ≠ "java/lang/invoke/VarHandle" ∧ (parseMethodDescriptor yX12_ends.desc).map (fun d => d.parameters.length) = some 1 := by decide +kernel
theorem dk9_dX12_close_0_0 : dOk cX12_close [(0, .aload_n 0, 1), (1, .iconst 0, 1), (2, .putfield 1, 3), (5, .aload_n 0, 1), (6, .getfield 426, 3), (9, .istore_n 2, 1), (10, .aload_n 0, 1), (11, .getfield 429, 3), (14, .istore_n 3, 1), (15, .aload_n 0, 1), (16, .invokevirtual 577, 3), (19, .aload_n 0, 1), (20, .iload_n 2, 1), (21, .putfield 426, 3), (24, .aload_n 0, 1), (25, .iload_n 3, 1), (26, .putfield 429, 3), (29, .aload_n 0, 1), (30, .iload_n 1, 1), (31, .invokevirtual 574, 3), (34, .ifCond .ne 10, 3), (44, .aload_n 0, 1), (45, .iconst 0, 1), (46, .putfield 588, 3)] = true ∧ dOk cX12_close [(49, .aload_n 0, 1), (50, .iload_n 1, 1), (51, .invokevirtual 582, 3), (54, .istore 4, 2), (56, .aload_n 0, 1), (57, .aload_n 0, 1), (58, .getfield 588, 3), (61, .ifCond .eq 8, 3), (69, .iconst 0, 1), (70, .putfield 423, 3), (73, .aload_n 0, 1), (74, .getfield 588, 3), (77, .ifCond .eq 7, 3), (84, .iload 4, 2), (86, .ireturn, 1), (64, .bipush 6, 2), (66, .goto 4, 3), (80, .iconst (-1), 1), (81, .goto 5, 3), (37, .aload_n 0, 1), (38, .iconst 3, 1), (39, .putfield 423, 3), (42, .iconst (-1), 1), (43, .ireturn, 1)] = true := by decide +kernel
theorem dX12_close_0 : decode cX12_close 0 = .ok (.aload_n 0, 1) := dr9 dk9_dX12_close_0_0.1 0 (0, .aload_n 0, 1) rfl
theorem dX12_close_1 : decode cX12_close 1 = .ok (.iconst 0, 1) := dr9 dk9_dX12_close_0_0.1 1 (1, .iconst 0, 1) rfl
theorem dX12_close_2 : decode cX12_close 2 = .ok (.putfield 1, 3) := dr9 dk9_dX12_close_0_0.1 2 (2, .putfield 1, 3) rfl
theorem dX12_close_5 : decode cX12_close 5 = .ok (.aload_n 0, 1) := dr9 dk9_dX12_close_0_0.1 3 (5, .aload_n 0, 1) rfl
theorem dX12_close_6 : decode cX12_close 6 = .ok (.getfield 426, 3) := dr9 dk9_dX12_close_0_0.1 4 (6, .getfield 426, 3) rfl
theorem dX12_close_9 : decode cX12_close 9 = .ok (.istore_n 2, 1) := dr9 dk9_dX12_close_0_0.1 5 (9, .istore_n 2, 1) rfl
theorem dX12_close_10 : decode cX12_close 10 = .ok (.aload_n 0, 1) := dr9 dk9_dX12_close_0_0.1 6 (10, .aload_n 0, 1) rfl
theorem dX12_close_11 : decode cX12_close 11 = .ok (.getfield 429, 3) := dr9 dk9_dX12_close_0_0.1 7 (11, .getfield 429, 3) rfl
theorem dX12_close_14 : decode cX12_close 14 = .ok (.istore_n 3, 1) := dr9 dk9_dX12_close_0_0.1 8 (14, .istore_n 3, 1) rfl
theorem dX12_close_15 : decode cX12_close 15 = .ok (.aload_n 0, 1) := dr9 dk9_dX12_close_0_0.1 9 (15, .aload_n 0, 1) rfl
theorem dX12_close_16 : decode cX12_close 16 = .ok (.invokevirtual 577, 3) := dr9 dk9_dX12_close_0_0.1 10 (16, .invokevirtual 577, 3) rfl
theorem dX12_close_19 : decode cX12_close 19 = .ok (.aload_n 0, 1) := dr9 dk9_dX12_close_0_0.1 11 (19, .aload_n 0, 1) rfl
theorem dX12_close_20 : decode cX12_close 20 = .ok (.iload_n 2, 1) := dr9 dk9_dX12_close_0_0.1 12 (20, .iload_n 2, 1) rfl
theorem dX12_close_21 : decode cX12_close 21 = .ok (.putfield 426, 3) := dr9 dk9_dX12_close_0_0.1 13 (21, .putfield 426, 3) rfl
theorem dX12_close_24 : decode cX12_close 24 = .ok (.aload_n 0, 1) := dr9 dk9_dX12_close_0_0.1 14 (24, .aload_n 0, 1) rfl
theorem dX12_close_25 : decode cX12_close 25 = .ok (.iload_n 3, 1) := dr9 dk9_dX12_close_0_0.1 15 (25, .iload_n 3, 1) rfl
theorem dX12_close_26 : decode cX12_close 26 = .ok (.putfield 429, 3) := dr9 dk9_dX12_close_0_0.1 16 (26, .putfield 429, 3) rfl
theorem dX12_close_29 : decode cX12_close 29 = .ok (.aload_n 0, 1) := dr9 dk9_dX12_close_0_0.1 17 (29, .aload_n 0, 1) rfl
theorem dX12_close_30 : decode cX12_close 30 = .ok (.iload_n 1, 1) := dr9 dk9_dX12_close_0_0.1 18 (30, .iload_n 1, 1) rfl
theorem dX12_close_31 : decode cX12_close 31 = .ok (.invokevirtual 574, 3) := dr9 dk9_dX12_close_0_0.1 19 (31, .invokevirtual 574, 3) rfl
theorem dX12_close_34 : decode cX12_close 34 = .ok (.ifCond .ne 10, 3) := dr9 dk9_dX12_close_0_0.1 20 (34, .ifCond .ne 10, 3) rfl
theorem dX12_close_44 : decode cX12_close 44 = .ok (.aload_n 0, 1) := dr9 dk9_dX12_close_0_0.1 21 (44, .aload_n 0, 1) rfl
theorem dX12_close_45 : decode cX12_close 45 = .ok (.iconst 0, 1) := dr9 dk9_dX12_close_0_0.1 22 (45, .iconst 0, 1) rfl
theorem dX12_close_46 : decode cX12_close 46 = .ok (.putfield 588, 3) := dr9 dk9_dX12_close_0_0.1 23 (46, .putfield 588, 3) rfl
theorem dX12_close_49 : decode cX12_close 49 = .ok (.aload_n 0, 1) := dr9 dk9_dX12_close_0_0.2 0 (49, .aload_n 0, 1) rfl
theorem dX12_close_50 : decode cX12_close 50 = .ok (.iload_n 1, 1) := dr9 dk9_dX12_close_0_0.2 1 (50, .iload_n 1, 1) rfl
theorem dX12_close_51 : decode cX12_close 51 = .ok (.invokevirtual 582, 3) := dr9 dk9_dX12_close_0_0.2 2 (51, .invokevirtual 582, 3) rfl
theorem dX12_close_54 : decode cX12_close 54 = .ok (.istore 4, 2) := dr9 dk9_dX12_close_0_0.2 3 (54, .istore 4, 2) rfl
theorem dX12_close_56 : decode cX12_close 56 = .ok (.aload_n 0, 1) := dr9 dk9_dX12_close_0_0.2 4 (56, .aload_n 0, 1) rfl
theorem dX12_close_57 : decode cX12_close 57 = .ok (.aload_n 0, 1) := dr9 dk9_dX12_close_0_0.2 5 (57, .aload_n 0, 1) rfl
theorem dX12_close_58 : decode cX12_close 58 = .ok (.getfield 588, 3) := dr9 dk9_dX12_close_0_0.2 6 (58, .getfield 588, 3) rfl
theorem dX12_close_61 : decode cX12_close 61 = .ok (.ifCond .eq 8, 3) := dr9 dk9_dX12_close_0_0.2 7 (61, .ifCond .eq 8, 3) rfl
theorem dX12_close_69 : decode cX12_close 69 = .ok (.iconst 0, 1) := dr9 dk9_dX12_close_0_0.2 8 (69, .iconst 0, 1) rfl
theorem dX12_close_70 : decode cX12_close 70 = .ok (.putfield 423, 3) := dr9 dk9_dX12_close_0_0.2 9 (70, .putfield 423, 3) rfl
theorem dX12_close_73 : decode cX12_close 73 = .ok (.aload_n 0, 1) := dr9 dk9_dX12_close_0_0.2 10 (73, .aload_n 0, 1) rfl
theorem dX12_close_74 : decode cX12_close 74 = .ok (.getfield 588, 3) := dr9 dk9_dX12_close_0_0.2 11 (74, .getfield 588, 3) rfl
theorem dX12_close_77 : decode cX12_close 77 = .ok (.ifCond .eq 7, 3) := dr9 dk9_dX12_close_0_0.2 12 (77, .ifCond .eq 7, 3) rfl
theorem dX12_close_84 : decode cX12_close 84 = .ok (.iload 4, 2) := dr9 dk9_dX12_close_0_0.2 13 (84, .iload 4, 2) rfl
theorem dX12_close_86 : decode cX12_close 86 = .ok (.ireturn, 1) := dr9 dk9_dX12_close_0_0.2 14 (86, .ireturn, 1) rfl
theorem dX12_close_64 : decode cX12_close 64 = .ok (.bipush 6, 2) := dr9 dk9_dX12_close_0_0.2 15 (64, .bipush 6, 2) rfl
theorem dX12_close_66 : decode cX12_close 66 = .ok (.goto 4, 3) := dr9 dk9_dX12_close_0_0.2 16 (66, .goto 4, 3) rfl
theorem dX12_close_80 : decode cX12_close 80 = .ok (.iconst (-1), 1) := dr9 dk9_dX12_close_0_0.2 17 (80, .iconst (-1), 1) rfl
theorem dX12_close_81 : decode cX12_close 81 = .ok (.goto 5, 3) := dr9 dk9_dX12_close_0_0.2 18 (81, .goto 5, 3) rfl
theorem dX12_close_37 : decode cX12_close 37 = .ok (.aload_n 0, 1) := dr9 dk9_dX12_close_0_0.2 19 (37, .aload_n 0, 1) rfl
theorem dX12_close_38 : decode cX12_close 38 = .ok (.iconst 3, 1) := dr9 dk9_dX12_close_0_0.2 20 (38, .iconst 3, 1) rfl
theorem dX12_close_39 : decode cX12_close 39 = .ok (.putfield 423, 3) := dr9 dk9_dX12_close_0_0.2 21 (39, .putfield 423, 3) rfl
theorem dX12_close_42 : decode cX12_close 42 = .ok (.iconst (-1), 1) := dr9 dk9_dX12_close_0_0.2 22 (42, .iconst (-1), 1) rfl
theorem dX12_close_43 : decode cX12_close 43 = .ok (.ireturn, 1) := dr9 dk9_dX12_close_0_0.2 23 (43, .ireturn, 1) rfl
theorem dk9_dX12_get_0_0 : dOk cX12_get [(0, .aload_n 0, 1), (1, .iconst 0, 1), (2, .putfield 1, 3), (5, .aload_n 0, 1), (6, .invokevirtual 577, 3), (9, .aload_n 0, 1), (10, .getfield 408, 3), (13, .ifCond .eq 19, 3), (32, .aload_n 0, 1), (33, .aload_n 0, 1), (34, .getfield 408, 3), (37, .ifCond .ne 7, 3), (40, .iconst 4, 1), (41, .goto 16, 3), (57, .putfield 423, 3), (60, .iconst (-1), 1), (61, .ireturn, 1), (16, .aload_n 0, 1), (17, .iload_n 1, 1), (18, .invokevirtual 574, 3), (21, .ifCond .eq 11, 3), (44, .aload_n 0, 1), (45, .iload_n 1, 1), (46, .invokevirtual 574, 3)] = true ∧ dOk cX12_get [(49, .ifCond .ne 7, 3), (56, .iconst 4, 1), (52, .iconst 3, 1), (53, .goto 4, 3), (24, .aload_n 0, 1), (25, .iload_n 2, 1), (26, .invokevirtual 438, 3), (29, .ifCond .ne 33, 3), (62, .aload_n 0, 1), (63, .aload_n 0, 1), (64, .iload_n 2, 1), (65, .iload_n 1, 1), (66, .invokevirtual 568, 3), (69, .invokevirtual 579, 3), (72, .ifCond .eq 10, 3), (82, .iconst (-1), 1), (83, .ireturn, 1), (75, .aload_n 0, 1), (76, .getfield 490, 3), (79, .goto 4, 3)] = true := by decide +kernel
theorem dX12_get_0 : decode cX12_get 0 = .ok (.aload_n 0, 1) := dr9 dk9_dX12_get_0_0.1 0 (0, .aload_n 0, 1) rfl
theorem dX12_get_1 : decode cX12_get 1 = .ok (.iconst 0, 1) := dr9 dk9_dX12_get_0_0.1 1 (1, .iconst 0, 1) rfl
theorem dX12_get_2 : decode cX12_get 2 = .ok (.putfield 1, 3) := dr9 dk9_dX12_get_0_0.1 2 (2, .putfield 1, 3) rfl
theorem dX12_get_5 : decode cX12_get 5 = .ok (.aload_n 0, 1) := dr9 dk9_dX12_get_0_0.1 3 (5, .aload_n 0, 1) rfl
theorem dX12_get_6 : decode cX12_get 6 = .ok (.invokevirtual 577, 3) := dr9 dk9_dX12_get_0_0.1 4 (6, .invokevirtual 577, 3) rfl
theorem dX12_get_9 : decode cX12_get 9 = .ok (.aload_n 0, 1) := dr9 dk9_dX12_get_0_0.1 5 (9, .aload_n 0, 1) rfl
theorem dX12_get_10 : decode cX12_get 10 = .ok (.getfield 408, 3) := dr9 dk9_dX12_get_0_0.1 6 (10, .getfield 408, 3) rfl
theorem dX12_get_13 : decode cX12_get 13 = .ok (.ifCond .eq 19, 3) := dr9 dk9_dX12_get_0_0.1 7 (13, .ifCond .eq 19, 3) rfl
theorem dX12_get_32 : decode cX12_get 32 = .ok (.aload_n 0, 1) := dr9 dk9_dX12_get_0_0.1 8 (32, .aload_n 0, 1) rfl
theorem dX12_get_33 : decode cX12_get 33 = .ok (.aload_n 0, 1) := dr9 dk9_dX12_get_0_0.1 9 (33, .aload_n 0, 1) rfl
theorem dX12_get_34 : decode cX12_get 34 = .ok (.getfield 408, 3) := dr9 dk9_dX12_get_0_0.1 10 (34, .getfield 408, 3) rfl
theorem dX12_get_37 : decode cX12_get 37 = .ok (.ifCond .ne 7, 3) := dr9 dk9_dX12_get_0_0.1 11 (37, .ifCond .ne 7, 3) rfl
theorem dX12_get_40 : decode cX12_get 40 = .ok (.iconst 4, 1) := dr9 dk9_dX12_get_0_0.1 12 (40, .iconst 4, 1) rfl
theorem dX12_get_41 : decode cX12_get 41 = .ok (.goto 16, 3) := dr9 dk9_dX12_get_0_0.1 13 (41, .goto 16, 3) rfl
theorem dX12_get_57 : decode cX12_get 57 = .ok (.putfield 423, 3) := dr9 dk9_dX12_get_0_0.1 14 (57, .putfield 423, 3) rfl
theorem dX12_get_60 : decode cX12_get 60 = .ok (.iconst (-1), 1) := dr9 dk9_dX12_get_0_0.1 15 (60, .iconst (-1), 1) rfl
theorem dX12_get_61 : decode cX12_get 61 = .ok (.ireturn, 1) := dr9 dk9_dX12_get_0_0.1 16 (61, .ireturn, 1) rfl
theorem dX12_get_16 : decode cX12_get 16 = .ok (.aload_n 0, 1) := dr9 dk9_dX12_get_0_0.1 17 (16, .aload_n 0, 1) rfl
theorem dX12_get_17 : decode cX12_get 17 = .ok (.iload_n 1, 1) := dr9 dk9_dX12_get_0_0.1 18 (17, .iload_n 1, 1) rfl
theorem dX12_get_18 : decode cX12_get 18 = .ok (.invokevirtual 574, 3) := dr9 dk9_dX12_get_0_0.1 19 (18, .invokevirtual 574, 3) rfl
theorem dX12_get_21 : decode cX12_get 21 = .ok (.ifCond .eq 11, 3) := dr9 dk9_dX12_get_0_0.1 20 (21, .ifCond .eq 11, 3) rfl
theorem dX12_get_44 : decode cX12_get 44 = .ok (.aload_n 0, 1) := dr9 dk9_dX12_get_0_0.1 21 (44, .aload_n 0, 1) rfl
theorem dX12_get_45 : decode cX12_get 45 = .ok (.iload_n 1, 1) := dr9 dk9_dX12_get_0_0.1 22 (45, .iload_n 1, 1) rfl
theorem dX12_get_46 : decode cX12_get 46 = .ok (.invokevirtual 574, 3) := dr9 dk9_dX12_get_0_0.1 23 (46, .invokevirtual 574, 3) rfl
theorem dX12_get_49 : decode cX12_get 49 = .ok (.ifCond .ne 7, 3) := dr9 dk9_dX12_get_0_0.2 0 (49, .ifCond .ne 7, 3) rfl
theorem dX12_get_56 : decode cX12_get 56 = .ok (.iconst 4, 1) := dr9 dk9_dX12_get_0_0.2 1 (56, .iconst 4, 1) rfl
theorem dX12_get_52 : decode cX12_get 52 = .ok (.iconst 3, 1) := dr9 dk9_dX12_get_0_0.2 2 (52, .iconst 3, 1) rfl
theorem dX12_get_53 : decode cX12_get 53 = .ok (.goto 4, 3) := dr9 dk9_dX12_get_0_0.2 3 (53, .goto 4, 3) rfl
theorem dX12_get_24 : decode cX12_get 24 = .ok (.aload_n 0, 1) := dr9 dk9_dX12_get_0_0.2 4 (24, .aload_n 0, 1) rfl
theorem dX12_get_25 : decode cX12_get 25 = .ok (.iload_n 2, 1) := dr9 dk9_dX12_get_0_0.2 5 (25, .iload_n 2, 1) rfl
theorem dX12_get_26 : decode cX12_get 26 = .ok (.invokevirtual 438, 3) := dr9 dk9_dX12_get_0_0.2 6 (26, .invokevirtual 438, 3) rfl
theorem dX12_get_29 : decode cX12_get 29 = .ok (.ifCond .ne 33, 3) := dr9 dk9_dX12_get_0_0.2 7 (29, .ifCond .ne 33, 3) rfl
theorem dX12_get_62 : decode cX12_get 62 = .ok (.aload_n 0, 1) := dr9 dk9_dX12_get_0_0.2 8 (62, .aload_n 0, 1) rfl
theorem dX12_get_63 : decode cX12_get 63 = .ok (.aload_n 0, 1) := dr9 dk9_dX12_get_0_0.2 9 (63, .aload_n 0, 1) rfl
theorem dX12_get_64 : decode cX12_get 64 = .ok (.iload_n 2, 1) := dr9 dk9_dX12_get_0_0.2 10 (64, .iload_n 2, 1) rfl
theorem dX12_get_65 : decode cX12_get 65 = .ok (.iload_n 1, 1) := dr9 dk9_dX12_get_0_0.2 11 (65, .iload_n 1, 1) rfl
theorem dX12_get_66 : decode cX12_get 66 = .ok (.invokevirtual 568, 3) := dr9 dk9_dX12_get_0_0.2 12 (66, .invokevirtual 568, 3) rfl
theorem dX12_get_69 : decode cX12_get 69 = .ok (.invokevirtual 579, 3) := dr9 dk9_dX12_get_0_0.2 13 (69, .invokevirtual 579, 3) rfl
theorem dX12_get_72 : decode cX12_get 72 = .ok (.ifCond .eq 10, 3) := dr9 dk9_dX12_get_0_0.2 14 (72, .ifCond .eq 10, 3) rfl
theorem dX12_get_82 : decode cX12_get 82 = .ok (.iconst (-1), 1) := dr9 dk9_dX12_get_0_0.2 15 (82, .iconst (-1), 1) rfl
theorem dX12_get_83 : decode cX12_get 83 = .ok (.ireturn, 1) := dr9 dk9_dX12_get_0_0.2 16 (83, .ireturn, 1) rfl
theorem dX12_get_75 : decode cX12_get 75 = .ok (.aload_n 0, 1) := dr9 dk9_dX12_get_0_0.2 17 (75, .aload_n 0, 1) rfl
theorem dX12_get_76 : decode cX12_get 76 = .ok (.getfield 490, 3) := dr9 dk9_dX12_get_0_0.2 18 (76, .getfield 490, 3) rfl
theorem dX12_get_79 : decode cX12_get 79 = .ok (.goto 4, 3) := dr9 dk9_dX12_get_0_0.2 19 (79, .goto 4, 3) rfl
theorem dk9_dX12_call_0_0 : dOk cX12_call [(0, .aload_n 0, 1), (1, .iconst 0, 1), (2, .putfield 1, 3), (5, .aload_n 0, 1), (6, .invokevirtual 577, 3), (9, .aload_n 0, 1), (10, .iconst 0, 1), (11, .putfield 420, 3), (14, .iload_n 2, 1), (15, .ifCond .lt 42, 3), (57, .iconst 0, 1), (58, .istore 5, 2), (60, .aload_n 0, 1), (61, .getfield 408, 3), (64, .ifCond .eq 16, 3), (80, .aload_n 0, 1), (81, .aload_n 0, 1), (82, .getfield 408, 3), (85, .ifCond .ne 7, 3), (88, .iconst 4, 1), (89, .goto 16, 3), (105, .putfield 423, 3), (108, .iconst 0, 1), (109, .ireturn, 1)] = true ∧ dOk cX12_call [(67, .aload_n 0, 1), (68, .iload_n 1, 1), (69, .invokevirtual 574, 3), (72, .ifCond .eq 8, 3), (92, .aload_n 0, 1), (93, .iload_n 1, 1), (94, .invokevirtual 574, 3), (97, .ifCond .ne 7, 3), (104, .iconst 4, 1), (100, .iconst 3, 1), (101, .goto 4, 3), (75, .iload 5, 2), (77, .ifCond .ne 33, 3), (18, .iload_n 2, 1), (19, .aload_n 0, 1), (20, .getfield 411, 3), (23, .if_icmp .ge 34, 3), (26, .aload_n 0, 1), (27, .getfield 170, 3), (30, .iload_n 2, 1), (31, .iaload, 1), (32, .iconst 1, 1), (33, .if_icmp .ne 24, 3), (36, .iload_n 3, 1)] = true ∧ dOk cX12_call [(37, .ifCond .lt 20, 3), (40, .iload_n 3, 1), (41, .aload_n 0, 1), (42, .getfield 110, 3), (45, .aload_n 0, 1), (46, .getfield 286, 3), (49, .iaload, 1), (50, .if_icmp .ge 7, 3), (53, .iconst 1, 1), (54, .goto 4, 3), (110, .aload_n 0, 1), (111, .aload_n 0, 1), (112, .iload_n 2, 1), (113, .iload_n 3, 1), (114, .iload_n 1, 1), (115, .iload 4, 2), (117, .invokevirtual 566, 3), (120, .invokevirtual 579, 3), (123, .ifCond .eq 10, 3), (133, .iconst 0, 1), (134, .ireturn, 1), (126, .aload_n 0, 1), (127, .getfield 545, 3), (130, .goto 4, 3)] = true := by decide +kernel
theorem dX12_call_0 : decode cX12_call 0 = .ok (.aload_n 0, 1) := dr9 dk9_dX12_call_0_0.1 0 (0, .aload_n 0, 1) rfl
theorem dX12_call_1 : decode cX12_call 1 = .ok (.iconst 0, 1) := dr9 dk9_dX12_call_0_0.1 1 (1, .iconst 0, 1) rfl
theorem dX12_call_2 : decode cX12_call 2 = .ok (.putfield 1, 3) := dr9 dk9_dX12_call_0_0.1 2 (2, .putfield 1, 3) rfl
theorem dX12_call_5 : decode cX12_call 5 = .ok (.aload_n 0, 1) := dr9 dk9_dX12_call_0_0.1 3 (5, .aload_n 0, 1) rfl
theorem dX12_call_6 : decode cX12_call 6 = .ok (.invokevirtual 577, 3) := dr9 dk9_dX12_call_0_0.1 4 (6, .invokevirtual 577, 3) rfl
theorem dX12_call_9 : decode cX12_call 9 = .ok (.aload_n 0, 1) := dr9 dk9_dX12_call_0_0.1 5 (9, .aload_n 0, 1) rfl
theorem dX12_call_10 : decode cX12_call 10 = .ok (.iconst 0, 1) := dr9 dk9_dX12_call_0_0.1 6 (10, .iconst 0, 1) rfl
theorem dX12_call_11 : decode cX12_call 11 = .ok (.putfield 420, 3) := dr9 dk9_dX12_call_0_0.1 7 (11, .putfield 420, 3) rfl
theorem dX12_call_14 : decode cX12_call 14 = .ok (.iload_n 2, 1) := dr9 dk9_dX12_call_0_0.1 8 (14, .iload_n 2, 1) rfl
theorem dX12_call_15 : decode cX12_call 15 = .ok (.ifCond .lt 42, 3) := dr9 dk9_dX12_call_0_0.1 9 (15, .ifCond .lt 42, 3) rfl
theorem dX12_call_57 : decode cX12_call 57 = .ok (.iconst 0, 1) := dr9 dk9_dX12_call_0_0.1 10 (57, .iconst 0, 1) rfl
theorem dX12_call_58 : decode cX12_call 58 = .ok (.istore 5, 2) := dr9 dk9_dX12_call_0_0.1 11 (58, .istore 5, 2) rfl
theorem dX12_call_60 : decode cX12_call 60 = .ok (.aload_n 0, 1) := dr9 dk9_dX12_call_0_0.1 12 (60, .aload_n 0, 1) rfl
theorem dX12_call_61 : decode cX12_call 61 = .ok (.getfield 408, 3) := dr9 dk9_dX12_call_0_0.1 13 (61, .getfield 408, 3) rfl
theorem dX12_call_64 : decode cX12_call 64 = .ok (.ifCond .eq 16, 3) := dr9 dk9_dX12_call_0_0.1 14 (64, .ifCond .eq 16, 3) rfl
theorem dX12_call_80 : decode cX12_call 80 = .ok (.aload_n 0, 1) := dr9 dk9_dX12_call_0_0.1 15 (80, .aload_n 0, 1) rfl
theorem dX12_call_81 : decode cX12_call 81 = .ok (.aload_n 0, 1) := dr9 dk9_dX12_call_0_0.1 16 (81, .aload_n 0, 1) rfl
theorem dX12_call_82 : decode cX12_call 82 = .ok (.getfield 408, 3) := dr9 dk9_dX12_call_0_0.1 17 (82, .getfield 408, 3) rfl
theorem dX12_call_85 : decode cX12_call 85 = .ok (.ifCond .ne 7, 3) := dr9 dk9_dX12_call_0_0.1 18 (85, .ifCond .ne 7, 3) rfl
theorem dX12_call_88 : decode cX12_call 88 = .ok (.iconst 4, 1) := dr9 dk9_dX12_call_0_0.1 19 (88, .iconst 4, 1) rfl
theorem dX12_call_89 : decode cX12_call 89 = .ok (.goto 16, 3) := dr9 dk9_dX12_call_0_0.1 20 (89, .goto 16, 3) rfl
theorem dX12_call_105 : decode cX12_call 105 = .ok (.putfield 423, 3) := dr9 dk9_dX12_call_0_0.1 21 (105, .putfield 423, 3) rfl
theorem dX12_call_108 : decode cX12_call 108 = .ok (.iconst 0, 1) := dr9 dk9_dX12_call_0_0.1 22 (108, .iconst 0, 1) rfl
theorem dX12_call_109 : decode cX12_call 109 = .ok (.ireturn, 1) := dr9 dk9_dX12_call_0_0.1 23 (109, .ireturn, 1) rfl
theorem dX12_call_67 : decode cX12_call 67 = .ok (.aload_n 0, 1) := dr9 dk9_dX12_call_0_0.2.1 0 (67, .aload_n 0, 1) rfl
theorem dX12_call_68 : decode cX12_call 68 = .ok (.iload_n 1, 1) := dr9 dk9_dX12_call_0_0.2.1 1 (68, .iload_n 1, 1) rfl
theorem dX12_call_69 : decode cX12_call 69 = .ok (.invokevirtual 574, 3) := dr9 dk9_dX12_call_0_0.2.1 2 (69, .invokevirtual 574, 3) rfl
theorem dX12_call_72 : decode cX12_call 72 = .ok (.ifCond .eq 8, 3) := dr9 dk9_dX12_call_0_0.2.1 3 (72, .ifCond .eq 8, 3) rfl
theorem dX12_call_92 : decode cX12_call 92 = .ok (.aload_n 0, 1) := dr9 dk9_dX12_call_0_0.2.1 4 (92, .aload_n 0, 1) rfl
theorem dX12_call_93 : decode cX12_call 93 = .ok (.iload_n 1, 1) := dr9 dk9_dX12_call_0_0.2.1 5 (93, .iload_n 1, 1) rfl
theorem dX12_call_94 : decode cX12_call 94 = .ok (.invokevirtual 574, 3) := dr9 dk9_dX12_call_0_0.2.1 6 (94, .invokevirtual 574, 3) rfl
theorem dX12_call_97 : decode cX12_call 97 = .ok (.ifCond .ne 7, 3) := dr9 dk9_dX12_call_0_0.2.1 7 (97, .ifCond .ne 7, 3) rfl
theorem dX12_call_104 : decode cX12_call 104 = .ok (.iconst 4, 1) := dr9 dk9_dX12_call_0_0.2.1 8 (104, .iconst 4, 1) rfl
theorem dX12_call_100 : decode cX12_call 100 = .ok (.iconst 3, 1) := dr9 dk9_dX12_call_0_0.2.1 9 (100, .iconst 3, 1) rfl
theorem dX12_call_101 : decode cX12_call 101 = .ok (.goto 4, 3) := dr9 dk9_dX12_call_0_0.2.1 10 (101, .goto 4, 3) rfl
theorem dX12_call_75 : decode cX12_call 75 = .ok (.iload 5, 2) := dr9 dk9_dX12_call_0_0.2.1 11 (75, .iload 5, 2) rfl
theorem dX12_call_77 : decode cX12_call 77 = .ok (.ifCond .ne 33, 3) := dr9 dk9_dX12_call_0_0.2.1 12 (77, .ifCond .ne 33, 3) rfl
theorem dX12_call_18 : decode cX12_call 18 = .ok (.iload_n 2, 1) := dr9 dk9_dX12_call_0_0.2.1 13 (18, .iload_n 2, 1) rfl
theorem dX12_call_19 : decode cX12_call 19 = .ok (.aload_n 0, 1) := dr9 dk9_dX12_call_0_0.2.1 14 (19, .aload_n 0, 1) rfl
theorem dX12_call_20 : decode cX12_call 20 = .ok (.getfield 411, 3) := dr9 dk9_dX12_call_0_0.2.1 15 (20, .getfield 411, 3) rfl
theorem dX12_call_23 : decode cX12_call 23 = .ok (.if_icmp .ge 34, 3) := dr9 dk9_dX12_call_0_0.2.1 16 (23, .if_icmp .ge 34, 3) rfl
theorem dX12_call_26 : decode cX12_call 26 = .ok (.aload_n 0, 1) := dr9 dk9_dX12_call_0_0.2.1 17 (26, .aload_n 0, 1) rfl
theorem dX12_call_27 : decode cX12_call 27 = .ok (.getfield 170, 3) := dr9 dk9_dX12_call_0_0.2.1 18 (27, .getfield 170, 3) rfl
theorem dX12_call_30 : decode cX12_call 30 = .ok (.iload_n 2, 1) := dr9 dk9_dX12_call_0_0.2.1 19 (30, .iload_n 2, 1) rfl
theorem dX12_call_31 : decode cX12_call 31 = .ok (.iaload, 1) := dr9 dk9_dX12_call_0_0.2.1 20 (31, .iaload, 1) rfl
theorem dX12_call_32 : decode cX12_call 32 = .ok (.iconst 1, 1) := dr9 dk9_dX12_call_0_0.2.1 21 (32, .iconst 1, 1) rfl
theorem dX12_call_33 : decode cX12_call 33 = .ok (.if_icmp .ne 24, 3) := dr9 dk9_dX12_call_0_0.2.1 22 (33, .if_icmp .ne 24, 3) rfl
theorem dX12_call_36 : decode cX12_call 36 = .ok (.iload_n 3, 1) := dr9 dk9_dX12_call_0_0.2.1 23 (36, .iload_n 3, 1) rfl
theorem dX12_call_37 : decode cX12_call 37 = .ok (.ifCond .lt 20, 3) := dr9 dk9_dX12_call_0_0.2.2 0 (37, .ifCond .lt 20, 3) rfl
theorem dX12_call_40 : decode cX12_call 40 = .ok (.iload_n 3, 1) := dr9 dk9_dX12_call_0_0.2.2 1 (40, .iload_n 3, 1) rfl
theorem dX12_call_41 : decode cX12_call 41 = .ok (.aload_n 0, 1) := dr9 dk9_dX12_call_0_0.2.2 2 (41, .aload_n 0, 1) rfl
theorem dX12_call_42 : decode cX12_call 42 = .ok (.getfield 110, 3) := dr9 dk9_dX12_call_0_0.2.2 3 (42, .getfield 110, 3) rfl
theorem dX12_call_45 : decode cX12_call 45 = .ok (.aload_n 0, 1) := dr9 dk9_dX12_call_0_0.2.2 4 (45, .aload_n 0, 1) rfl
theorem dX12_call_46 : decode cX12_call 46 = .ok (.getfield 286, 3) := dr9 dk9_dX12_call_0_0.2.2 5 (46, .getfield 286, 3) rfl
theorem dX12_call_49 : decode cX12_call 49 = .ok (.iaload, 1) := dr9 dk9_dX12_call_0_0.2.2 6 (49, .iaload, 1) rfl
theorem dX12_call_50 : decode cX12_call 50 = .ok (.if_icmp .ge 7, 3) := dr9 dk9_dX12_call_0_0.2.2 7 (50, .if_icmp .ge 7, 3) rfl
theorem dX12_call_53 : decode cX12_call 53 = .ok (.iconst 1, 1) := dr9 dk9_dX12_call_0_0.2.2 8 (53, .iconst 1, 1) rfl
theorem dX12_call_54 : decode cX12_call 54 = .ok (.goto 4, 3) := dr9 dk9_dX12_call_0_0.2.2 9 (54, .goto 4, 3) rfl
theorem dX12_call_110 : decode cX12_call 110 = .ok (.aload_n 0, 1) := dr9 dk9_dX12_call_0_0.2.2 10 (110, .aload_n 0, 1) rfl
theorem dX12_call_111 : decode cX12_call 111 = .ok (.aload_n 0, 1) := dr9 dk9_dX12_call_0_0.2.2 11 (111, .aload_n 0, 1) rfl
theorem dX12_call_112 : decode cX12_call 112 = .ok (.iload_n 2, 1) := dr9 dk9_dX12_call_0_0.2.2 12 (112, .iload_n 2, 1) rfl
theorem dX12_call_113 : decode cX12_call 113 = .ok (.iload_n 3, 1) := dr9 dk9_dX12_call_0_0.2.2 13 (113, .iload_n 3, 1) rfl
theorem dX12_call_114 : decode cX12_call 114 = .ok (.iload_n 1, 1) := dr9 dk9_dX12_call_0_0.2.2 14 (114, .iload_n 1, 1) rfl
theorem dX12_call_115 : decode cX12_call 115 = .ok (.iload 4, 2) := dr9 dk9_dX12_call_0_0.2.2 15 (115, .iload 4, 2) rfl
theorem dX12_call_117 : decode cX12_call 117 = .ok (.invokevirtual 566, 3) := dr9 dk9_dX12_call_0_0.2.2 16 (117, .invokevirtual 566, 3) rfl
theorem dX12_call_120 : decode cX12_call 120 = .ok (.invokevirtual 579, 3) := dr9 dk9_dX12_call_0_0.2.2 17 (120, .invokevirtual 579, 3) rfl
theorem dX12_call_123 : decode cX12_call 123 = .ok (.ifCond .eq 10, 3) := dr9 dk9_dX12_call_0_0.2.2 18 (123, .ifCond .eq 10, 3) rfl
theorem dX12_call_133 : decode cX12_call 133 = .ok (.iconst 0, 1) := dr9 dk9_dX12_call_0_0.2.2 19 (133, .iconst 0, 1) rfl
theorem dX12_call_134 : decode cX12_call 134 = .ok (.ireturn, 1) := dr9 dk9_dX12_call_0_0.2.2 20 (134, .ireturn, 1) rfl
theorem dX12_call_126 : decode cX12_call 126 = .ok (.aload_n 0, 1) := dr9 dk9_dX12_call_0_0.2.2 21 (126, .aload_n 0, 1) rfl
theorem dX12_call_127 : decode cX12_call 127 = .ok (.getfield 545, 3) := dr9 dk9_dX12_call_0_0.2.2 22 (127, .getfield 545, 3) rfl
theorem dX12_call_130 : decode cX12_call 130 = .ok (.goto 4, 3) := dr9 dk9_dX12_call_0_0.2.2 23 (130, .goto 4, 3) rfl
abbrev r_s_closeAllT : Room := { frames := 1620, cells := 0, slots := 0, locals := 40680 }
abbrev q_s_closeAllT (D : va_G) (ks : KS) (ad : Nat → Nat) (kk : Nat → ClassId) (V : Vf) (L : Lf) (p0 : Int32) (A : Nat → Prop) : Array Value → State → Outcome → State → Prop := q_s_closeAll D ks ad kk V L p0 A
abbrev r_s_close2 : Room := { frames := 1621, cells := 0, slots := 0, locals := 40704 }
abbrev q_s_close2 (D : va_G) (ks : KS) (ad : Nat → Nat) (kk : Nat → ClassId) (V : Vf) (L : Lf) (p0 : Int32) (A : Nat → Prop) : Array Value → State → Outcome → State → Prop := va_Qi (fun (r : Int32) (u : Vf × Lf) => rgd bM u.1 ∧ agr [(0, 0), (0, 60), (0, 65), (0, 68), (0, 69), (0, 70), (0, 71), (0, 72), (0, 73), (0, 76), (0, 90), (0, 91), (0, 92), (0, 93), (0, 95), (0, 96), (0, 98), (0, 99)] [56, 59, 61, 62, 63, 64, 66, 67, 74, 75, 77, 78, 79, 80, 94, 97] V u.1 ∧ u.2 = L ∧ ((u.1 0 65).toInt ≤ (u.1 0 60).toInt) ∧ ((u.1 0 73).toInt - (u.1 0 65).toInt ≤ (V 0 73).toInt - (V 0 65).toInt + 300) ∧ ((u.1 0 76).toInt - (u.1 0 69).toInt - (u.1 0 73).toInt ≤ (V 0 76).toInt - (V 0 69).toInt - (V 0 73).toInt + 3000) ∧ (RT0 u.1)) (fun u t => gq D A (mw ad kk ks.1 u.1 u.2) (mty kk) t) A
abbrev r_s_get2 : Room := { frames := 1617, cells := 0, slots := 0, locals := 40647 }
abbrev q_s_get2 (D : va_G) (ks : KS) (ad : Nat → Nat) (kk : Nat → ClassId) (V : Vf) (L : Lf) (p0 : Int32) (p1 : Int32) (A : Nat → Prop) : Array Value → State → Outcome → State → Prop := va_Qi (fun (r : Int32) (u : Vf × Lf) => rgd bM u.1 ∧ agr [(0, 0), (0, 60), (0, 65), (0, 68), (0, 69), (0, 70), (0, 71), (0, 72), (0, 73), (0, 76), (0, 90), (0, 91), (0, 92), (0, 93), (0, 95), (0, 96), (0, 98)] [59, 61, 62, 63, 64, 66, 67, 74, 75, 77, 78, 79, 80, 94, 97] V u.1 ∧ u.2 = L ∧ ((u.1 0 65).toInt ≤ (u.1 0 60).toInt) ∧ ((u.1 0 73).toInt - (u.1 0 65).toInt ≤ (V 0 73).toInt - (V 0 65).toInt + 300) ∧ ((u.1 0 76).toInt - (u.1 0 69).toInt - (u.1 0 73).toInt ≤ (V 0 76).toInt - (V 0 69).toInt - (V 0 73).toInt + 3000) ∧ (RT0 u.1)) (fun u t => gq D A (mw ad kk ks.1 u.1 u.2) (mty kk) t) A
abbrev r_s_call2 : Room := { frames := 1609, cells := 0, slots := 0, locals := 40345 }
abbrev q_s_call2 (D : va_G) (ks : KS) (ad : Nat → Nat) (kk : Nat → ClassId) (V : Vf) (L : Lf) (p0 : Int32) (p1 : Int32) (p2 : Int32) (p3 : Int32) (A : Nat → Prop) : Array Value → State → Outcome → State → Prop := va_Qi (fun (r : Int32) (u : Vf × Lf) => rgd bM u.1 ∧ agr [(0, 0), (0, 60), (0, 65), (0, 68), (0, 69), (0, 70), (0, 71), (0, 72), (0, 73), (0, 76), (0, 90), (0, 91), (0, 92), (0, 93), (0, 95), (0, 96), (0, 98)] [59, 61, 62, 63, 64, 66, 67, 74, 75, 77, 78, 79, 80, 94, 97] V u.1 ∧ u.2 = L ∧ ((u.1 0 65).toInt ≤ (u.1 0 60).toInt) ∧ ((u.1 0 73).toInt - (u.1 0 65).toInt ≤ (V 0 73).toInt - (V 0 65).toInt + 300) ∧ ((u.1 0 76).toInt - (u.1 0 69).toInt - (u.1 0 73).toInt ≤ (V 0 76).toInt - (V 0 69).toInt - (V 0 73).toInt + 3000) ∧ (RT0 u.1)) (fun u t => gq D A (mw ad kk ks.1 u.1 u.2) (mty kk) t) A
end
section
/-! what the other calls leave of RT0 -/
theorem RTt.ag {fs : List (Nat × Nat)} {cs : List Nat} {V W : Vf} (h : RTt V) (a : agr fs cs V W) (q1 : thC fs cs) (q60 : wrL fs cs 0 60 = false) (q61 : ∀ k, wrL fs cs 61 k = false) (q66 : ∀ k, wrL fs cs 66 k = false) (q67 : ∀ k, wrL fs cs 67 k = false) (f : (W 0 95).toInt = 0) : RTt W := by
  refine ⟨?_, ?_, ?_⟩
  · intro o ho
    rw [a 0 60 q60] at ho
    rw [a _ _ (q61 o)]
    exact (h.1 o ho).ag a q1
  · intro o k i ho hk hi
    rw [a 0 60 q60] at ho ⊢
    rw [a _ _ (q66 _)] at hi
    rw [a _ _ (q67 _)]
    exact h.2.1 o k i ho hk hi
  · intro i hi
    omega
/-- check -/
theorem RT0.chk {fs : List (Nat × Nat)} {cs : List Nat} {V W : Vf} (h : RT0 V) (hM : rgd bM V) (a : agr fs cs V W) (q1 : thC fs cs) (q2 : ∀ y ∈ fs, y.1 = 0) (q3 : ∀ y ∈ cs, trk y = false) (q60 : wrL fs cs 0 60 = false) (q95 : wrL fs cs 0 95 = false) (q61 : ∀ k, wrL fs cs 61 k = false) (q66 : ∀ k, wrL fs cs 66 k = false) (q67 : ∀ k, wrL fs cs 67 k = false) (rd : RD W) (ry : (V 0 54).toInt = 1 → (W 0 54).toInt = 1) : RT0 W := by
  have f : (W 0 95).toInt = 0 := by rw [a 0 95 q95]; exact h.2.2.2.2
  refine ⟨TB.ag h.1 hM a q1.1 q2 q3, rd, ?_, h.2.2.2.1.ag a q1 q60 q61 q66 q67 f, f⟩
  rcases h.2.2.1 with r | r
  · exact Or.inl (ry r)
  · right
    rw [a 0 60 q60]
    exact r
/-- none is there -/
theorem RT0.none {W : Vf} (t : TB W) (r : (W 0 54).toInt = 0) (o : (W 0 60).toInt = 0) (f : (W 0 95).toInt = 0) : RT0 W :=
  ⟨t, fun h => absurd h (by omega), Or.inr o, RTt.z o f, f⟩
def t18 (x : Nat) : Nat × Nat := match x with
  | 18 => (0, 24)
  | _ => (0, 0)
/-- setting, ahead of READY -/
theorem RT0.set {V W : Vf} {k : Nat} {v : Int32} (h : RT0 V) (hM : rgd bM V) (n : (V 0 54).toInt = 0) (e : W = up2 V 18 k v) : RT0 W := by
  have a : agr [] [18] V W := agr.up agr.rf e rfl
  have fr18 : fr (fun x => if x = 18 then (0, k + 1) else (0, 0)) V W := by
    intro x j _ hj
    by_cases hx : x = 18
    · subst hx
      have hj2 : j < 0 ∨ k + 1 ≤ j := hj
      exact up2_k e (by omega)
    · exact up2_o e hx
  have en : nwh W = nwh V := by unfold nwh; rw [a 0 11 rfl]
  have t : TB W := by
    unfold TB
    have e2 : Int32.toNatClampNeg (W 0 11) = Int32.toNatClampNeg (V 0 11) := by rw [a 0 11 rfl]
    rw [e2]
    exact TBL.keep h.1 hM fr18 (Nat.le_refl _) rfl rfl rfl rfl rfl rfl rfl rfl rfl rfl rfl rfl rfl rfl rfl
  refine RT0.none t (by rw [a 0 54 rfl]; exact n) ?_ (by rw [a 0 95 rfl]; exact h.2.2.2.2)
  rw [a 0 60 rfl]
  rcases h.2.2.1 with r | r
  · omega
  · exact r
theorem fr.sy {R : Nat → Nat × Nat} {V W : Vf} (h : fr R V W) : fr R W V := fun x k a b => (h x k a b).symm
theorem th_fr {V W : Vf} {nx c : Nat} (f : fr (tH nx) V W) (e : W 0 11 = V 0 11) (hn : nwh V ≠ nx) (hM : rgd bM V) (h : th V c) : th W c := by
  have en : nwh W = nwh V := by unfold nwh; rw [e]
  have r19 : (V 19 (nwh V)).toInt ≤ 24 := (hM 19 _).2
  have hc : c < 24 := by have := h.1; omega
  have r25 : (V 25 (24 * nwh V + c)).toInt ≤ 11 := (hM 25 _).2
  have e19 : W 19 (nwh V) = V 19 (nwh V) := f 19 _ rfl (by show nwh V < nx ∨ nx + 1 ≤ nwh V; omega)
  have e25 : W 25 (24 * nwh V + c) = V 25 (24 * nwh V + c) := f 25 _ rfl (by show 24 * nwh V + c < 24 * nx ∨ 24 * nx + 24 ≤ 24 * nwh V + c; omega)
  have e26 : W 26 (24 * nwh V + c) = V 26 (24 * nwh V + c) := f 26 _ rfl (by show 24 * nwh V + c < 24 * nx ∨ 24 * nx + 24 ≤ 24 * nwh V + c; omega)
  have e18 : W 18 (12 * nwh V + (V 25 (24 * nwh V + c)).toInt.toNat) = V 18 (12 * nwh V + (V 25 (24 * nwh V + c)).toInt.toNat) := f 18 _ rfl (by show 12 * nwh V + (V 25 (24 * nwh V + c)).toInt.toNat < 12 * nx ∨ 12 * nx + 12 ≤ 12 * nwh V + (V 25 (24 * nwh V + c)).toInt.toNat; omega)
  unfold th
  rw [en, e19, e25, e26, e18]
  exact h
theorem ndL_fr {V W : Vf} {nx c k : Nat} (f : fr (tH nx) V W) (e : W 0 11 = V 0 11) (hn : nwh V ≠ nx) (hM : rgd bM V) (hc : c < 24) (h : ndL V c k) : ndL W c k := by
  have en : nwh W = nwh V := by unfold nwh; rw [e]
  have r27 : (V 27 (24 * nwh V + c)).toInt ≤ 8 := (hM 27 _).2
  have hk : k < 8 := by have := h.1; omega
  have e27 : W 27 (24 * nwh V + c) = V 27 (24 * nwh V + c) := f 27 _ rfl (by show 24 * nwh V + c < 24 * nx ∨ 24 * nx + 24 ≤ 24 * nwh V + c; omega)
  have e29 : W 29 (8 * (24 * nwh V + c) + k) = V 29 (8 * (24 * nwh V + c) + k) := f 29 _ rfl (by show 8 * (24 * nwh V + c) + k < 192 * nx ∨ 192 * nx + 192 ≤ 8 * (24 * nwh V + c) + k; omega)
  unfold ndL
  rw [en, e27, e29]
  exact h
/-- book, where it fails -/
theorem RT0.bkf {fs : List (Nat × Nat)} {cs : List Nat} {V W : Vf} {nx : Nat} (h : RT0 V) (hM : rgd bM V) (hW : rgd bM W) (a : agr fs cs V W) (f : fr (tH nx) V W) (hn : nwh V ≠ nx) (t : TB W) (q11 : wrL fs cs 0 11 = false) (q54 : wrL fs cs 0 54 = false) (q60 : wrL fs cs 0 60 = false) (q95 : wrL fs cs 0 95 = false) (q80 : wrL fs cs 80 0 = false) (q61 : ∀ k, wrL fs cs 61 k = false) (q66 : ∀ k, wrL fs cs 66 k = false) (q67 : ∀ k, wrL fs cs 67 k = false) : RT0 W := by
  have e11 := a 0 11 q11
  have en : nwh W = nwh V := by unfold nwh; rw [e11]
  have f0 : (W 0 95).toInt = 0 := by rw [a 0 95 q95]; exact h.2.2.2.2
  refine ⟨t, ?_, ?_, ⟨?_, ?_, ?_⟩, f0⟩
  · intro r
    rw [a 0 54 q54] at r
    have ec : cd0 W = cd0 V := by unfold cd0; rw [a 80 0 q80]
    rcases h.2.1 r with g | g
    · left
      rw [ec]
      exact th_fr f e11 hn hM g
    · right
      intro c j hc hj
      have hc2 : th V c := th_fr f.sy e11.symm (by rw [en]; exact hn) hW hc
      have r19 : (V 19 (nwh V)).toInt ≤ 24 := (hM 19 _).2
      have := hc2.1
      exact g c j hc2 (ndL_fr f.sy e11.symm (by rw [en]; exact hn) hW (by omega) hj)
  · rw [a 0 54 q54, a 0 60 q60]
    exact h.2.2.1
  · intro o ho
    rw [a 0 60 q60] at ho
    rw [a _ _ (q61 o)]
    exact th_fr f e11 hn hM (h.2.2.2.1.1 o ho)
  · intro o k i ho hk hi
    rw [a 0 60 q60] at ho ⊢
    rw [a _ _ (q66 _)] at hi
    rw [a _ _ (q67 _)]
    exact h.2.2.2.1.2.1 o k i ho hk hi
  · intro i hi
    omega
/-- what holds between the calls, the n-th call being next -/
def TI (V : Vf) (n : Nat) : Prop := RT0 V ∧ (V 0 65).toInt ≤ (V 0 60).toInt ∧ (V 0 73).toInt - (V 0 65).toInt ≤ 300 * (n : Int) ∧ (V 0 76).toInt - (V 0 69).toInt - (V 0 73).toInt ≤ 3000 * (n : Int)
theorem TI.ag {fs : List (Nat × Nat)} {cs : List Nat} {V W : Vf} {n : Nat} (h : TI V n) (r : RT0 W) (a : agr fs cs V W) (q1 : wrL fs cs 0 65 = false) (q2 : wrL fs cs 0 60 = false) (q3 : wrL fs cs 0 73 = false) (q4 : wrL fs cs 0 76 = false) (q5 : wrL fs cs 0 69 = false) : TI W (n + 1) := by
  unfold TI
  rw [a _ _ q1, a _ _ q2, a _ _ q3, a _ _ q4, a _ _ q5]
  have b := h.2
  refine ⟨r, ?_, ?_, ?_⟩ <;> omega
theorem TI.pu {V : Vf} {n : Nat} (h : TI V n) : TI V (n + 1) := by
  have b := h.2
  refine ⟨h.1, ?_, ?_, ?_⟩ <;> omega


abbrev r_s_candidate2 : Room := { frames := 3, cells := 0, slots := 0, locals := 69 }
abbrev q_s_candidate2 (D : va_G) (ks : KS) (ad : Nat → Nat) (kk : Nat → ClassId) (V : Vf) (L : Lf) (p0 : Int32) (p1 : Int32) (p2 : Int32) (A : Nat → Prop) : Array Value → State → Outcome → State → Prop := va_Qi (fun (r : Int32) (u : Vf × Lf) => rgd bM u.1 ∧ agr [(0, 0)] [80] V u.1 ∧ u.2 = L ∧ (RT0 u.1)) (fun u t => gq D A (mw ad kk ks.1 u.1 u.2) (mty kk) t) A
set_option maxHeartbeats 4000000 in
set_option maxRecDepth 100000 in
theorem s_candidate2 (l : Launch) (D : va_G) (ks : KS) (sz : Nat) (ad : Nat → Nat) (kk : Nat → ClassId) (V : Vf) (L : Lf) (p0 : Int32) (p1 : Int32) (p2 : Int32) (hMV : rgd bM V) (r0 : RT0 V)  : Met l yX12_candidate (Cond.code yX12_candidate cX12_candidate 4 (some .int) :: GW) r_s_candidate2 (va_Pc [.ref (ad 0), .int p0, .int p1, .int p2] (gp D ks (mw ad kk ks.1 V L) (mty kk) sz)) (q_s_candidate2 D ks ad kk V L p0 p1 p2 (va_A (mw ad kk ks.1 V L) sz)) 0 0 (va_A (mw ad kk ks.1 V L) sz) := by
  refine g_met (q_s_candidate2 D ks ad kk V L p0 p1 p2) (by decide) (Nat.le_of_ble_eq_true rfl) ?_
  intro p e s m below meth c A ls H locs hx hb hr hml hown hg hlocks hin hnw hgk hP hK hD hS hA hl
  have hown : s.vm.findClass RX12 = some m.cls := hown
  have hl : lv_has ls 4 [(0, .ref (ad 0)), (1, .int p0), (2, .int p1), (3, .int p2)] := hl
  have hP : va_P D vwCl (mw ad kk ks.1 V L) H := hP
  have hD : va_D A (mw ad kk ks.1 V L) := hD
  have hK : va_K D vwCl (mty kk) s := hK
  have agV : agr [(0, 0)] [80] V V := agr.rf
  refine lv_aload_n hx hb dX12_candidate_0 rfl (lv_at hl 0 rfl) ?_
  refine lv_iconst (v := 0) hx hb dX12_candidate_1 (by decide) ?_
  refine va_put (D := D) (ci := 12) (v := .int 0) (ty := tyX12 0) (C := RX12) (T := TX12) (N := 100) hx hb hg inX12 tyX12 tyX12_ok nmX12 hown hK hP hD hS 0 rfl rfl 0 (by decide) (hg _ w1706) (fun _ h9 => h9) rfl (tyX12_ok 0 (by decide)) rfl rfl (Nat.le_of_ble_eq_true rfl) dX12_candidate_2 (fun H locs hP hD hS => ?_)
  obtain ⟨V1, hV1⟩ : ∃ z, z = up2 V 0 0 0 := ⟨_, rfl⟩
  have hP : va_P D vwCl (mw ad kk ks.1 V1 L) H := by rw [hV1]; exact hP
  have hD : va_D A (mw ad kk ks.1 V1 L) := by rw [hV1]; exact hD
  have hMV1 : rgd bM V1 := hMV.put hV1 (i_full _)
  have agV1 : agr [(0, 0)] [80] V V1 := agV.up hV1 rfl
  refine lv_iload_n hx hb dX12_candidate_5 rfl (lv_at hl 1 rfl) ?_
  refine lv_if_lt (tgt := 48) hx hb dX12_candidate_6 (by decide) (fun c2 => ?_) (fun c2 => ?_)
  · skip
    have f3 : p0.toInt < 0 := b_lt rfl (by decide) c2
    refine lv_iconst (v := (-1)) hx hb dX12_candidate_48 (by decide) ?_
    have pq4 : (V1 0 95).toInt = ((V 0 95)).toInt := congrArg Int32.toInt (up2_k hV1 (by decide))
    have r5 : 0 ≤ ((V 0 95)).toInt ∧ ((V 0 95)).toInt ≤ 300 := hMV 0 95
    have fz6 : (V 0 95).toInt = 0 := r0.2.2.2.2
    have r07 : RT0 V1 := RT0.ag r0 hMV (show agr [(0, 0)] [] V V1 from (agr.up agr.rf hV1 rfl)) ⟨⟨rfl, fun _ => rfl, fun _ => rfl, fun _ => rfl, fun _ => rfl, fun _ => rfl, fun _ => rfl⟩, by decide, by decide, rfl, rfl, fun _ => rfl, fun _ => rfl, fun _ => rfl⟩ (c0k.ag (show agr [(0, 0)] [] V V1 from (agr.up agr.rf hV1 rfl)) rfl) (by (first | exact om_5e83b1f116bb pq4 r5.1 fz6 | omega))
    exact W.iret (v := (-1)) hx hb hr (fun t ht hW => ⟨⟨(-1), (V1, L), rfl, ⟨hMV1, agV1, rfl, r07⟩, by rw [ht]; exact hP, va_K.moved hW.alike hK, hD⟩, hS.F ht⟩) hS.2.2 dX12_candidate_49
  · skip
    have f8 : 0 ≤ p0.toInt := b_nlt rfl (by decide) c2
    refine lv_iload_n hx hb dX12_candidate_9 rfl (lv_at hl 1 rfl) ?_
    refine lv_aload_n hx hb dX12_candidate_10 rfl (lv_at hl 0 rfl) ?_
    refine va_get (D := D) (ci := 12) (v := .ref (ad 19)) (C := RX12) (T := TX12) (N := 100) hx hb hg inX12 hown hK hP 0 rfl rfl 19 (by decide) (hg _ w1725) (fun _ h9 => h9) rfl dX12_candidate_11 ?_
    refine lv_aload_n hx hb dX12_candidate_14 rfl (lv_at hl 0 rfl) ?_
    refine va_get (D := D) (ci := 12) (v := .int (V1 0 11)) (C := RX12) (T := TX12) (N := 100) hx hb hg inX12 hown hK hP 0 rfl rfl 11 (by decide) (hg _ w1717) (fun _ h9 => h9) rfl dX12_candidate_15 ?_
    refine g_top (v := (V 0 11)) (up2_k hV1 (by decide)) ?_
    have r9 : 0 ≤ ((V 0 11)).toInt ∧ ((V 0 11)).toInt ≤ 1 := hMV 0 11
    refine va_iald (D := D) (i := (V 0 11)) hx hb hK hP 12 11 rfl rfl (i_in (a := ((V 0 11)).toInt) rfl (by first | exact om_8367a84723c7 r9.1 r9.2 | first | omega | ((try (have i_r0 := Imp.go r0 (by omega))); omega))) dX12_candidate_18 ?_
    refine g_top (v := (V 19 (Int32.toNatClampNeg (V 0 11)))) (up2_o hV1 (by decide)) ?_
    have r10 : 0 ≤ ((V 19 (Int32.toNatClampNeg (V 0 11)))).toInt ∧ ((V 19 (Int32.toNatClampNeg (V 0 11)))).toInt ≤ 24 := hMV 19 (Int32.toNatClampNeg (V 0 11))
    refine lv_icmp_ge (tgt := 48) hx hb dX12_candidate_19 (by decide) (fun c11 => ?_) (fun c11 => ?_)
    · skip
      have f12 : ((V 19 (Int32.toNatClampNeg (V 0 11)))).toInt ≤ p0.toInt := b_le rfl rfl c11
      refine lv_iconst (v := (-1)) hx hb dX12_candidate_48 (by decide) ?_
      have pq13 : (V1 0 95).toInt = ((V 0 95)).toInt := congrArg Int32.toInt (up2_k hV1 (by decide))
      have r14 : 0 ≤ ((V 0 95)).toInt ∧ ((V 0 95)).toInt ≤ 300 := hMV 0 95
      have fz15 : (V 0 95).toInt = 0 := r0.2.2.2.2
      have r016 : RT0 V1 := RT0.ag r0 hMV (show agr [(0, 0)] [] V V1 from (agr.up agr.rf hV1 rfl)) ⟨⟨rfl, fun _ => rfl, fun _ => rfl, fun _ => rfl, fun _ => rfl, fun _ => rfl, fun _ => rfl⟩, by decide, by decide, rfl, rfl, fun _ => rfl, fun _ => rfl, fun _ => rfl⟩ (c0k.ag (show agr [(0, 0)] [] V V1 from (agr.up agr.rf hV1 rfl)) rfl) (by (first | exact om_5e83b1f116bb pq13 r14.1 fz15 | omega))
      exact W.iret (v := (-1)) hx hb hr (fun t ht hW => ⟨⟨(-1), (V1, L), rfl, ⟨hMV1, agV1, rfl, r016⟩, by rw [ht]; exact hP, va_K.moved hW.alike hK, hD⟩, hS.F ht⟩) hS.2.2 dX12_candidate_49
    · skip
      have f17 : p0.toInt < ((V 19 (Int32.toNatClampNeg (V 0 11)))).toInt := b_nle rfl rfl c11
      refine lv_iload_n hx hb dX12_candidate_22 rfl (lv_at hl 2 rfl) ?_
      refine lv_if_lt (tgt := 48) hx hb dX12_candidate_23 (by decide) (fun c18 => ?_) (fun c18 => ?_)
      · skip
        have f19 : p1.toInt < 0 := b_lt rfl (by decide) c18
        refine lv_iconst (v := (-1)) hx hb dX12_candidate_48 (by decide) ?_
        have pq20 : (V1 0 95).toInt = ((V 0 95)).toInt := congrArg Int32.toInt (up2_k hV1 (by decide))
        have r21 : 0 ≤ ((V 0 95)).toInt ∧ ((V 0 95)).toInt ≤ 300 := hMV 0 95
        have fz22 : (V 0 95).toInt = 0 := r0.2.2.2.2
        have r023 : RT0 V1 := RT0.ag r0 hMV (show agr [(0, 0)] [] V V1 from (agr.up agr.rf hV1 rfl)) ⟨⟨rfl, fun _ => rfl, fun _ => rfl, fun _ => rfl, fun _ => rfl, fun _ => rfl, fun _ => rfl⟩, by decide, by decide, rfl, rfl, fun _ => rfl, fun _ => rfl, fun _ => rfl⟩ (c0k.ag (show agr [(0, 0)] [] V V1 from (agr.up agr.rf hV1 rfl)) rfl) (by (first | exact om_5e83b1f116bb pq20 r21.1 fz22 | omega))
        exact W.iret (v := (-1)) hx hb hr (fun t ht hW => ⟨⟨(-1), (V1, L), rfl, ⟨hMV1, agV1, rfl, r023⟩, by rw [ht]; exact hP, va_K.moved hW.alike hK, hD⟩, hS.F ht⟩) hS.2.2 dX12_candidate_49
      · skip
        have f24 : 0 ≤ p1.toInt := b_nlt rfl (by decide) c18
        refine lv_iload_n hx hb dX12_candidate_26 rfl (lv_at hl 2 rfl) ?_
        refine lv_aload_n hx hb dX12_candidate_27 rfl (lv_at hl 0 rfl) ?_
        refine va_get (D := D) (ci := 12) (v := .ref (ad 27)) (C := RX12) (T := TX12) (N := 100) hx hb hg inX12 hown hK hP 0 rfl rfl 27 (by decide) (hg _ w1733) (fun _ h9 => h9) rfl dX12_candidate_28 ?_
        refine lv_bipush (v := 24) hx hb dX12_candidate_31 (by decide) ?_
        refine lv_aload_n hx hb dX12_candidate_33 rfl (lv_at hl 0 rfl) ?_
        refine va_get (D := D) (ci := 12) (v := .int (V1 0 11)) (C := RX12) (T := TX12) (N := 100) hx hb hg inX12 hown hK hP 0 rfl rfl 11 (by decide) (hg _ w1717) (fun _ h9 => h9) rfl dX12_candidate_34 ?_
        refine g_top (v := (V 0 11)) (up2_k hV1 (by decide)) ?_
        refine lv_imul hx hb dX12_candidate_37 ?_
        refine lv_topi (fun z25 ez25 => ?_)
        have hz25 : z25.toInt = 24 * ((V 0 11)).toInt := i_mul ez25 (by decide) rfl (by (first | exact om_3f8aba7b6ce1 r9.1 r9.2 | omega))
        refine lv_iload_n hx hb dX12_candidate_38 rfl (lv_at hl 1 rfl) ?_
        refine lv_iadd hx hb dX12_candidate_39 ?_
        refine lv_topi (fun z26 ez26 => ?_)
        have hz26 : z26.toInt = z25.toInt + p0.toInt := i_add ez26 rfl rfl (by (first | exact om_140f5757d01d f8 r9.1 r9.2 r10.2 f17 hz25 | omega))
        refine va_iald (D := D) (i := z26) hx hb hK hP 20 19 rfl rfl (i_in (a := z26.toInt) rfl (by first | exact om_af63ae00f401 f8 r9.1 r9.2 r10.2 f17 hz25 hz26 | first | omega | ((try (have i_r0 := Imp.go r0 (by omega))); omega))) dX12_candidate_40 ?_
        refine g_top (v := (V 27 (Int32.toNatClampNeg z26))) (up2_o hV1 (by decide)) ?_
        have r27 : 0 ≤ ((V 27 (Int32.toNatClampNeg z26))).toInt ∧ ((V 27 (Int32.toNatClampNeg z26))).toInt ≤ 8 := hMV 27 (Int32.toNatClampNeg z26)
        refine lv_icmp_ge (tgt := 48) hx hb dX12_candidate_41 (by decide) (fun c28 => ?_) (fun c28 => ?_)
        · skip
          have f29 : ((V 27 (Int32.toNatClampNeg z26))).toInt ≤ p1.toInt := b_le rfl rfl c28
          refine lv_iconst (v := (-1)) hx hb dX12_candidate_48 (by decide) ?_
          have pq30 : (V1 0 95).toInt = ((V 0 95)).toInt := congrArg Int32.toInt (up2_k hV1 (by decide))
          have r31 : 0 ≤ ((V 0 95)).toInt ∧ ((V 0 95)).toInt ≤ 300 := hMV 0 95
          have fz32 : (V 0 95).toInt = 0 := r0.2.2.2.2
          have r033 : RT0 V1 := RT0.ag r0 hMV (show agr [(0, 0)] [] V V1 from (agr.up agr.rf hV1 rfl)) ⟨⟨rfl, fun _ => rfl, fun _ => rfl, fun _ => rfl, fun _ => rfl, fun _ => rfl, fun _ => rfl⟩, by decide, by decide, rfl, rfl, fun _ => rfl, fun _ => rfl, fun _ => rfl⟩ (c0k.ag (show agr [(0, 0)] [] V V1 from (agr.up agr.rf hV1 rfl)) rfl) (by (first | exact om_5e83b1f116bb pq30 r31.1 fz32 | omega))
          exact W.iret (v := (-1)) hx hb hr (fun t ht hW => ⟨⟨(-1), (V1, L), rfl, ⟨hMV1, agV1, rfl, r033⟩, by rw [ht]; exact hP, va_K.moved hW.alike hK, hD⟩, hS.F ht⟩) hS.2.2 dX12_candidate_49
        · skip
          have f34 : p1.toInt < ((V 27 (Int32.toNatClampNeg z26))).toInt := b_nle rfl rfl c28
          refine lv_iload_n hx hb dX12_candidate_44 rfl (lv_at hl 3 rfl) ?_
          refine lv_if_ge (tgt := 50) hx hb dX12_candidate_45 (by decide) (fun c35 => ?_) (fun c35 => ?_)
          · skip
            have f36 : 0 ≤ p2.toInt := b_le (by decide) rfl c35
            refine lv_iload_n hx hb dX12_candidate_50 rfl (lv_at hl 3 rfl) ?_
            refine lv_aload_n hx hb dX12_candidate_51 rfl (lv_at hl 0 rfl) ?_
            refine lv_bipush (v := 8) hx hb dX12_candidate_52 (by decide) ?_
            refine lv_bipush (v := 24) hx hb dX12_candidate_54 (by decide) ?_
            refine lv_aload_n hx hb dX12_candidate_56 rfl (lv_at hl 0 rfl) ?_
            refine va_get (D := D) (ci := 12) (v := .int (V1 0 11)) (C := RX12) (T := TX12) (N := 100) hx hb hg inX12 hown hK hP 0 rfl rfl 11 (by decide) (hg _ w1717) (fun _ h9 => h9) rfl dX12_candidate_57 ?_
            refine g_top (v := (V 0 11)) (up2_k hV1 (by decide)) ?_
            refine lv_imul hx hb dX12_candidate_60 ?_
            refine lv_topi (fun z37 ez37 => ?_)
            have hz37 : z37.toInt = 24 * ((V 0 11)).toInt := i_mul ez37 (by decide) rfl (by (first | exact om_3f8aba7b6ce1 r9.1 r9.2 | omega))
            refine lv_iload_n hx hb dX12_candidate_61 rfl (lv_at hl 1 rfl) ?_
            refine lv_iadd hx hb dX12_candidate_62 ?_
            refine lv_topi (fun z38 ez38 => ?_)
            have hz38 : z38.toInt = z37.toInt + p0.toInt := i_add ez38 rfl rfl (by (first | exact om_140f5757d01d f8 r9.1 r9.2 r10.2 f17 hz37 | omega))
            refine lv_imul hx hb dX12_candidate_63 ?_
            refine lv_topi (fun z39 ez39 => ?_)
            have hz39 : z39.toInt = 8 * z38.toInt := i_mul ez39 (by decide) rfl (by (first | exact om_ae192a598e45 f8 r9.1 r9.2 r10.2 f17 hz37 hz38 | omega))
            refine lv_iload_n hx hb dX12_candidate_64 rfl (lv_at hl 2 rfl) ?_
            refine lv_iadd hx hb dX12_candidate_65 ?_
            refine lv_topi (fun z40 ez40 => ?_)
            have hz40 : z40.toInt = z39.toInt + p1.toInt := i_add ez40 rfl rfl (by (first | exact om_88047a06286b f8 r9.1 r9.2 r10.2 f17 f24 r27.2 f34 hz37 hz38 hz39 | omega))
            have nb : 0 ≤ (V 0 11).toInt ∧ (V 0 11).toInt ≤ 1 := hMV 0 11
            have kn : (nwh V : Int) = (V 0 11).toInt := i_clamp (x := V 0 11) rfl nb.1
            have kp0 := i_clamp (x := p0) rfl (by (first | exact om_eafa9039069c f8 | omega))
            have kp1 := i_clamp (x := p1) rfl (by (first | exact om_eafa9039069c f24 | omega))
            have kz27 : Int32.toNatClampNeg z26 = 24 * nwh V + Int32.toNatClampNeg p0 := by have h9 := i_clamp (x := z26) rfl (by (first | exact om_11587583f9f8 f8 r9.1 hz25 hz26 | omega)); (first | exact om_513b2bd4b43e hz25 hz26 kn kp0 h9 | omega)
            have q27 : (V 27 (24 * nwh V + Int32.toNatClampNeg p0)).toInt = (V 27 (Int32.toNatClampNeg z26)).toInt := by rw [kz27]
            have kN : Int32.toNatClampNeg z40 = 8 * (24 * nwh V + Int32.toNatClampNeg p0) + Int32.toNatClampNeg p1 := by have h9 := i_clamp (x := z40) rfl (by (first | exact om_27b239c674fb f8 r9.1 f24 hz37 hz38 hz39 hz40 | omega)); (first | exact om_ae2f849a0b98 hz37 hz38 hz39 hz40 kn kp0 kp1 h9 | omega)
            have e19 : (V 19 (nwh V)).toInt = (V 19 (Int32.toNatClampNeg (V 0 11))).toInt := rfl
            have cok := (show TBL V (nwh V) _ from r0.1).1 (Int32.toNatClampNeg p0) (by omega)
            have nt : 0 ≤ (V 28 (Int32.toNatClampNeg z40)).toInt := by rw [kN]; exact (cok.2.2.2 (Int32.toNatClampNeg p1) (by omega)).1
            have pq41 : (V1 28 (Int32.toNatClampNeg z40)).toInt = ((V 28 (Int32.toNatClampNeg z40))).toInt := congrArg Int32.toInt (up2_o hV1 (by decide))
            have r42 : (-1) ≤ ((V 28 (Int32.toNatClampNeg z40))).toInt ∧ ((V 28 (Int32.toNatClampNeg z40))).toInt ≤ 23 := hMV 28 (Int32.toNatClampNeg z40)
            refine gA_int (gA_runV (As := [.int z40]) (rest := [.int p2]) (ci := 12) (q0 := 0) hx hb hml hown hg hP hD hK hS hA hnw hgk (s_candidatesOf2 l D ks H.size ad kk V1 L z40 hMV1 (by first | exact om_6605c8a90da7 f8 r9.1 r9.2 r10.2 f17 f24 r27.2 f34 hz37 hz38 hz39 hz40 | first | omega | ((try (have i_r0 := Imp.go r0 (by omega))); omega)) (show 0 ≤ (V1 28 (Int32.toNatClampNeg z40)).toInt from by first | exact om_ac0b685ca4ca nt pq41 | first | omega | ((try (have i_r0 := Imp.go r0 (by omega))); omega))) w2172 w2174 w119 w172 w2175 rfl rfl hdV_yX12_candidatesOf ⟨Nat.le_of_ble_eq_true rfl, Nat.le_of_ble_eq_true rfl⟩ rfl hl.1 rfl (Nat.le_of_ble_eq_true rfl) dX12_candidate_66 ⟨Nat.le_of_ble_eq_true rfl, Nat.le_of_ble_eq_true rfl⟩) hP hD hK hS hA (fun z43 u44 H locs w45 hP hD hK hS => ?_)
            obtain ⟨V48, L49⟩ := u44
            obtain ⟨hMV48, ajV48, axL49, rgz43, t46, t47⟩ := w45
            have axL49 : L = L49 := Eq.symm axL49
            subst axL49
            have hP : va_P D vwCl (mw ad kk ks.1 V48 L) H := hP
            have hD : va_D A (mw ad kk ks.1 V48 L) := hD
            have hMV48 : rgd bM V48 := hMV48
            have ajV48 : agr [] [80] V1 V48 := ajV48
            have agV48 : agr [(0, 0)] [80] V V48 := agV1.tr ajV48 (by decide) (by decide)
            have rgz43 : 0 ≤ z43.toInt ∧ z43.toInt ≤ 24 := rgz43
            have t46 : ∀ i : Nat, (i : Int) < z43.toInt → th V1 (Int32.toNatClampNeg (V48 80 i)) := t46
            have t47 : c0k V1 V48 := t47
            refine lv_icmp_ge (tgt := 81) hx hb dX12_candidate_69 (by decide) (fun c50 => ?_) (fun c50 => ?_)
            · skip
              have f51 : z43.toInt ≤ p2.toInt := b_le rfl rfl c50
              refine lv_iconst (v := (-1)) hx hb dX12_candidate_81 (by decide) ?_
              have pq52 : (V48 0 95).toInt = ((V 0 95)).toInt := congrArg Int32.toInt ((ajV48 0 95 rfl).trans (up2_k hV1 (by decide)))
              have r53 : 0 ≤ ((V 0 95)).toInt ∧ ((V 0 95)).toInt ≤ 300 := hMV 0 95
              have fz54 : (V 0 95).toInt = 0 := r0.2.2.2.2
              have r055 : RT0 V48 := RT0.ag r0 hMV (show agr [(0, 0)] [80] V V48 from (agr.tr (agr.up agr.rf hV1 rfl) ajV48 (by decide) (by decide))) ⟨⟨rfl, fun _ => rfl, fun _ => rfl, fun _ => rfl, fun _ => rfl, fun _ => rfl, fun _ => rfl⟩, by decide, by decide, rfl, rfl, fun _ => rfl, fun _ => rfl, fun _ => rfl⟩ (c0k.tr (V := V) (W := V1) (X := V48) (c0k.tr (V := V) (W := V) (X := V1) c0k.rf (Or.inl (up2_o hV1 (by decide))) (show agr [] [] V V from agr.rf) ⟨rfl, fun _ => rfl, fun _ => rfl, fun _ => rfl, fun _ => rfl, fun _ => rfl, fun _ => rfl⟩) t47 (show agr [(0, 0)] [] V V1 from (agr.up agr.rf hV1 rfl)) ⟨rfl, fun _ => rfl, fun _ => rfl, fun _ => rfl, fun _ => rfl, fun _ => rfl, fun _ => rfl⟩) (by (first | exact om_5e83b1f116bb pq52 r53.1 fz54 | omega))
              exact W.iret (v := (-1)) hx hb hr (fun t ht hW => ⟨⟨(-1), (V48, L), rfl, ⟨hMV48, agV48, rfl, r055⟩, by rw [ht]; exact hP, va_K.moved hW.alike hK, hD⟩, hS.F ht⟩) hS.2.2 dX12_candidate_82
            · skip
              have f56 : p2.toInt < z43.toInt := b_nle rfl rfl c50
              refine lv_aload_n hx hb dX12_candidate_72 rfl (lv_at hl 0 rfl) ?_
              refine va_get (D := D) (ci := 12) (v := .ref (ad 80)) (C := RX12) (T := TX12) (N := 100) hx hb hg inX12 hown hK hP 0 rfl rfl 80 (by decide) (hg _ w1786) (fun _ h9 => h9) rfl dX12_candidate_73 ?_
              refine lv_iload_n hx hb dX12_candidate_76 rfl (lv_at hl 3 rfl) ?_
              refine va_iald (D := D) (i := p2) hx hb hK hP 57 56 rfl rfl (i_in (a := p2.toInt) rfl (by first | exact om_f72f4702fe79 f36 rgz43.2 f56 | first | omega | ((try (have i_r0 := Imp.go r0 (by omega))); omega))) dX12_candidate_77 ?_
              have r57 : 0 ≤ ((V48 80 (Int32.toNatClampNeg p2))).toInt ∧ ((V48 80 (Int32.toNatClampNeg p2))).toInt ≤ 23 := hMV48 80 (Int32.toNatClampNeg p2)
              refine lv_goto (tgt := 82) hx hb dX12_candidate_78 (by decide) ?_
              have pq58 : (V48 0 95).toInt = ((V 0 95)).toInt := congrArg Int32.toInt ((ajV48 0 95 rfl).trans (up2_k hV1 (by decide)))
              have r59 : 0 ≤ ((V 0 95)).toInt ∧ ((V 0 95)).toInt ≤ 300 := hMV 0 95
              have fz60 : (V 0 95).toInt = 0 := r0.2.2.2.2
              have r061 : RT0 V48 := RT0.ag r0 hMV (show agr [(0, 0)] [80] V V48 from (agr.tr (agr.up agr.rf hV1 rfl) ajV48 (by decide) (by decide))) ⟨⟨rfl, fun _ => rfl, fun _ => rfl, fun _ => rfl, fun _ => rfl, fun _ => rfl, fun _ => rfl⟩, by decide, by decide, rfl, rfl, fun _ => rfl, fun _ => rfl, fun _ => rfl⟩ (c0k.tr (V := V) (W := V1) (X := V48) (c0k.tr (V := V) (W := V) (X := V1) c0k.rf (Or.inl (up2_o hV1 (by decide))) (show agr [] [] V V from agr.rf) ⟨rfl, fun _ => rfl, fun _ => rfl, fun _ => rfl, fun _ => rfl, fun _ => rfl, fun _ => rfl⟩) t47 (show agr [(0, 0)] [] V V1 from (agr.up agr.rf hV1 rfl)) ⟨rfl, fun _ => rfl, fun _ => rfl, fun _ => rfl, fun _ => rfl, fun _ => rfl, fun _ => rfl⟩) (by (first | exact om_5e83b1f116bb pq58 r59.1 fz60 | omega))
              exact W.iret (v := (V48 80 (Int32.toNatClampNeg p2))) hx hb hr (fun t ht hW => ⟨⟨(V48 80 (Int32.toNatClampNeg p2)), (V48, L), rfl, ⟨hMV48, agV48, rfl, r061⟩, by rw [ht]; exact hP, va_K.moved hW.alike hK, hD⟩, hS.F ht⟩) hS.2.2 dX12_candidate_82
          · skip
            have f62 : p2.toInt < 0 := b_nle (by decide) rfl c35
            refine lv_iconst (v := (-1)) hx hb dX12_candidate_48 (by decide) ?_
            have pq63 : (V1 0 95).toInt = ((V 0 95)).toInt := congrArg Int32.toInt (up2_k hV1 (by decide))
            have r64 : 0 ≤ ((V 0 95)).toInt ∧ ((V 0 95)).toInt ≤ 300 := hMV 0 95
            have fz65 : (V 0 95).toInt = 0 := r0.2.2.2.2
            have r066 : RT0 V1 := RT0.ag r0 hMV (show agr [(0, 0)] [] V V1 from (agr.up agr.rf hV1 rfl)) ⟨⟨rfl, fun _ => rfl, fun _ => rfl, fun _ => rfl, fun _ => rfl, fun _ => rfl, fun _ => rfl⟩, by decide, by decide, rfl, rfl, fun _ => rfl, fun _ => rfl, fun _ => rfl⟩ (c0k.ag (show agr [(0, 0)] [] V V1 from (agr.up agr.rf hV1 rfl)) rfl) (by (first | exact om_5e83b1f116bb pq63 r64.1 fz65 | omega))
            exact W.iret (v := (-1)) hx hb hr (fun t ht hW => ⟨⟨(-1), (V1, L), rfl, ⟨hMV1, agV1, rfl, r066⟩, by rw [ht]; exact hP, va_K.moved hW.alike hK, hD⟩, hS.F ht⟩) hS.2.2 dX12_candidate_49
abbrev r_s_setting2 : Room := { frames := 0, cells := 0, slots := 0, locals := 0 }
abbrev q_s_setting2 (D : va_G) (ks : KS) (ad : Nat → Nat) (kk : Nat → ClassId) (V : Vf) (L : Lf) (p0 : Int32) (p1 : Int32) (A : Nat → Prop) : Array Value → State → Outcome → State → Prop := va_Qi (fun (r : Int32) (u : Vf × Lf) => rgd bM u.1 ∧ agr [(0, 0)] [18] V u.1 ∧ u.2 = L ∧ (0 ≤ r.toInt ∧ r.toInt ≤ 1) ∧ (RT0 u.1)) (fun u t => gq D A (mw ad kk ks.1 u.1 u.2) (mty kk) t) A
set_option maxHeartbeats 4000000 in
set_option maxRecDepth 100000 in
theorem s_setting2 (l : Launch) (D : va_G) (ks : KS) (sz : Nat) (ad : Nat → Nat) (kk : Nat → ClassId) (V : Vf) (L : Lf) (p0 : Int32) (p1 : Int32) (hMV : rgd bM V) (r0 : RT0 V)  : Met l yX12_setting (Cond.code yX12_setting cX12_setting 3 (some .boolean) :: GW) r_s_setting2 (va_Pc [.ref (ad 0), .int p0, .int p1] (gp D ks (mw ad kk ks.1 V L) (mty kk) sz)) (q_s_setting2 D ks ad kk V L p0 p1 (va_A (mw ad kk ks.1 V L) sz)) 0 0 (va_A (mw ad kk ks.1 V L) sz) := by
  refine g_met (q_s_setting2 D ks ad kk V L p0 p1) (by decide) (Nat.le_of_ble_eq_true rfl) ?_
  intro p e s m below meth c A ls H locs hx hb hr hml hown hg hlocks hin hnw hgk hP hK hD hS hA hl
  have hown : s.vm.findClass RX12 = some m.cls := hown
  have hl : lv_has ls 3 [(0, .ref (ad 0)), (1, .int p0), (2, .int p1)] := hl
  have hP : va_P D vwCl (mw ad kk ks.1 V L) H := hP
  have hD : va_D A (mw ad kk ks.1 V L) := hD
  have hK : va_K D vwCl (mty kk) s := hK
  have agV : agr [(0, 0)] [18] V V := agr.rf
  refine lv_aload_n hx hb dX12_setting_0 rfl (lv_at hl 0 rfl) ?_
  refine lv_iconst (v := 0) hx hb dX12_setting_1 (by decide) ?_
  refine va_put (D := D) (ci := 12) (v := .int 0) (ty := tyX12 0) (C := RX12) (T := TX12) (N := 100) hx hb hg inX12 tyX12 tyX12_ok nmX12 hown hK hP hD hS 0 rfl rfl 0 (by decide) (hg _ w1706) (fun _ h9 => h9) rfl (tyX12_ok 0 (by decide)) rfl rfl (Nat.le_of_ble_eq_true rfl) dX12_setting_2 (fun H locs hP hD hS => ?_)
  obtain ⟨V1, hV1⟩ : ∃ z, z = up2 V 0 0 0 := ⟨_, rfl⟩
  have hP : va_P D vwCl (mw ad kk ks.1 V1 L) H := by rw [hV1]; exact hP
  have hD : va_D A (mw ad kk ks.1 V1 L) := by rw [hV1]; exact hD
  have hMV1 : rgd bM V1 := hMV.put hV1 (i_full _)
  have agV1 : agr [(0, 0)] [18] V V1 := agV.up hV1 rfl
  refine lv_iload_n hx hb dX12_setting_5 rfl (lv_at hl 1 rfl) ?_
  refine lv_if_lt (tgt := 29) hx hb dX12_setting_6 (by decide) (fun c2 => ?_) (fun c2 => ?_)
  · skip
    have f3 : p0.toInt < 0 := b_lt rfl (by decide) c2
    refine lv_iconst (v := 0) hx hb dX12_setting_29 (by decide) ?_
    have pq4 : (V1 0 95).toInt = ((V 0 95)).toInt := congrArg Int32.toInt (up2_k hV1 (by decide))
    have r5 : 0 ≤ ((V 0 95)).toInt ∧ ((V 0 95)).toInt ≤ 300 := hMV 0 95
    have fz6 : (V 0 95).toInt = 0 := r0.2.2.2.2
    have r07 : RT0 V1 := RT0.ag r0 hMV (show agr [(0, 0)] [] V V1 from (agr.up agr.rf hV1 rfl)) ⟨⟨rfl, fun _ => rfl, fun _ => rfl, fun _ => rfl, fun _ => rfl, fun _ => rfl, fun _ => rfl⟩, by decide, by decide, rfl, rfl, fun _ => rfl, fun _ => rfl, fun _ => rfl⟩ (c0k.ag (show agr [(0, 0)] [] V V1 from (agr.up agr.rf hV1 rfl)) rfl) (by (first | exact om_5e83b1f116bb pq4 r5.1 fz6 | omega))
    exact W.zret (v := 0) hx hb hr rfl (fun t ht hW => ⟨⟨0, (V1, L), rfl, ⟨hMV1, agV1, rfl, (by decide), r07⟩, by rw [ht]; exact hP, va_K.moved hW.alike hK, hD⟩, hS.F ht⟩) hS.2.2 dX12_setting_30
  · skip
    have f8 : 0 ≤ p0.toInt := b_nlt rfl (by decide) c2
    refine lv_iload_n hx hb dX12_setting_9 rfl (lv_at hl 1 rfl) ?_
    refine lv_aload_n hx hb dX12_setting_10 rfl (lv_at hl 0 rfl) ?_
    refine va_get (D := D) (ci := 12) (v := .ref (ad 16)) (C := RX12) (T := TX12) (N := 100) hx hb hg inX12 hown hK hP 0 rfl rfl 16 (by decide) (hg _ w1722) (fun _ h9 => h9) rfl dX12_setting_11 ?_
    refine lv_aload_n hx hb dX12_setting_14 rfl (lv_at hl 0 rfl) ?_
    refine va_get (D := D) (ci := 12) (v := .int (V1 0 11)) (C := RX12) (T := TX12) (N := 100) hx hb hg inX12 hown hK hP 0 rfl rfl 11 (by decide) (hg _ w1717) (fun _ h9 => h9) rfl dX12_setting_15 ?_
    refine g_top (v := (V 0 11)) (up2_k hV1 (by decide)) ?_
    have r9 : 0 ≤ ((V 0 11)).toInt ∧ ((V 0 11)).toInt ≤ 1 := hMV 0 11
    refine va_iald (D := D) (i := (V 0 11)) hx hb hK hP 9 8 rfl rfl (i_in (a := ((V 0 11)).toInt) rfl (by first | exact om_8367a84723c7 r9.1 r9.2 | first | omega | ((try (have i_r0 := Imp.go r0 (by omega))); omega))) dX12_setting_18 ?_
    refine g_top (v := (V 16 (Int32.toNatClampNeg (V 0 11)))) (up2_o hV1 (by decide)) ?_
    have r10 : 0 ≤ ((V 16 (Int32.toNatClampNeg (V 0 11)))).toInt ∧ ((V 16 (Int32.toNatClampNeg (V 0 11)))).toInt ≤ 12 := hMV 16 (Int32.toNatClampNeg (V 0 11))
    refine lv_icmp_ge (tgt := 29) hx hb dX12_setting_19 (by decide) (fun c11 => ?_) (fun c11 => ?_)
    · skip
      have f12 : ((V 16 (Int32.toNatClampNeg (V 0 11)))).toInt ≤ p0.toInt := b_le rfl rfl c11
      refine lv_iconst (v := 0) hx hb dX12_setting_29 (by decide) ?_
      have pq13 : (V1 0 95).toInt = ((V 0 95)).toInt := congrArg Int32.toInt (up2_k hV1 (by decide))
      have r14 : 0 ≤ ((V 0 95)).toInt ∧ ((V 0 95)).toInt ≤ 300 := hMV 0 95
      have fz15 : (V 0 95).toInt = 0 := r0.2.2.2.2
      have r016 : RT0 V1 := RT0.ag r0 hMV (show agr [(0, 0)] [] V V1 from (agr.up agr.rf hV1 rfl)) ⟨⟨rfl, fun _ => rfl, fun _ => rfl, fun _ => rfl, fun _ => rfl, fun _ => rfl, fun _ => rfl⟩, by decide, by decide, rfl, rfl, fun _ => rfl, fun _ => rfl, fun _ => rfl⟩ (c0k.ag (show agr [(0, 0)] [] V V1 from (agr.up agr.rf hV1 rfl)) rfl) (by (first | exact om_5e83b1f116bb pq13 r14.1 fz15 | omega))
      exact W.zret (v := 0) hx hb hr rfl (fun t ht hW => ⟨⟨0, (V1, L), rfl, ⟨hMV1, agV1, rfl, (by decide), r016⟩, by rw [ht]; exact hP, va_K.moved hW.alike hK, hD⟩, hS.F ht⟩) hS.2.2 dX12_setting_30
    · skip
      have f17 : p0.toInt < ((V 16 (Int32.toNatClampNeg (V 0 11)))).toInt := b_nle rfl rfl c11
      refine lv_aload_n hx hb dX12_setting_22 rfl (lv_at hl 0 rfl) ?_
      refine va_get (D := D) (ci := 12) (v := .int (V1 0 54)) (C := RX12) (T := TX12) (N := 100) hx hb hg inX12 hown hK hP 0 rfl rfl 54 (by decide) (hg _ w1760) (fun _ h9 => h9) rfl dX12_setting_23 ?_
      refine g_top (v := (V 0 54)) (up2_k hV1 (by decide)) ?_
      have r18 : 0 ≤ ((V 0 54)).toInt ∧ ((V 0 54)).toInt ≤ 1 := hMV 0 54
      refine lv_if_eq (tgt := 31) hx hb dX12_setting_26 (by decide) (fun c19 => ?_) (fun c19 => ?_)
      · skip
        have f20 : ((V 0 54)).toInt = 0 := b_eq rfl (by decide) c19
        refine lv_aload_n hx hb dX12_setting_31 rfl (lv_at hl 0 rfl) ?_
        refine va_get (D := D) (ci := 12) (v := .ref (ad 18)) (C := RX12) (T := TX12) (N := 100) hx hb hg inX12 hown hK hP 0 rfl rfl 18 (by decide) (hg _ w1724) (fun _ h9 => h9) rfl dX12_setting_32 ?_
        refine lv_bipush (v := 12) hx hb dX12_setting_35 (by decide) ?_
        refine lv_aload_n hx hb dX12_setting_37 rfl (lv_at hl 0 rfl) ?_
        refine va_get (D := D) (ci := 12) (v := .int (V1 0 11)) (C := RX12) (T := TX12) (N := 100) hx hb hg inX12 hown hK hP 0 rfl rfl 11 (by decide) (hg _ w1717) (fun _ h9 => h9) rfl dX12_setting_38 ?_
        refine g_top (v := (V 0 11)) (up2_k hV1 (by decide)) ?_
        refine lv_imul hx hb dX12_setting_41 ?_
        refine lv_topi (fun z21 ez21 => ?_)
        have hz21 : z21.toInt = 12 * ((V 0 11)).toInt := i_mul ez21 (by decide) rfl (by (first | exact om_630bd6ee60c3 r9.1 r9.2 | omega))
        refine lv_iload_n hx hb dX12_setting_42 rfl (lv_at hl 1 rfl) ?_
        refine lv_iadd hx hb dX12_setting_43 ?_
        refine lv_topi (fun z22 ez22 => ?_)
        have hz22 : z22.toInt = z21.toInt + p0.toInt := i_add ez22 rfl rfl (by (first | exact om_4ed441b4c78d f8 r9.1 r9.2 r10.2 f17 hz21 | omega))
        refine lv_iload_n hx hb dX12_setting_44 rfl (lv_at hl 2 rfl) ?_
        refine va_iast (D := D) (i := z22) (x := p1) hx hb hK hP hD hS 11 10 rfl rfl (i_in (a := z22.toInt) rfl (by first | exact om_1a5063b396e7 f8 r9.1 r9.2 r10.2 f17 hz21 hz22 | first | omega | ((try (have i_r0 := Imp.go r0 (by omega))); omega))) dX12_setting_45 (fun H locs hP hD hS => ?_)
        obtain ⟨V23, hV23⟩ : ∃ z, z = up2 V1 18 (Int32.toNatClampNeg z22) p1 := ⟨_, rfl⟩
        have hP : va_P D vwCl (mw ad kk ks.1 V23 L) H := by rw [hV23]; exact hP
        have hD : va_D A (mw ad kk ks.1 V23 L) := by rw [hV23]; exact hD
        have hMV23 : rgd bM V23 := hMV1.put hV23 (i_full _)
        have agV23 : agr [(0, 0)] [18] V V23 := agV1.up hV23 rfl
        refine lv_iconst (v := 1) hx hb dX12_setting_46 (by decide) ?_
        have pq24 : (V1 0 95).toInt = ((V 0 95)).toInt := congrArg Int32.toInt (up2_k hV1 (by decide))
        have r25 : 0 ≤ ((V 0 95)).toInt ∧ ((V 0 95)).toInt ≤ 300 := hMV 0 95
        have fz26 : (V 0 95).toInt = 0 := r0.2.2.2.2
        have r027 : RT0 V1 := RT0.ag r0 hMV (show agr [(0, 0)] [] V V1 from (agr.up agr.rf hV1 rfl)) ⟨⟨rfl, fun _ => rfl, fun _ => rfl, fun _ => rfl, fun _ => rfl, fun _ => rfl, fun _ => rfl⟩, by decide, by decide, rfl, rfl, fun _ => rfl, fun _ => rfl, fun _ => rfl⟩ (c0k.ag (show agr [(0, 0)] [] V V1 from (agr.up agr.rf hV1 rfl)) rfl) (by (first | exact om_5e83b1f116bb pq24 r25.1 fz26 | omega))
        have pq28 : (V1 0 54).toInt = ((V 0 54)).toInt := congrArg Int32.toInt (up2_k hV1 (by decide))
        have r029 : RT0 V23 := RT0.set r027 hMV1 (by (first | exact om_97b844acc88a r18.1 f20 pq28 | omega)) hV23
        exact W.zret (v := 1) hx hb hr rfl (fun t ht hW => ⟨⟨1, (V23, L), rfl, ⟨hMV23, agV23, rfl, (by decide), r029⟩, by rw [ht]; exact hP, va_K.moved hW.alike hK, hD⟩, hS.F ht⟩) hS.2.2 dX12_setting_47
      · skip
        have f30 : ((V 0 54)).toInt ≠ 0 := b_neq rfl (by decide) c19
        refine lv_iconst (v := 0) hx hb dX12_setting_29 (by decide) ?_
        have pq31 : (V1 0 95).toInt = ((V 0 95)).toInt := congrArg Int32.toInt (up2_k hV1 (by decide))
        have r32 : 0 ≤ ((V 0 95)).toInt ∧ ((V 0 95)).toInt ≤ 300 := hMV 0 95
        have fz33 : (V 0 95).toInt = 0 := r0.2.2.2.2
        have r034 : RT0 V1 := RT0.ag r0 hMV (show agr [(0, 0)] [] V V1 from (agr.up agr.rf hV1 rfl)) ⟨⟨rfl, fun _ => rfl, fun _ => rfl, fun _ => rfl, fun _ => rfl, fun _ => rfl, fun _ => rfl⟩, by decide, by decide, rfl, rfl, fun _ => rfl, fun _ => rfl, fun _ => rfl⟩ (c0k.ag (show agr [(0, 0)] [] V V1 from (agr.up agr.rf hV1 rfl)) rfl) (by (first | exact om_5e83b1f116bb pq31 r32.1 fz33 | omega))
        exact W.zret (v := 0) hx hb hr rfl (fun t ht hW => ⟨⟨0, (V1, L), rfl, ⟨hMV1, agV1, rfl, (by decide), r034⟩, by rw [ht]; exact hP, va_K.moved hW.alike hK, hD⟩, hS.F ht⟩) hS.2.2 dX12_setting_30
theorem ti_feed {V W : Vf} {n : Nat} (h : TI V n) (hM : rgd bM V) (a : agr [(0, 0), (0, 2)] [1] V W) : TI W (n + 1) := TI.ag h (RT0.ag h.1 hM a ⟨⟨rfl, fun _ => rfl, fun _ => rfl, fun _ => rfl, fun _ => rfl, fun _ => rfl, fun _ => rfl⟩, by decide, by decide, rfl, rfl, fun _ => rfl, fun _ => rfl, fun _ => rfl⟩ (c0k.ag a rfl) (by rw [a 0 95 rfl]; exact h.1.2.2.2.2)) a rfl rfl rfl rfl rfl
theorem ti_named {V W : Vf} {n : Nat} (h : TI V n) (hM : rgd bM V) (a : agr [(0, 0), (0, 2), (0, 3), (0, 7), (0, 8)] [4, 5, 6] V W) : TI W (n + 1) := TI.ag h (RT0.ag h.1 hM a ⟨⟨rfl, fun _ => rfl, fun _ => rfl, fun _ => rfl, fun _ => rfl, fun _ => rfl, fun _ => rfl⟩, by decide, by decide, rfl, rfl, fun _ => rfl, fun _ => rfl, fun _ => rfl⟩ (c0k.ag a rfl) (by rw [a 0 95 rfl]; exact h.1.2.2.2.2)) a rfl rfl rfl rfl rfl
theorem ti_fault {V W : Vf} {n : Nat} (h : TI V n) (hM : rgd bM V) (a : agr [(0, 0)] [] V W) : TI W (n + 1) := TI.ag h (RT0.ag h.1 hM a ⟨⟨rfl, fun _ => rfl, fun _ => rfl, fun _ => rfl, fun _ => rfl, fun _ => rfl, fun _ => rfl⟩, by decide, by decide, rfl, rfl, fun _ => rfl, fun _ => rfl, fun _ => rfl⟩ (c0k.ag a rfl) (by rw [a 0 95 rfl]; exact h.1.2.2.2.2)) a rfl rfl rfl rfl rfl
theorem ti_cycle {V W : Vf} {n : Nat} (h : TI V n) (hM : rgd bM V) (a : agr [(0, 0)] [] V W) : TI W (n + 1) := TI.ag h (RT0.ag h.1 hM a ⟨⟨rfl, fun _ => rfl, fun _ => rfl, fun _ => rfl, fun _ => rfl, fun _ => rfl, fun _ => rfl⟩, by decide, by decide, rfl, rfl, fun _ => rfl, fun _ => rfl, fun _ => rfl⟩ (c0k.ag a rfl) (by rw [a 0 95 rfl]; exact h.1.2.2.2.2)) a rfl rfl rfl rfl rfl
theorem ti_component {V W : Vf} {n : Nat} (h : TI V n) (hM : rgd bM V) (a : agr [(0, 0)] [] V W) : TI W (n + 1) := TI.ag h (RT0.ag h.1 hM a ⟨⟨rfl, fun _ => rfl, fun _ => rfl, fun _ => rfl, fun _ => rfl, fun _ => rfl, fun _ => rfl⟩, by decide, by decide, rfl, rfl, fun _ => rfl, fun _ => rfl, fun _ => rfl⟩ (c0k.ag a rfl) (by rw [a 0 95 rfl]; exact h.1.2.2.2.2)) a rfl rfl rfl rfl rfl
theorem ti_day {V W : Vf} {n : Nat} (h : TI V n) (hM : rgd bM V) (a : agr [(0, 0), (0, 55)] [56, 57, 58, 59] V W) : TI W (n + 1) := TI.ag h (RT0.ag h.1 hM a ⟨⟨rfl, fun _ => rfl, fun _ => rfl, fun _ => rfl, fun _ => rfl, fun _ => rfl, fun _ => rfl⟩, by decide, by decide, rfl, rfl, fun _ => rfl, fun _ => rfl, fun _ => rfl⟩ (c0k.ag a rfl) (by rw [a 0 95 rfl]; exact h.1.2.2.2.2)) a rfl rfl rfl rfl rfl
theorem ti_meal {V W : Vf} {n : Nat} (h : TI V n) (hM : rgd bM V) (a : agr [(0, 0), (0, 55)] [56, 57, 58, 59] V W) : TI W (n + 1) := TI.ag h (RT0.ag h.1 hM a ⟨⟨rfl, fun _ => rfl, fun _ => rfl, fun _ => rfl, fun _ => rfl, fun _ => rfl, fun _ => rfl⟩, by decide, by decide, rfl, rfl, fun _ => rfl, fun _ => rfl, fun _ => rfl⟩ (c0k.ag a rfl) (by rw [a 0 95 rfl]; exact h.1.2.2.2.2)) a rfl rfl rfl rfl rfl
theorem ti_outcome {V W : Vf} {n : Nat} (h : TI V n) (hM : rgd bM V) (a : agr [(0, 0)] [] V W) : TI W (n + 1) := TI.ag h (RT0.ag h.1 hM a ⟨⟨rfl, fun _ => rfl, fun _ => rfl, fun _ => rfl, fun _ => rfl, fun _ => rfl, fun _ => rfl⟩, by decide, by decide, rfl, rfl, fun _ => rfl, fun _ => rfl, fun _ => rfl⟩ (c0k.ag a rfl) (by rw [a 0 95 rfl]; exact h.1.2.2.2.2)) a rfl rfl rfl rfl rfl
theorem ti_cause {V W : Vf} {n : Nat} (h : TI V n) (hM : rgd bM V) (a : agr [(0, 0)] [] V W) : TI W (n + 1) := TI.ag h (RT0.ag h.1 hM a ⟨⟨rfl, fun _ => rfl, fun _ => rfl, fun _ => rfl, fun _ => rfl, fun _ => rfl, fun _ => rfl⟩, by decide, by decide, rfl, rfl, fun _ => rfl, fun _ => rfl, fun _ => rfl⟩ (c0k.ag a rfl) (by rw [a 0 95 rfl]; exact h.1.2.2.2.2)) a rfl rfl rfl rfl rfl
theorem ti_object {V W : Vf} {n : Nat} (h : TI V n) (hM : rgd bM V) (a : agr [(0, 0)] [] V W) : TI W (n + 1) := TI.ag h (RT0.ag h.1 hM a ⟨⟨rfl, fun _ => rfl, fun _ => rfl, fun _ => rfl, fun _ => rfl, fun _ => rfl, fun _ => rfl⟩, by decide, by decide, rfl, rfl, fun _ => rfl, fun _ => rfl, fun _ => rfl⟩ (c0k.ag a rfl) (by rw [a 0 95 rfl]; exact h.1.2.2.2.2)) a rfl rfl rfl rfl rfl
theorem ti_joined {V W : Vf} {n : Nat} (h : TI V n) (hM : rgd bM V) (a : agr [(0, 0)] [] V W) : TI W (n + 1) := TI.ag h (RT0.ag h.1 hM a ⟨⟨rfl, fun _ => rfl, fun _ => rfl, fun _ => rfl, fun _ => rfl, fun _ => rfl, fun _ => rfl⟩, by decide, by decide, rfl, rfl, fun _ => rfl, fun _ => rfl, fun _ => rfl⟩ (c0k.ag a rfl) (by rw [a 0 95 rfl]; exact h.1.2.2.2.2)) a rfl rfl rfl rfl rfl
theorem ti_closed {V W : Vf} {n : Nat} (h : TI V n) (hM : rgd bM V) (a : agr [(0, 0)] [] V W) : TI W (n + 1) := TI.ag h (RT0.ag h.1 hM a ⟨⟨rfl, fun _ => rfl, fun _ => rfl, fun _ => rfl, fun _ => rfl, fun _ => rfl, fun _ => rfl⟩, by decide, by decide, rfl, rfl, fun _ => rfl, fun _ => rfl, fun _ => rfl⟩ (c0k.ag a rfl) (by rw [a 0 95 rfl]; exact h.1.2.2.2.2)) a rfl rfl rfl rfl rfl
theorem ti_spoiled {V W : Vf} {n : Nat} (h : TI V n) (hM : rgd bM V) (a : agr [(0, 0)] [] V W) : TI W (n + 1) := TI.ag h (RT0.ag h.1 hM a ⟨⟨rfl, fun _ => rfl, fun _ => rfl, fun _ => rfl, fun _ => rfl, fun _ => rfl, fun _ => rfl⟩, by decide, by decide, rfl, rfl, fun _ => rfl, fun _ => rfl, fun _ => rfl⟩ (c0k.ag a rfl) (by rw [a 0 95 rfl]; exact h.1.2.2.2.2)) a rfl rfl rfl rfl rfl
theorem ti_did {V W : Vf} {n : Nat} (h : TI V n) (hM : rgd bM V) (a : agr [(0, 0)] [] V W) : TI W (n + 1) := TI.ag h (RT0.ag h.1 hM a ⟨⟨rfl, fun _ => rfl, fun _ => rfl, fun _ => rfl, fun _ => rfl, fun _ => rfl, fun _ => rfl⟩, by decide, by decide, rfl, rfl, fun _ => rfl, fun _ => rfl, fun _ => rfl⟩ (c0k.ag a rfl) (by rw [a 0 95 rfl]; exact h.1.2.2.2.2)) a rfl rfl rfl rfl rfl
theorem ti_count {V W : Vf} {n : Nat} (h : TI V n) (hM : rgd bM V) (a : agr [(0, 0)] [] V W) : TI W (n + 1) := TI.ag h (RT0.ag h.1 hM a ⟨⟨rfl, fun _ => rfl, fun _ => rfl, fun _ => rfl, fun _ => rfl, fun _ => rfl, fun _ => rfl⟩, by decide, by decide, rfl, rfl, fun _ => rfl, fun _ => rfl, fun _ => rfl⟩ (c0k.ag a rfl) (by rw [a 0 95 rfl]; exact h.1.2.2.2.2)) a rfl rfl rfl rfl rfl
theorem ti_setting {V W : Vf} {n : Nat} (h : TI V n) (hM : rgd bM V) (a : agr [(0, 0)] [18] V W) (r : RT0 W) : TI W (n + 1) := TI.ag h r a rfl rfl rfl rfl rfl
theorem ti_candidate {V W : Vf} {n : Nat} (h : TI V n) (hM : rgd bM V) (a : agr [(0, 0)] [80] V W) (r : RT0 W) : TI W (n + 1) := TI.ag h r a rfl rfl rfl rfl rfl
theorem ti_check {V W : Vf} {n : Nat} (h : TI V n) (hM : rgd bM V) (a : agr [(0, 0), (0, 54), (0, 81), (0, 89)] [80, 82, 83, 84, 85, 86, 87, 88] V W) (rd : RD W) (ry : Imp ((V 0 54).toInt = 1) ((W 0 54).toInt = 1)) : TI W (n + 1) := TI.ag h (RT0.chk h.1 hM a ⟨rfl, fun _ => rfl, fun _ => rfl, fun _ => rfl, fun _ => rfl, fun _ => rfl, fun _ => rfl⟩ (by decide) (by decide) rfl rfl (fun _ => rfl) (fun _ => rfl) (fun _ => rfl) rd (fun q => Imp.go ry q)) a rfl rfl rfl rfl rfl
theorem ti_book {V W : Vf} {n : Nat} (h : TI V n) (hM : rgd bM V) (hW : rgd bM W) {nx : Nat} {r : Int} (hr : 0 ≤ r) (hnx : (nx : Int) = 1 - (V 0 11).toInt) (a : agr [(0, 0), (0, 2), (0, 3), (0, 7), (0, 8), (0, 11), (0, 12), (0, 48), (0, 49), (0, 50), (0, 51), (0, 52), (0, 54), (0, 55), (0, 60), (0, 65), (0, 69), (0, 70), (0, 71), (0, 72), (0, 73), (0, 76), (0, 81)] [4, 5, 6, 13, 14, 15, 16, 17, 18, 19, 20, 21, 22, 23, 24, 25, 26, 27, 28, 29, 30, 31, 32, 33, 34, 35, 36, 37, 38, 39, 40, 41, 42, 43, 44, 45, 46, 47, 53, 56, 57, 59] V W) (f : fr (tH nx) V W) (t : TB W) (ok : Imp (r = 0) ((W 0 60).toInt = 0 ∧ (W 0 54).toInt = 0 ∧ (W 0 65).toInt = 0 ∧ (W 0 73).toInt = 0 ∧ (W 0 76).toInt = 0)) (no : Imp (1 ≤ r) (agr [(0, 0), (0, 2), (0, 3), (0, 7), (0, 8), (0, 12), (0, 48), (0, 49), (0, 50), (0, 51), (0, 52)] [4, 5, 6, 13, 14, 15, 16, 17, 18, 19, 20, 21, 22, 23, 24, 25, 26, 27, 28, 29, 30, 31, 32, 33, 34, 35, 36, 37, 38, 39, 40, 41, 42, 43, 44, 45, 46, 47, 53] V W)) : TI W (n + 1) := by
  have nb : 0 ≤ (V 0 11).toInt ∧ (V 0 11).toInt ≤ 1 := hM 0 11
  have kn : (nwh V : Int) = (V 0 11).toInt := i_clamp (x := V 0 11) rfl nb.1
  rcases Decidable.em (r = 0) with q | q
  · have o := Imp.go ok q
    have l0 : 0 ≤ (W 0 69).toInt := (hW 0 69).1
    refine ⟨RT0.none t o.2.1 o.1 (by rw [a 0 95 rfl]; exact h.1.2.2.2.2), ?_, ?_, ?_⟩ <;> omega
  · have b := Imp.go no (by omega)
    exact TI.ag h (RT0.bkf h.1 hM hW b f (by omega) t rfl rfl rfl rfl rfl (fun _ => rfl) (fun _ => rfl) (fun _ => rfl)) b rfl rfl rfl rfl rfl
theorem ti_get {V W : Vf} {n : Nat} (h : TI V n) (hM : rgd bM V) (r : RT0 W) (q1 : (W 0 65).toInt ≤ (W 0 60).toInt) (q2 : (W 0 73).toInt - (W 0 65).toInt ≤ (V 0 73).toInt - (V 0 65).toInt + 300) (q3 : (W 0 76).toInt - (W 0 69).toInt - (W 0 73).toInt ≤ (V 0 76).toInt - (V 0 69).toInt - (V 0 73).toInt + 3000) : TI W (n + 1) := by
  have b := h.2
  refine ⟨r, q1, ?_, ?_⟩ <;> omega
end
