/-! the wraps of a method: which, how many, in which order -/
def isWb (V : Vf) (o m ph : Int32) (j : Nat) : Bool := decide (V 41 (12 * nwh V + j) = m ∧ V 43 (12 * nwh V + j) = ph ∧ (V 21 (24 * (24 * nwh V + (V 61 (Int32.toNatClampNeg o)).toInt.toNat) + (V 40 (12 * nwh V + j)).toInt.toNat)).toInt ≠ 0)
def wnum (V : Vf) (j : Nat) : Int := (V 42 (12 * nwh V + j)).toInt
def wmany (V : Vf) : Nat := (V 39 (nwh V)).toInt.toNat
def gwc (f : Nat → Bool) (g : Nat → Int) (n : Int) (w : Nat) : Nat → Nat
  | 0 => 0
  | j + 1 => gwc f g n w j + (if f j = true ∧ (g j < n ∨ (g j = n ∧ j < w)) then 1 else 0)
def wcn (f : Nat → Bool) : Nat → Nat
  | 0 => 0
  | j + 1 => wcn f j + (if f j = true then 1 else 0)
theorem wcn_s (f : Nat → Bool) (W : Nat) : wcn f (W + 1) = wcn f W + (if f W = true then 1 else 0) := rfl
theorem w1803 : Cond.fieldLink RX12 225 "WiringHouseModel" "pile" "[I" ∈ GW := gw_k tk9_7 208 (by decide +kernel) rfl
theorem w2307 : Cond.code yX12_push cX12_push 2 none ∈ GW := gw_k tk9_9 232 (rfl) rfl
theorem w2304 : Cond.methodLink RX12 554 yX12_push ∈ GW := gw_k tk9_9 229 (by decide +kernel) rfl
theorem w2306 : Cond.instanceMethod yX12_push ∈ GW := gw_k tk9_9 231 (by decide +kernel) rfl
theorem w145 : Cond.selects RX12 yX12_push yX12_push ∈ GW := gw_mem 145 (by decide +kernel) rfl
theorem hdV_yX12_push : yX12_push.cls = RX12 ∧ yX12_push.cls ≠ "java/lang/invoke/MethodHandle" ∧ yX12_push.cls ≠ "java/lang/invoke/VarHandle" ∧ (parseMethodDescriptor yX12_push.desc).map (fun d => d.parameters.length) = some 1 := by decide +kernel
theorem w2279 : Cond.code yX12_pop cX12_pop 1 (some .int) ∈ GW := gw_k tk9_9 204 (rfl) rfl
theorem w2276 : Cond.methodLink RX12 551 yX12_pop ∈ GW := gw_k tk9_9 201 (by decide +kernel) rfl
theorem w2278 : Cond.instanceMethod yX12_pop ∈ GW := gw_k tk9_9 203 (by decide +kernel) rfl
theorem w138 : Cond.selects RX12 yX12_pop yX12_pop ∈ GW := gw_mem 138 (by decide +kernel) rfl
theorem hdV_yX12_pop : yX12_pop.cls = RX12 ∧ yX12_pop.cls ≠ "java/lang/invoke/MethodHandle" ∧ yX12_pop.cls ≠ "java/lang/invoke/VarHandle" ∧ (parseMethodDescriptor yX12_pop.desc).map (fun d => d.parameters.length) = some 0 := by decide +kernel
theorem w2250 : Cond.code yX12_fails cX12_fails 2 (some .int) ∈ GW := gw_k tk9_9 175 (rfl) rfl
theorem w2247 : Cond.methodLink RX12 484 yX12_fails ∈ GW := gw_k tk9_9 172 (by decide +kernel) rfl
theorem w2249 : Cond.instanceMethod yX12_fails ∈ GW := gw_k tk9_9 174 (by decide +kernel) rfl
theorem w131 : Cond.selects RX12 yX12_fails yX12_fails ∈ GW := gw_mem 131 (by decide +kernel) rfl
theorem hdV_yX12_fails : yX12_fails.cls = RX12 ∧ yX12_fails.cls ≠ "java/lang/invoke/MethodHandle" ∧ yX12_fails.cls ≠ "java/lang/invoke/VarHandle" ∧ (parseMethodDescriptor yX12_fails.desc).map (fun d => d.parameters.length) = some 1 := by decide +kernel
theorem w2262 : Cond.code yX12_step cX12_step 1 (some .boolean) ∈ GW := gw_k tk9_9 187 (rfl) rfl
theorem w2259 : Cond.methodLink RX12 497 yX12_step ∈ GW := gw_k tk9_9 184 (by decide +kernel) rfl
theorem w2261 : Cond.instanceMethod yX12_step ∈ GW := gw_k tk9_9 186 (by decide +kernel) rfl
theorem w134 : Cond.selects RX12 yX12_step yX12_step ∈ GW := gw_mem 134 (by decide +kernel) rfl
theorem hdV_yX12_step : yX12_step.cls = RX12 ∧ yX12_step.cls ≠ "java/lang/invoke/MethodHandle" ∧ yX12_step.cls ≠ "java/lang/invoke/VarHandle" ∧ (parseMethodDescriptor yX12_step.desc).map (fun d => d.parameters.length) = some 0 := by decide +kernel
theorem w2291 : Cond.code yX12_isWrap cX12_isWrap 6 (some .boolean) ∈ GW := gw_k tk9_9 216 (rfl) rfl
theorem w2288 : Cond.methodLink RX12 516 yX12_isWrap ∈ GW := gw_k tk9_9 213 (by decide +kernel) rfl
theorem w2290 : Cond.instanceMethod yX12_isWrap ∈ GW := gw_k tk9_9 215 (by decide +kernel) rfl
theorem w141 : Cond.selects RX12 yX12_isWrap yX12_isWrap ∈ GW := gw_mem 141 (by decide +kernel) rfl
theorem hdV_yX12_isWrap : yX12_isWrap.cls = RX12 ∧ yX12_isWrap.cls ≠ "java/lang/invoke/MethodHandle" ∧ yX12_isWrap.cls ≠ "java/lang/invoke/VarHandle" ∧ (parseMethodDescriptor yX12_isWrap.desc).map (fun d => d.parameters.length) = some 4 := by decide +kernel
theorem dk9_dX12_push_0_0 : dOk cX12_push [(0, .aload_n 0, 1), (1, .getfield 225, 3), (4, .aload_n 0, 1), (5, .getfield 548, 3), (8, .iload_n 1, 1), (9, .iastore, 1), (10, .aload_n 0, 1), (11, .dup, 1), (12, .getfield 548, 3), (15, .iconst 1, 1), (16, .iadd, 1), (17, .putfield 548, 3), (20, .return_, 1)] = true := by decide +kernel
theorem dX12_push_0 : decode cX12_push 0 = .ok (.aload_n 0, 1) := dr9 dk9_dX12_push_0_0 0 (0, .aload_n 0, 1) rfl
theorem dX12_push_1 : decode cX12_push 1 = .ok (.getfield 225, 3) := dr9 dk9_dX12_push_0_0 1 (1, .getfield 225, 3) rfl
theorem dX12_push_4 : decode cX12_push 4 = .ok (.aload_n 0, 1) := dr9 dk9_dX12_push_0_0 2 (4, .aload_n 0, 1) rfl
theorem dX12_push_5 : decode cX12_push 5 = .ok (.getfield 548, 3) := dr9 dk9_dX12_push_0_0 3 (5, .getfield 548, 3) rfl
theorem dX12_push_8 : decode cX12_push 8 = .ok (.iload_n 1, 1) := dr9 dk9_dX12_push_0_0 4 (8, .iload_n 1, 1) rfl
theorem dX12_push_9 : decode cX12_push 9 = .ok (.iastore, 1) := dr9 dk9_dX12_push_0_0 5 (9, .iastore, 1) rfl
theorem dX12_push_10 : decode cX12_push 10 = .ok (.aload_n 0, 1) := dr9 dk9_dX12_push_0_0 6 (10, .aload_n 0, 1) rfl
theorem dX12_push_11 : decode cX12_push 11 = .ok (.dup, 1) := dr9 dk9_dX12_push_0_0 7 (11, .dup, 1) rfl
theorem dX12_push_12 : decode cX12_push 12 = .ok (.getfield 548, 3) := dr9 dk9_dX12_push_0_0 8 (12, .getfield 548, 3) rfl
theorem dX12_push_15 : decode cX12_push 15 = .ok (.iconst 1, 1) := dr9 dk9_dX12_push_0_0 9 (15, .iconst 1, 1) rfl
theorem dX12_push_16 : decode cX12_push 16 = .ok (.iadd, 1) := dr9 dk9_dX12_push_0_0 10 (16, .iadd, 1) rfl
theorem dX12_push_17 : decode cX12_push 17 = .ok (.putfield 548, 3) := dr9 dk9_dX12_push_0_0 11 (17, .putfield 548, 3) rfl
theorem dX12_push_20 : decode cX12_push 20 = .ok (.return_, 1) := dr9 dk9_dX12_push_0_0 12 (20, .return_, 1) rfl
theorem dk9_dX12_pop_0_0 : dOk cX12_pop [(0, .aload_n 0, 1), (1, .dup, 1), (2, .getfield 548, 3), (5, .iconst 1, 1), (6, .isub, 1), (7, .putfield 548, 3), (10, .aload_n 0, 1), (11, .getfield 225, 3), (14, .aload_n 0, 1), (15, .getfield 548, 3), (18, .iaload, 1), (19, .ireturn, 1)] = true := by decide +kernel
theorem dX12_pop_0 : decode cX12_pop 0 = .ok (.aload_n 0, 1) := dr9 dk9_dX12_pop_0_0 0 (0, .aload_n 0, 1) rfl
theorem dX12_pop_1 : decode cX12_pop 1 = .ok (.dup, 1) := dr9 dk9_dX12_pop_0_0 1 (1, .dup, 1) rfl
theorem dX12_pop_2 : decode cX12_pop 2 = .ok (.getfield 548, 3) := dr9 dk9_dX12_pop_0_0 2 (2, .getfield 548, 3) rfl
theorem dX12_pop_5 : decode cX12_pop 5 = .ok (.iconst 1, 1) := dr9 dk9_dX12_pop_0_0 3 (5, .iconst 1, 1) rfl
theorem dX12_pop_6 : decode cX12_pop 6 = .ok (.isub, 1) := dr9 dk9_dX12_pop_0_0 4 (6, .isub, 1) rfl
theorem dX12_pop_7 : decode cX12_pop 7 = .ok (.putfield 548, 3) := dr9 dk9_dX12_pop_0_0 5 (7, .putfield 548, 3) rfl
theorem dX12_pop_10 : decode cX12_pop 10 = .ok (.aload_n 0, 1) := dr9 dk9_dX12_pop_0_0 6 (10, .aload_n 0, 1) rfl
theorem dX12_pop_11 : decode cX12_pop 11 = .ok (.getfield 225, 3) := dr9 dk9_dX12_pop_0_0 7 (11, .getfield 225, 3) rfl
theorem dX12_pop_14 : decode cX12_pop 14 = .ok (.aload_n 0, 1) := dr9 dk9_dX12_pop_0_0 8 (14, .aload_n 0, 1) rfl
theorem dX12_pop_15 : decode cX12_pop 15 = .ok (.getfield 548, 3) := dr9 dk9_dX12_pop_0_0 9 (15, .getfield 548, 3) rfl
theorem dX12_pop_18 : decode cX12_pop 18 = .ok (.iaload, 1) := dr9 dk9_dX12_pop_0_0 10 (18, .iaload, 1) rfl
theorem dX12_pop_19 : decode cX12_pop 19 = .ok (.ireturn, 1) := dr9 dk9_dX12_pop_0_0 11 (19, .ireturn, 1) rfl
theorem dk9_dX12_reckons_0_0 : dOk cX12_reckons [(0, .iload_n 1, 1), (1, .iconst 1, 1), (2, .if_icmp .ne 16, 3), (18, .iload_n 1, 1), (19, .bipush 10, 2), (21, .if_icmp .ne 9, 3), (30, .iload_n 1, 1), (31, .iconst 2, 1), (32, .if_icmp .eq 9, 3), (41, .aload_n 0, 1), (42, .iload_n 1, 1), (43, .iconst 2, 1), (44, .if_icmp .ne 7, 3), (47, .iload_n 2, 1), (48, .goto 17, 3), (65, .invokevirtual 554, 3), (68, .goto 104, 3), (172, .iconst 0, 1), (173, .ireturn, 1), (35, .iload_n 1, 1), (36, .bipush 11, 2), (38, .if_icmp .ne 33, 3), (71, .iload_n 1, 1), (72, .iconst 4, 1)] = true ∧ dOk cX12_reckons [(73, .if_icmp .ne 15, 3), (88, .aload_n 0, 1), (89, .invokevirtual 551, 3), (92, .istore_n 3, 1), (93, .aload_n 0, 1), (94, .invokevirtual 551, 3), (97, .istore 4, 2), (99, .aload_n 0, 1), (100, .iload_n 1, 1), (101, .iconst 5, 1), (102, .if_icmp .ne 10, 3), (112, .iload_n 1, 1), (113, .bipush 6, 2), (115, .if_icmp .ne 10, 3), (125, .iload_n 1, 1), (126, .bipush 7, 2), (128, .if_icmp .ne 10, 3), (138, .iload_n 1, 1), (139, .bipush 8, 2), (141, .if_icmp .ne 17, 3), (158, .iload 4, 2), (160, .iload_n 3, 1), (161, .if_icmp .ne 7, 3), (168, .iconst 0, 1)] = true ∧ dOk cX12_reckons [(169, .invokevirtual 554, 3), (164, .iconst 1, 1), (165, .goto 4, 3), (144, .iload 4, 2), (146, .iload_n 3, 1), (147, .if_icmp .ge 7, 3), (154, .iconst 0, 1), (155, .goto 14, 3), (150, .iconst 1, 1), (151, .goto 18, 3), (131, .iload 4, 2), (133, .iload_n 3, 1), (134, .isub, 1), (135, .goto 34, 3), (118, .iload 4, 2), (120, .iload_n 3, 1), (121, .iadd, 1), (122, .goto 47, 3), (105, .iload 4, 2), (107, .iload_n 3, 1), (108, .imul, 1), (109, .goto 60, 3), (76, .aload_n 0, 1), (77, .aload_n 0, 1)] = true ∧ dOk cX12_reckons [(78, .invokevirtual 551, 3), (81, .ineg, 1), (82, .invokevirtual 554, 3), (85, .goto 87, 3), (51, .aload_n 0, 1), (52, .getfield 59, 3), (55, .bipush 12, 2), (57, .aload_n 0, 1), (58, .getfield 286, 3), (61, .imul, 1), (62, .iload_n 2, 1), (63, .iadd, 1), (64, .iaload, 1), (24, .aload_n 0, 1), (25, .iload_n 2, 1), (26, .invokevirtual 484, 3), (29, .ireturn, 1), (5, .aload_n 0, 1), (6, .invokevirtual 497, 3), (9, .ifCond .eq 7, 3), (16, .iconst 2, 1), (17, .ireturn, 1), (12, .iconst 0, 1), (13, .goto 4, 3)] = true := by decide +kernel
theorem dX12_reckons_0 : decode cX12_reckons 0 = .ok (.iload_n 1, 1) := dr9 dk9_dX12_reckons_0_0.1 0 (0, .iload_n 1, 1) rfl
theorem dX12_reckons_1 : decode cX12_reckons 1 = .ok (.iconst 1, 1) := dr9 dk9_dX12_reckons_0_0.1 1 (1, .iconst 1, 1) rfl
theorem dX12_reckons_2 : decode cX12_reckons 2 = .ok (.if_icmp .ne 16, 3) := dr9 dk9_dX12_reckons_0_0.1 2 (2, .if_icmp .ne 16, 3) rfl
theorem dX12_reckons_18 : decode cX12_reckons 18 = .ok (.iload_n 1, 1) := dr9 dk9_dX12_reckons_0_0.1 3 (18, .iload_n 1, 1) rfl
theorem dX12_reckons_19 : decode cX12_reckons 19 = .ok (.bipush 10, 2) := dr9 dk9_dX12_reckons_0_0.1 4 (19, .bipush 10, 2) rfl
theorem dX12_reckons_21 : decode cX12_reckons 21 = .ok (.if_icmp .ne 9, 3) := dr9 dk9_dX12_reckons_0_0.1 5 (21, .if_icmp .ne 9, 3) rfl
theorem dX12_reckons_30 : decode cX12_reckons 30 = .ok (.iload_n 1, 1) := dr9 dk9_dX12_reckons_0_0.1 6 (30, .iload_n 1, 1) rfl
theorem dX12_reckons_31 : decode cX12_reckons 31 = .ok (.iconst 2, 1) := dr9 dk9_dX12_reckons_0_0.1 7 (31, .iconst 2, 1) rfl
theorem dX12_reckons_32 : decode cX12_reckons 32 = .ok (.if_icmp .eq 9, 3) := dr9 dk9_dX12_reckons_0_0.1 8 (32, .if_icmp .eq 9, 3) rfl
theorem dX12_reckons_41 : decode cX12_reckons 41 = .ok (.aload_n 0, 1) := dr9 dk9_dX12_reckons_0_0.1 9 (41, .aload_n 0, 1) rfl
theorem dX12_reckons_42 : decode cX12_reckons 42 = .ok (.iload_n 1, 1) := dr9 dk9_dX12_reckons_0_0.1 10 (42, .iload_n 1, 1) rfl
theorem dX12_reckons_43 : decode cX12_reckons 43 = .ok (.iconst 2, 1) := dr9 dk9_dX12_reckons_0_0.1 11 (43, .iconst 2, 1) rfl
theorem dX12_reckons_44 : decode cX12_reckons 44 = .ok (.if_icmp .ne 7, 3) := dr9 dk9_dX12_reckons_0_0.1 12 (44, .if_icmp .ne 7, 3) rfl
theorem dX12_reckons_47 : decode cX12_reckons 47 = .ok (.iload_n 2, 1) := dr9 dk9_dX12_reckons_0_0.1 13 (47, .iload_n 2, 1) rfl
theorem dX12_reckons_48 : decode cX12_reckons 48 = .ok (.goto 17, 3) := dr9 dk9_dX12_reckons_0_0.1 14 (48, .goto 17, 3) rfl
theorem dX12_reckons_65 : decode cX12_reckons 65 = .ok (.invokevirtual 554, 3) := dr9 dk9_dX12_reckons_0_0.1 15 (65, .invokevirtual 554, 3) rfl
theorem dX12_reckons_68 : decode cX12_reckons 68 = .ok (.goto 104, 3) := dr9 dk9_dX12_reckons_0_0.1 16 (68, .goto 104, 3) rfl
theorem dX12_reckons_172 : decode cX12_reckons 172 = .ok (.iconst 0, 1) := dr9 dk9_dX12_reckons_0_0.1 17 (172, .iconst 0, 1) rfl
theorem dX12_reckons_173 : decode cX12_reckons 173 = .ok (.ireturn, 1) := dr9 dk9_dX12_reckons_0_0.1 18 (173, .ireturn, 1) rfl
theorem dX12_reckons_35 : decode cX12_reckons 35 = .ok (.iload_n 1, 1) := dr9 dk9_dX12_reckons_0_0.1 19 (35, .iload_n 1, 1) rfl
theorem dX12_reckons_36 : decode cX12_reckons 36 = .ok (.bipush 11, 2) := dr9 dk9_dX12_reckons_0_0.1 20 (36, .bipush 11, 2) rfl
theorem dX12_reckons_38 : decode cX12_reckons 38 = .ok (.if_icmp .ne 33, 3) := dr9 dk9_dX12_reckons_0_0.1 21 (38, .if_icmp .ne 33, 3) rfl
theorem dX12_reckons_71 : decode cX12_reckons 71 = .ok (.iload_n 1, 1) := dr9 dk9_dX12_reckons_0_0.1 22 (71, .iload_n 1, 1) rfl
theorem dX12_reckons_72 : decode cX12_reckons 72 = .ok (.iconst 4, 1) := dr9 dk9_dX12_reckons_0_0.1 23 (72, .iconst 4, 1) rfl
theorem dX12_reckons_73 : decode cX12_reckons 73 = .ok (.if_icmp .ne 15, 3) := dr9 dk9_dX12_reckons_0_0.2.1 0 (73, .if_icmp .ne 15, 3) rfl
theorem dX12_reckons_88 : decode cX12_reckons 88 = .ok (.aload_n 0, 1) := dr9 dk9_dX12_reckons_0_0.2.1 1 (88, .aload_n 0, 1) rfl
theorem dX12_reckons_89 : decode cX12_reckons 89 = .ok (.invokevirtual 551, 3) := dr9 dk9_dX12_reckons_0_0.2.1 2 (89, .invokevirtual 551, 3) rfl
theorem dX12_reckons_92 : decode cX12_reckons 92 = .ok (.istore_n 3, 1) := dr9 dk9_dX12_reckons_0_0.2.1 3 (92, .istore_n 3, 1) rfl
theorem dX12_reckons_93 : decode cX12_reckons 93 = .ok (.aload_n 0, 1) := dr9 dk9_dX12_reckons_0_0.2.1 4 (93, .aload_n 0, 1) rfl
theorem dX12_reckons_94 : decode cX12_reckons 94 = .ok (.invokevirtual 551, 3) := dr9 dk9_dX12_reckons_0_0.2.1 5 (94, .invokevirtual 551, 3) rfl
theorem dX12_reckons_97 : decode cX12_reckons 97 = .ok (.istore 4, 2) := dr9 dk9_dX12_reckons_0_0.2.1 6 (97, .istore 4, 2) rfl
theorem dX12_reckons_99 : decode cX12_reckons 99 = .ok (.aload_n 0, 1) := dr9 dk9_dX12_reckons_0_0.2.1 7 (99, .aload_n 0, 1) rfl
theorem dX12_reckons_100 : decode cX12_reckons 100 = .ok (.iload_n 1, 1) := dr9 dk9_dX12_reckons_0_0.2.1 8 (100, .iload_n 1, 1) rfl
theorem dX12_reckons_101 : decode cX12_reckons 101 = .ok (.iconst 5, 1) := dr9 dk9_dX12_reckons_0_0.2.1 9 (101, .iconst 5, 1) rfl
theorem dX12_reckons_102 : decode cX12_reckons 102 = .ok (.if_icmp .ne 10, 3) := dr9 dk9_dX12_reckons_0_0.2.1 10 (102, .if_icmp .ne 10, 3) rfl
theorem dX12_reckons_112 : decode cX12_reckons 112 = .ok (.iload_n 1, 1) := dr9 dk9_dX12_reckons_0_0.2.1 11 (112, .iload_n 1, 1) rfl
theorem dX12_reckons_113 : decode cX12_reckons 113 = .ok (.bipush 6, 2) := dr9 dk9_dX12_reckons_0_0.2.1 12 (113, .bipush 6, 2) rfl
theorem dX12_reckons_115 : decode cX12_reckons 115 = .ok (.if_icmp .ne 10, 3) := dr9 dk9_dX12_reckons_0_0.2.1 13 (115, .if_icmp .ne 10, 3) rfl
theorem dX12_reckons_125 : decode cX12_reckons 125 = .ok (.iload_n 1, 1) := dr9 dk9_dX12_reckons_0_0.2.1 14 (125, .iload_n 1, 1) rfl
theorem dX12_reckons_126 : decode cX12_reckons 126 = .ok (.bipush 7, 2) := dr9 dk9_dX12_reckons_0_0.2.1 15 (126, .bipush 7, 2) rfl
theorem dX12_reckons_128 : decode cX12_reckons 128 = .ok (.if_icmp .ne 10, 3) := dr9 dk9_dX12_reckons_0_0.2.1 16 (128, .if_icmp .ne 10, 3) rfl
theorem dX12_reckons_138 : decode cX12_reckons 138 = .ok (.iload_n 1, 1) := dr9 dk9_dX12_reckons_0_0.2.1 17 (138, .iload_n 1, 1) rfl
theorem dX12_reckons_139 : decode cX12_reckons 139 = .ok (.bipush 8, 2) := dr9 dk9_dX12_reckons_0_0.2.1 18 (139, .bipush 8, 2) rfl
theorem dX12_reckons_141 : decode cX12_reckons 141 = .ok (.if_icmp .ne 17, 3) := dr9 dk9_dX12_reckons_0_0.2.1 19 (141, .if_icmp .ne 17, 3) rfl
theorem dX12_reckons_158 : decode cX12_reckons 158 = .ok (.iload 4, 2) := dr9 dk9_dX12_reckons_0_0.2.1 20 (158, .iload 4, 2) rfl
theorem dX12_reckons_160 : decode cX12_reckons 160 = .ok (.iload_n 3, 1) := dr9 dk9_dX12_reckons_0_0.2.1 21 (160, .iload_n 3, 1) rfl
theorem dX12_reckons_161 : decode cX12_reckons 161 = .ok (.if_icmp .ne 7, 3) := dr9 dk9_dX12_reckons_0_0.2.1 22 (161, .if_icmp .ne 7, 3) rfl
theorem dX12_reckons_168 : decode cX12_reckons 168 = .ok (.iconst 0, 1) := dr9 dk9_dX12_reckons_0_0.2.1 23 (168, .iconst 0, 1) rfl
theorem dX12_reckons_169 : decode cX12_reckons 169 = .ok (.invokevirtual 554, 3) := dr9 dk9_dX12_reckons_0_0.2.2.1 0 (169, .invokevirtual 554, 3) rfl
theorem dX12_reckons_164 : decode cX12_reckons 164 = .ok (.iconst 1, 1) := dr9 dk9_dX12_reckons_0_0.2.2.1 1 (164, .iconst 1, 1) rfl
theorem dX12_reckons_165 : decode cX12_reckons 165 = .ok (.goto 4, 3) := dr9 dk9_dX12_reckons_0_0.2.2.1 2 (165, .goto 4, 3) rfl
theorem dX12_reckons_144 : decode cX12_reckons 144 = .ok (.iload 4, 2) := dr9 dk9_dX12_reckons_0_0.2.2.1 3 (144, .iload 4, 2) rfl
theorem dX12_reckons_146 : decode cX12_reckons 146 = .ok (.iload_n 3, 1) := dr9 dk9_dX12_reckons_0_0.2.2.1 4 (146, .iload_n 3, 1) rfl
theorem dX12_reckons_147 : decode cX12_reckons 147 = .ok (.if_icmp .ge 7, 3) := dr9 dk9_dX12_reckons_0_0.2.2.1 5 (147, .if_icmp .ge 7, 3) rfl
theorem dX12_reckons_154 : decode cX12_reckons 154 = .ok (.iconst 0, 1) := dr9 dk9_dX12_reckons_0_0.2.2.1 6 (154, .iconst 0, 1) rfl
theorem dX12_reckons_155 : decode cX12_reckons 155 = .ok (.goto 14, 3) := dr9 dk9_dX12_reckons_0_0.2.2.1 7 (155, .goto 14, 3) rfl
theorem dX12_reckons_150 : decode cX12_reckons 150 = .ok (.iconst 1, 1) := dr9 dk9_dX12_reckons_0_0.2.2.1 8 (150, .iconst 1, 1) rfl
theorem dX12_reckons_151 : decode cX12_reckons 151 = .ok (.goto 18, 3) := dr9 dk9_dX12_reckons_0_0.2.2.1 9 (151, .goto 18, 3) rfl
theorem dX12_reckons_131 : decode cX12_reckons 131 = .ok (.iload 4, 2) := dr9 dk9_dX12_reckons_0_0.2.2.1 10 (131, .iload 4, 2) rfl
theorem dX12_reckons_133 : decode cX12_reckons 133 = .ok (.iload_n 3, 1) := dr9 dk9_dX12_reckons_0_0.2.2.1 11 (133, .iload_n 3, 1) rfl
theorem dX12_reckons_134 : decode cX12_reckons 134 = .ok (.isub, 1) := dr9 dk9_dX12_reckons_0_0.2.2.1 12 (134, .isub, 1) rfl
theorem dX12_reckons_135 : decode cX12_reckons 135 = .ok (.goto 34, 3) := dr9 dk9_dX12_reckons_0_0.2.2.1 13 (135, .goto 34, 3) rfl
theorem dX12_reckons_118 : decode cX12_reckons 118 = .ok (.iload 4, 2) := dr9 dk9_dX12_reckons_0_0.2.2.1 14 (118, .iload 4, 2) rfl
theorem dX12_reckons_120 : decode cX12_reckons 120 = .ok (.iload_n 3, 1) := dr9 dk9_dX12_reckons_0_0.2.2.1 15 (120, .iload_n 3, 1) rfl
theorem dX12_reckons_121 : decode cX12_reckons 121 = .ok (.iadd, 1) := dr9 dk9_dX12_reckons_0_0.2.2.1 16 (121, .iadd, 1) rfl
theorem dX12_reckons_122 : decode cX12_reckons 122 = .ok (.goto 47, 3) := dr9 dk9_dX12_reckons_0_0.2.2.1 17 (122, .goto 47, 3) rfl
theorem dX12_reckons_105 : decode cX12_reckons 105 = .ok (.iload 4, 2) := dr9 dk9_dX12_reckons_0_0.2.2.1 18 (105, .iload 4, 2) rfl
theorem dX12_reckons_107 : decode cX12_reckons 107 = .ok (.iload_n 3, 1) := dr9 dk9_dX12_reckons_0_0.2.2.1 19 (107, .iload_n 3, 1) rfl
theorem dX12_reckons_108 : decode cX12_reckons 108 = .ok (.imul, 1) := dr9 dk9_dX12_reckons_0_0.2.2.1 20 (108, .imul, 1) rfl
theorem dX12_reckons_109 : decode cX12_reckons 109 = .ok (.goto 60, 3) := dr9 dk9_dX12_reckons_0_0.2.2.1 21 (109, .goto 60, 3) rfl
theorem dX12_reckons_76 : decode cX12_reckons 76 = .ok (.aload_n 0, 1) := dr9 dk9_dX12_reckons_0_0.2.2.1 22 (76, .aload_n 0, 1) rfl
theorem dX12_reckons_77 : decode cX12_reckons 77 = .ok (.aload_n 0, 1) := dr9 dk9_dX12_reckons_0_0.2.2.1 23 (77, .aload_n 0, 1) rfl
theorem dX12_reckons_78 : decode cX12_reckons 78 = .ok (.invokevirtual 551, 3) := dr9 dk9_dX12_reckons_0_0.2.2.2 0 (78, .invokevirtual 551, 3) rfl
theorem dX12_reckons_81 : decode cX12_reckons 81 = .ok (.ineg, 1) := dr9 dk9_dX12_reckons_0_0.2.2.2 1 (81, .ineg, 1) rfl
theorem dX12_reckons_82 : decode cX12_reckons 82 = .ok (.invokevirtual 554, 3) := dr9 dk9_dX12_reckons_0_0.2.2.2 2 (82, .invokevirtual 554, 3) rfl
theorem dX12_reckons_85 : decode cX12_reckons 85 = .ok (.goto 87, 3) := dr9 dk9_dX12_reckons_0_0.2.2.2 3 (85, .goto 87, 3) rfl
theorem dX12_reckons_51 : decode cX12_reckons 51 = .ok (.aload_n 0, 1) := dr9 dk9_dX12_reckons_0_0.2.2.2 4 (51, .aload_n 0, 1) rfl
theorem dX12_reckons_52 : decode cX12_reckons 52 = .ok (.getfield 59, 3) := dr9 dk9_dX12_reckons_0_0.2.2.2 5 (52, .getfield 59, 3) rfl
theorem dX12_reckons_55 : decode cX12_reckons 55 = .ok (.bipush 12, 2) := dr9 dk9_dX12_reckons_0_0.2.2.2 6 (55, .bipush 12, 2) rfl
theorem dX12_reckons_57 : decode cX12_reckons 57 = .ok (.aload_n 0, 1) := dr9 dk9_dX12_reckons_0_0.2.2.2 7 (57, .aload_n 0, 1) rfl
theorem dX12_reckons_58 : decode cX12_reckons 58 = .ok (.getfield 286, 3) := dr9 dk9_dX12_reckons_0_0.2.2.2 8 (58, .getfield 286, 3) rfl
theorem dX12_reckons_61 : decode cX12_reckons 61 = .ok (.imul, 1) := dr9 dk9_dX12_reckons_0_0.2.2.2 9 (61, .imul, 1) rfl
theorem dX12_reckons_62 : decode cX12_reckons 62 = .ok (.iload_n 2, 1) := dr9 dk9_dX12_reckons_0_0.2.2.2 10 (62, .iload_n 2, 1) rfl
theorem dX12_reckons_63 : decode cX12_reckons 63 = .ok (.iadd, 1) := dr9 dk9_dX12_reckons_0_0.2.2.2 11 (63, .iadd, 1) rfl
theorem dX12_reckons_64 : decode cX12_reckons 64 = .ok (.iaload, 1) := dr9 dk9_dX12_reckons_0_0.2.2.2 12 (64, .iaload, 1) rfl
theorem dX12_reckons_24 : decode cX12_reckons 24 = .ok (.aload_n 0, 1) := dr9 dk9_dX12_reckons_0_0.2.2.2 13 (24, .aload_n 0, 1) rfl
theorem dX12_reckons_25 : decode cX12_reckons 25 = .ok (.iload_n 2, 1) := dr9 dk9_dX12_reckons_0_0.2.2.2 14 (25, .iload_n 2, 1) rfl
theorem dX12_reckons_26 : decode cX12_reckons 26 = .ok (.invokevirtual 484, 3) := dr9 dk9_dX12_reckons_0_0.2.2.2 15 (26, .invokevirtual 484, 3) rfl
theorem dX12_reckons_29 : decode cX12_reckons 29 = .ok (.ireturn, 1) := dr9 dk9_dX12_reckons_0_0.2.2.2 16 (29, .ireturn, 1) rfl
theorem dX12_reckons_5 : decode cX12_reckons 5 = .ok (.aload_n 0, 1) := dr9 dk9_dX12_reckons_0_0.2.2.2 17 (5, .aload_n 0, 1) rfl
theorem dX12_reckons_6 : decode cX12_reckons 6 = .ok (.invokevirtual 497, 3) := dr9 dk9_dX12_reckons_0_0.2.2.2 18 (6, .invokevirtual 497, 3) rfl
theorem dX12_reckons_9 : decode cX12_reckons 9 = .ok (.ifCond .eq 7, 3) := dr9 dk9_dX12_reckons_0_0.2.2.2 19 (9, .ifCond .eq 7, 3) rfl
theorem dX12_reckons_16 : decode cX12_reckons 16 = .ok (.iconst 2, 1) := dr9 dk9_dX12_reckons_0_0.2.2.2 20 (16, .iconst 2, 1) rfl
theorem dX12_reckons_17 : decode cX12_reckons 17 = .ok (.ireturn, 1) := dr9 dk9_dX12_reckons_0_0.2.2.2 21 (17, .ireturn, 1) rfl
theorem dX12_reckons_12 : decode cX12_reckons 12 = .ok (.iconst 0, 1) := dr9 dk9_dX12_reckons_0_0.2.2.2 22 (12, .iconst 0, 1) rfl
theorem dX12_reckons_13 : decode cX12_reckons 13 = .ok (.goto 4, 3) := dr9 dk9_dX12_reckons_0_0.2.2.2 23 (13, .goto 4, 3) rfl
theorem dk9_dX12_isWrap_0_0 : dOk cX12_isWrap [(0, .bipush 12, 2), (2, .aload_n 0, 1), (3, .getfield 286, 3), (6, .imul, 1), (7, .iload_n 1, 1), (8, .iadd, 1), (9, .istore 5, 2), (11, .aload_n 0, 1), (12, .getfield 128, 3), (15, .iload 5, 2), (17, .iaload, 1), (18, .iload_n 3, 1), (19, .if_icmp .ne 52, 3), (71, .iconst 0, 1), (72, .ireturn, 1), (22, .aload_n 0, 1), (23, .getfield 134, 3), (26, .iload 5, 2), (28, .iaload, 1), (29, .iload 4, 2), (31, .if_icmp .ne 40, 3), (34, .aload_n 0, 1), (35, .getfield 68, 3), (38, .bipush 24, 2)] = true ∧ dOk cX12_isWrap [(40, .bipush 24, 2), (42, .aload_n 0, 1), (43, .getfield 286, 3), (46, .imul, 1), (47, .aload_n 0, 1), (48, .getfield 164, 3), (51, .iload_n 2, 1), (52, .iaload, 1), (53, .iadd, 1), (54, .imul, 1), (55, .aload_n 0, 1), (56, .getfield 125, 3), (59, .iload 5, 2), (61, .iaload, 1), (62, .iadd, 1), (63, .baload, 1), (64, .ifCond .eq 7, 3), (67, .iconst 1, 1), (68, .goto 4, 3)] = true := by decide +kernel
theorem dX12_isWrap_0 : decode cX12_isWrap 0 = .ok (.bipush 12, 2) := dr9 dk9_dX12_isWrap_0_0.1 0 (0, .bipush 12, 2) rfl
theorem dX12_isWrap_2 : decode cX12_isWrap 2 = .ok (.aload_n 0, 1) := dr9 dk9_dX12_isWrap_0_0.1 1 (2, .aload_n 0, 1) rfl
theorem dX12_isWrap_3 : decode cX12_isWrap 3 = .ok (.getfield 286, 3) := dr9 dk9_dX12_isWrap_0_0.1 2 (3, .getfield 286, 3) rfl
theorem dX12_isWrap_6 : decode cX12_isWrap 6 = .ok (.imul, 1) := dr9 dk9_dX12_isWrap_0_0.1 3 (6, .imul, 1) rfl
theorem dX12_isWrap_7 : decode cX12_isWrap 7 = .ok (.iload_n 1, 1) := dr9 dk9_dX12_isWrap_0_0.1 4 (7, .iload_n 1, 1) rfl
theorem dX12_isWrap_8 : decode cX12_isWrap 8 = .ok (.iadd, 1) := dr9 dk9_dX12_isWrap_0_0.1 5 (8, .iadd, 1) rfl
theorem dX12_isWrap_9 : decode cX12_isWrap 9 = .ok (.istore 5, 2) := dr9 dk9_dX12_isWrap_0_0.1 6 (9, .istore 5, 2) rfl
theorem dX12_isWrap_11 : decode cX12_isWrap 11 = .ok (.aload_n 0, 1) := dr9 dk9_dX12_isWrap_0_0.1 7 (11, .aload_n 0, 1) rfl
theorem dX12_isWrap_12 : decode cX12_isWrap 12 = .ok (.getfield 128, 3) := dr9 dk9_dX12_isWrap_0_0.1 8 (12, .getfield 128, 3) rfl
theorem dX12_isWrap_15 : decode cX12_isWrap 15 = .ok (.iload 5, 2) := dr9 dk9_dX12_isWrap_0_0.1 9 (15, .iload 5, 2) rfl
theorem dX12_isWrap_17 : decode cX12_isWrap 17 = .ok (.iaload, 1) := dr9 dk9_dX12_isWrap_0_0.1 10 (17, .iaload, 1) rfl
theorem dX12_isWrap_18 : decode cX12_isWrap 18 = .ok (.iload_n 3, 1) := dr9 dk9_dX12_isWrap_0_0.1 11 (18, .iload_n 3, 1) rfl
theorem dX12_isWrap_19 : decode cX12_isWrap 19 = .ok (.if_icmp .ne 52, 3) := dr9 dk9_dX12_isWrap_0_0.1 12 (19, .if_icmp .ne 52, 3) rfl
theorem dX12_isWrap_71 : decode cX12_isWrap 71 = .ok (.iconst 0, 1) := dr9 dk9_dX12_isWrap_0_0.1 13 (71, .iconst 0, 1) rfl
theorem dX12_isWrap_72 : decode cX12_isWrap 72 = .ok (.ireturn, 1) := dr9 dk9_dX12_isWrap_0_0.1 14 (72, .ireturn, 1) rfl
theorem dX12_isWrap_22 : decode cX12_isWrap 22 = .ok (.aload_n 0, 1) := dr9 dk9_dX12_isWrap_0_0.1 15 (22, .aload_n 0, 1) rfl
theorem dX12_isWrap_23 : decode cX12_isWrap 23 = .ok (.getfield 134, 3) := dr9 dk9_dX12_isWrap_0_0.1 16 (23, .getfield 134, 3) rfl
theorem dX12_isWrap_26 : decode cX12_isWrap 26 = .ok (.iload 5, 2) := dr9 dk9_dX12_isWrap_0_0.1 17 (26, .iload 5, 2) rfl
theorem dX12_isWrap_28 : decode cX12_isWrap 28 = .ok (.iaload, 1) := dr9 dk9_dX12_isWrap_0_0.1 18 (28, .iaload, 1) rfl
theorem dX12_isWrap_29 : decode cX12_isWrap 29 = .ok (.iload 4, 2) := dr9 dk9_dX12_isWrap_0_0.1 19 (29, .iload 4, 2) rfl
theorem dX12_isWrap_31 : decode cX12_isWrap 31 = .ok (.if_icmp .ne 40, 3) := dr9 dk9_dX12_isWrap_0_0.1 20 (31, .if_icmp .ne 40, 3) rfl
theorem dX12_isWrap_34 : decode cX12_isWrap 34 = .ok (.aload_n 0, 1) := dr9 dk9_dX12_isWrap_0_0.1 21 (34, .aload_n 0, 1) rfl
theorem dX12_isWrap_35 : decode cX12_isWrap 35 = .ok (.getfield 68, 3) := dr9 dk9_dX12_isWrap_0_0.1 22 (35, .getfield 68, 3) rfl
theorem dX12_isWrap_38 : decode cX12_isWrap 38 = .ok (.bipush 24, 2) := dr9 dk9_dX12_isWrap_0_0.1 23 (38, .bipush 24, 2) rfl
theorem dX12_isWrap_40 : decode cX12_isWrap 40 = .ok (.bipush 24, 2) := dr9 dk9_dX12_isWrap_0_0.2 0 (40, .bipush 24, 2) rfl
theorem dX12_isWrap_42 : decode cX12_isWrap 42 = .ok (.aload_n 0, 1) := dr9 dk9_dX12_isWrap_0_0.2 1 (42, .aload_n 0, 1) rfl
theorem dX12_isWrap_43 : decode cX12_isWrap 43 = .ok (.getfield 286, 3) := dr9 dk9_dX12_isWrap_0_0.2 2 (43, .getfield 286, 3) rfl
theorem dX12_isWrap_46 : decode cX12_isWrap 46 = .ok (.imul, 1) := dr9 dk9_dX12_isWrap_0_0.2 3 (46, .imul, 1) rfl
theorem dX12_isWrap_47 : decode cX12_isWrap 47 = .ok (.aload_n 0, 1) := dr9 dk9_dX12_isWrap_0_0.2 4 (47, .aload_n 0, 1) rfl
theorem dX12_isWrap_48 : decode cX12_isWrap 48 = .ok (.getfield 164, 3) := dr9 dk9_dX12_isWrap_0_0.2 5 (48, .getfield 164, 3) rfl
theorem dX12_isWrap_51 : decode cX12_isWrap 51 = .ok (.iload_n 2, 1) := dr9 dk9_dX12_isWrap_0_0.2 6 (51, .iload_n 2, 1) rfl
theorem dX12_isWrap_52 : decode cX12_isWrap 52 = .ok (.iaload, 1) := dr9 dk9_dX12_isWrap_0_0.2 7 (52, .iaload, 1) rfl
theorem dX12_isWrap_53 : decode cX12_isWrap 53 = .ok (.iadd, 1) := dr9 dk9_dX12_isWrap_0_0.2 8 (53, .iadd, 1) rfl
theorem dX12_isWrap_54 : decode cX12_isWrap 54 = .ok (.imul, 1) := dr9 dk9_dX12_isWrap_0_0.2 9 (54, .imul, 1) rfl
theorem dX12_isWrap_55 : decode cX12_isWrap 55 = .ok (.aload_n 0, 1) := dr9 dk9_dX12_isWrap_0_0.2 10 (55, .aload_n 0, 1) rfl
theorem dX12_isWrap_56 : decode cX12_isWrap 56 = .ok (.getfield 125, 3) := dr9 dk9_dX12_isWrap_0_0.2 11 (56, .getfield 125, 3) rfl
theorem dX12_isWrap_59 : decode cX12_isWrap 59 = .ok (.iload 5, 2) := dr9 dk9_dX12_isWrap_0_0.2 12 (59, .iload 5, 2) rfl
theorem dX12_isWrap_61 : decode cX12_isWrap 61 = .ok (.iaload, 1) := dr9 dk9_dX12_isWrap_0_0.2 13 (61, .iaload, 1) rfl
theorem dX12_isWrap_62 : decode cX12_isWrap 62 = .ok (.iadd, 1) := dr9 dk9_dX12_isWrap_0_0.2 14 (62, .iadd, 1) rfl
theorem dX12_isWrap_63 : decode cX12_isWrap 63 = .ok (.baload, 1) := dr9 dk9_dX12_isWrap_0_0.2 15 (63, .baload, 1) rfl
theorem dX12_isWrap_64 : decode cX12_isWrap 64 = .ok (.ifCond .eq 7, 3) := dr9 dk9_dX12_isWrap_0_0.2 16 (64, .ifCond .eq 7, 3) rfl
theorem dX12_isWrap_67 : decode cX12_isWrap 67 = .ok (.iconst 1, 1) := dr9 dk9_dX12_isWrap_0_0.2 17 (67, .iconst 1, 1) rfl
theorem dX12_isWrap_68 : decode cX12_isWrap 68 = .ok (.goto 4, 3) := dr9 dk9_dX12_isWrap_0_0.2 18 (68, .goto 4, 3) rfl
theorem dk9_dX12_wrapsOf_0_0 : dOk cX12_wrapsOf [(0, .iconst 0, 1), (1, .istore 4, 2), (3, .iconst 0, 1), (4, .istore 5, 2), (6, .iload 5, 2), (8, .aload_n 0, 1), (9, .getfield 122, 3), (12, .aload_n 0, 1), (13, .getfield 286, 3), (16, .iaload, 1), (17, .if_icmp .ge 31, 3), (48, .iload 4, 2), (50, .ireturn, 1), (20, .iload 4, 2), (22, .aload_n 0, 1), (23, .iload 5, 2), (25, .iload_n 1, 1), (26, .iload_n 2, 1), (27, .iload_n 3, 1), (28, .invokevirtual 516, 3), (31, .ifCond .eq 7, 3), (38, .iconst 0, 1), (39, .iadd, 1), (40, .istore 4, 2)] = true ∧ dOk cX12_wrapsOf [(42, .iinc 5 1, 3), (45, .goto (-39), 3), (34, .iconst 1, 1), (35, .goto 4, 3)] = true := by decide +kernel
theorem dX12_wrapsOf_0 : decode cX12_wrapsOf 0 = .ok (.iconst 0, 1) := dr9 dk9_dX12_wrapsOf_0_0.1 0 (0, .iconst 0, 1) rfl
theorem dX12_wrapsOf_1 : decode cX12_wrapsOf 1 = .ok (.istore 4, 2) := dr9 dk9_dX12_wrapsOf_0_0.1 1 (1, .istore 4, 2) rfl
theorem dX12_wrapsOf_3 : decode cX12_wrapsOf 3 = .ok (.iconst 0, 1) := dr9 dk9_dX12_wrapsOf_0_0.1 2 (3, .iconst 0, 1) rfl
theorem dX12_wrapsOf_4 : decode cX12_wrapsOf 4 = .ok (.istore 5, 2) := dr9 dk9_dX12_wrapsOf_0_0.1 3 (4, .istore 5, 2) rfl
theorem dX12_wrapsOf_6 : decode cX12_wrapsOf 6 = .ok (.iload 5, 2) := dr9 dk9_dX12_wrapsOf_0_0.1 4 (6, .iload 5, 2) rfl
theorem dX12_wrapsOf_8 : decode cX12_wrapsOf 8 = .ok (.aload_n 0, 1) := dr9 dk9_dX12_wrapsOf_0_0.1 5 (8, .aload_n 0, 1) rfl
theorem dX12_wrapsOf_9 : decode cX12_wrapsOf 9 = .ok (.getfield 122, 3) := dr9 dk9_dX12_wrapsOf_0_0.1 6 (9, .getfield 122, 3) rfl
theorem dX12_wrapsOf_12 : decode cX12_wrapsOf 12 = .ok (.aload_n 0, 1) := dr9 dk9_dX12_wrapsOf_0_0.1 7 (12, .aload_n 0, 1) rfl
theorem dX12_wrapsOf_13 : decode cX12_wrapsOf 13 = .ok (.getfield 286, 3) := dr9 dk9_dX12_wrapsOf_0_0.1 8 (13, .getfield 286, 3) rfl
theorem dX12_wrapsOf_16 : decode cX12_wrapsOf 16 = .ok (.iaload, 1) := dr9 dk9_dX12_wrapsOf_0_0.1 9 (16, .iaload, 1) rfl
theorem dX12_wrapsOf_17 : decode cX12_wrapsOf 17 = .ok (.if_icmp .ge 31, 3) := dr9 dk9_dX12_wrapsOf_0_0.1 10 (17, .if_icmp .ge 31, 3) rfl
theorem dX12_wrapsOf_48 : decode cX12_wrapsOf 48 = .ok (.iload 4, 2) := dr9 dk9_dX12_wrapsOf_0_0.1 11 (48, .iload 4, 2) rfl
theorem dX12_wrapsOf_50 : decode cX12_wrapsOf 50 = .ok (.ireturn, 1) := dr9 dk9_dX12_wrapsOf_0_0.1 12 (50, .ireturn, 1) rfl
theorem dX12_wrapsOf_20 : decode cX12_wrapsOf 20 = .ok (.iload 4, 2) := dr9 dk9_dX12_wrapsOf_0_0.1 13 (20, .iload 4, 2) rfl
theorem dX12_wrapsOf_22 : decode cX12_wrapsOf 22 = .ok (.aload_n 0, 1) := dr9 dk9_dX12_wrapsOf_0_0.1 14 (22, .aload_n 0, 1) rfl
theorem dX12_wrapsOf_23 : decode cX12_wrapsOf 23 = .ok (.iload 5, 2) := dr9 dk9_dX12_wrapsOf_0_0.1 15 (23, .iload 5, 2) rfl
theorem dX12_wrapsOf_25 : decode cX12_wrapsOf 25 = .ok (.iload_n 1, 1) := dr9 dk9_dX12_wrapsOf_0_0.1 16 (25, .iload_n 1, 1) rfl
theorem dX12_wrapsOf_26 : decode cX12_wrapsOf 26 = .ok (.iload_n 2, 1) := dr9 dk9_dX12_wrapsOf_0_0.1 17 (26, .iload_n 2, 1) rfl
theorem dX12_wrapsOf_27 : decode cX12_wrapsOf 27 = .ok (.iload_n 3, 1) := dr9 dk9_dX12_wrapsOf_0_0.1 18 (27, .iload_n 3, 1) rfl
theorem dX12_wrapsOf_28 : decode cX12_wrapsOf 28 = .ok (.invokevirtual 516, 3) := dr9 dk9_dX12_wrapsOf_0_0.1 19 (28, .invokevirtual 516, 3) rfl
theorem dX12_wrapsOf_31 : decode cX12_wrapsOf 31 = .ok (.ifCond .eq 7, 3) := dr9 dk9_dX12_wrapsOf_0_0.1 20 (31, .ifCond .eq 7, 3) rfl
theorem dX12_wrapsOf_38 : decode cX12_wrapsOf 38 = .ok (.iconst 0, 1) := dr9 dk9_dX12_wrapsOf_0_0.1 21 (38, .iconst 0, 1) rfl
theorem dX12_wrapsOf_39 : decode cX12_wrapsOf 39 = .ok (.iadd, 1) := dr9 dk9_dX12_wrapsOf_0_0.1 22 (39, .iadd, 1) rfl
theorem dX12_wrapsOf_40 : decode cX12_wrapsOf 40 = .ok (.istore 4, 2) := dr9 dk9_dX12_wrapsOf_0_0.1 23 (40, .istore 4, 2) rfl
theorem dX12_wrapsOf_42 : decode cX12_wrapsOf 42 = .ok (.iinc 5 1, 3) := dr9 dk9_dX12_wrapsOf_0_0.2 0 (42, .iinc 5 1, 3) rfl
theorem dX12_wrapsOf_45 : decode cX12_wrapsOf 45 = .ok (.goto (-39), 3) := dr9 dk9_dX12_wrapsOf_0_0.2 1 (45, .goto (-39), 3) rfl
theorem dX12_wrapsOf_34 : decode cX12_wrapsOf 34 = .ok (.iconst 1, 1) := dr9 dk9_dX12_wrapsOf_0_0.2 2 (34, .iconst 1, 1) rfl
theorem dX12_wrapsOf_35 : decode cX12_wrapsOf 35 = .ok (.goto 4, 3) := dr9 dk9_dX12_wrapsOf_0_0.2 3 (35, .goto 4, 3) rfl
theorem dk9_dX12_wrapAt_0_0 : dOk cX12_wrapAt [(0, .iload_n 1, 1), (1, .istore 5, 2), (3, .iconst 0, 1), (4, .istore 6, 2), (6, .iload 6, 2), (8, .bipush 100, 2), (10, .if_icmp .ge 76, 3), (86, .iconst (-1), 1), (87, .ireturn, 1), (13, .iconst 0, 1), (14, .istore 7, 2), (16, .iload 7, 2), (18, .aload_n 0, 1), (19, .getfield 122, 3), (22, .aload_n 0, 1), (23, .getfield 286, 3), (26, .iaload, 1), (27, .if_icmp .ge 53, 3), (80, .iinc 6 1, 3), (83, .goto (-77), 3), (30, .aload_n 0, 1), (31, .iload 7, 2), (33, .iload_n 2, 1), (34, .iload_n 3, 1)] = true ∧ dOk cX12_wrapAt [(35, .iload 4, 2), (37, .invokevirtual 516, 3), (40, .ifCond .eq 34, 3), (74, .iinc 7 1, 3), (77, .goto (-61), 3), (43, .aload_n 0, 1), (44, .getfield 131, 3), (47, .bipush 12, 2), (49, .aload_n 0, 1), (50, .getfield 286, 3), (53, .imul, 1), (54, .iload 7, 2), (56, .iadd, 1), (57, .iaload, 1), (58, .iload 6, 2), (60, .if_icmp .ne 14, 3), (63, .iload 5, 2), (65, .ifCond .ne 6, 3), (71, .iinc 5 (-1), 3), (68, .iload 7, 2), (70, .ireturn, 1)] = true := by decide +kernel
theorem dX12_wrapAt_0 : decode cX12_wrapAt 0 = .ok (.iload_n 1, 1) := dr9 dk9_dX12_wrapAt_0_0.1 0 (0, .iload_n 1, 1) rfl
theorem dX12_wrapAt_1 : decode cX12_wrapAt 1 = .ok (.istore 5, 2) := dr9 dk9_dX12_wrapAt_0_0.1 1 (1, .istore 5, 2) rfl
theorem dX12_wrapAt_3 : decode cX12_wrapAt 3 = .ok (.iconst 0, 1) := dr9 dk9_dX12_wrapAt_0_0.1 2 (3, .iconst 0, 1) rfl
theorem dX12_wrapAt_4 : decode cX12_wrapAt 4 = .ok (.istore 6, 2) := dr9 dk9_dX12_wrapAt_0_0.1 3 (4, .istore 6, 2) rfl
theorem dX12_wrapAt_6 : decode cX12_wrapAt 6 = .ok (.iload 6, 2) := dr9 dk9_dX12_wrapAt_0_0.1 4 (6, .iload 6, 2) rfl
theorem dX12_wrapAt_8 : decode cX12_wrapAt 8 = .ok (.bipush 100, 2) := dr9 dk9_dX12_wrapAt_0_0.1 5 (8, .bipush 100, 2) rfl
theorem dX12_wrapAt_10 : decode cX12_wrapAt 10 = .ok (.if_icmp .ge 76, 3) := dr9 dk9_dX12_wrapAt_0_0.1 6 (10, .if_icmp .ge 76, 3) rfl
theorem dX12_wrapAt_86 : decode cX12_wrapAt 86 = .ok (.iconst (-1), 1) := dr9 dk9_dX12_wrapAt_0_0.1 7 (86, .iconst (-1), 1) rfl
theorem dX12_wrapAt_87 : decode cX12_wrapAt 87 = .ok (.ireturn, 1) := dr9 dk9_dX12_wrapAt_0_0.1 8 (87, .ireturn, 1) rfl
theorem dX12_wrapAt_13 : decode cX12_wrapAt 13 = .ok (.iconst 0, 1) := dr9 dk9_dX12_wrapAt_0_0.1 9 (13, .iconst 0, 1) rfl
theorem dX12_wrapAt_14 : decode cX12_wrapAt 14 = .ok (.istore 7, 2) := dr9 dk9_dX12_wrapAt_0_0.1 10 (14, .istore 7, 2) rfl
theorem dX12_wrapAt_16 : decode cX12_wrapAt 16 = .ok (.iload 7, 2) := dr9 dk9_dX12_wrapAt_0_0.1 11 (16, .iload 7, 2) rfl
theorem dX12_wrapAt_18 : decode cX12_wrapAt 18 = .ok (.aload_n 0, 1) := dr9 dk9_dX12_wrapAt_0_0.1 12 (18, .aload_n 0, 1) rfl
theorem dX12_wrapAt_19 : decode cX12_wrapAt 19 = .ok (.getfield 122, 3) := dr9 dk9_dX12_wrapAt_0_0.1 13 (19, .getfield 122, 3) rfl
theorem dX12_wrapAt_22 : decode cX12_wrapAt 22 = .ok (.aload_n 0, 1) := dr9 dk9_dX12_wrapAt_0_0.1 14 (22, .aload_n 0, 1) rfl
theorem dX12_wrapAt_23 : decode cX12_wrapAt 23 = .ok (.getfield 286, 3) := dr9 dk9_dX12_wrapAt_0_0.1 15 (23, .getfield 286, 3) rfl
theorem dX12_wrapAt_26 : decode cX12_wrapAt 26 = .ok (.iaload, 1) := dr9 dk9_dX12_wrapAt_0_0.1 16 (26, .iaload, 1) rfl
theorem dX12_wrapAt_27 : decode cX12_wrapAt 27 = .ok (.if_icmp .ge 53, 3) := dr9 dk9_dX12_wrapAt_0_0.1 17 (27, .if_icmp .ge 53, 3) rfl
theorem dX12_wrapAt_80 : decode cX12_wrapAt 80 = .ok (.iinc 6 1, 3) := dr9 dk9_dX12_wrapAt_0_0.1 18 (80, .iinc 6 1, 3) rfl
theorem dX12_wrapAt_83 : decode cX12_wrapAt 83 = .ok (.goto (-77), 3) := dr9 dk9_dX12_wrapAt_0_0.1 19 (83, .goto (-77), 3) rfl
theorem dX12_wrapAt_30 : decode cX12_wrapAt 30 = .ok (.aload_n 0, 1) := dr9 dk9_dX12_wrapAt_0_0.1 20 (30, .aload_n 0, 1) rfl
theorem dX12_wrapAt_31 : decode cX12_wrapAt 31 = .ok (.iload 7, 2) := dr9 dk9_dX12_wrapAt_0_0.1 21 (31, .iload 7, 2) rfl
theorem dX12_wrapAt_33 : decode cX12_wrapAt 33 = .ok (.iload_n 2, 1) := dr9 dk9_dX12_wrapAt_0_0.1 22 (33, .iload_n 2, 1) rfl
theorem dX12_wrapAt_34 : decode cX12_wrapAt 34 = .ok (.iload_n 3, 1) := dr9 dk9_dX12_wrapAt_0_0.1 23 (34, .iload_n 3, 1) rfl
theorem dX12_wrapAt_35 : decode cX12_wrapAt 35 = .ok (.iload 4, 2) := dr9 dk9_dX12_wrapAt_0_0.2 0 (35, .iload 4, 2) rfl
theorem dX12_wrapAt_37 : decode cX12_wrapAt 37 = .ok (.invokevirtual 516, 3) := dr9 dk9_dX12_wrapAt_0_0.2 1 (37, .invokevirtual 516, 3) rfl
theorem dX12_wrapAt_40 : decode cX12_wrapAt 40 = .ok (.ifCond .eq 34, 3) := dr9 dk9_dX12_wrapAt_0_0.2 2 (40, .ifCond .eq 34, 3) rfl
theorem dX12_wrapAt_74 : decode cX12_wrapAt 74 = .ok (.iinc 7 1, 3) := dr9 dk9_dX12_wrapAt_0_0.2 3 (74, .iinc 7 1, 3) rfl
theorem dX12_wrapAt_77 : decode cX12_wrapAt 77 = .ok (.goto (-61), 3) := dr9 dk9_dX12_wrapAt_0_0.2 4 (77, .goto (-61), 3) rfl
theorem dX12_wrapAt_43 : decode cX12_wrapAt 43 = .ok (.aload_n 0, 1) := dr9 dk9_dX12_wrapAt_0_0.2 5 (43, .aload_n 0, 1) rfl
theorem dX12_wrapAt_44 : decode cX12_wrapAt 44 = .ok (.getfield 131, 3) := dr9 dk9_dX12_wrapAt_0_0.2 6 (44, .getfield 131, 3) rfl
theorem dX12_wrapAt_47 : decode cX12_wrapAt 47 = .ok (.bipush 12, 2) := dr9 dk9_dX12_wrapAt_0_0.2 7 (47, .bipush 12, 2) rfl
theorem dX12_wrapAt_49 : decode cX12_wrapAt 49 = .ok (.aload_n 0, 1) := dr9 dk9_dX12_wrapAt_0_0.2 8 (49, .aload_n 0, 1) rfl
theorem dX12_wrapAt_50 : decode cX12_wrapAt 50 = .ok (.getfield 286, 3) := dr9 dk9_dX12_wrapAt_0_0.2 9 (50, .getfield 286, 3) rfl
theorem dX12_wrapAt_53 : decode cX12_wrapAt 53 = .ok (.imul, 1) := dr9 dk9_dX12_wrapAt_0_0.2 10 (53, .imul, 1) rfl
theorem dX12_wrapAt_54 : decode cX12_wrapAt 54 = .ok (.iload 7, 2) := dr9 dk9_dX12_wrapAt_0_0.2 11 (54, .iload 7, 2) rfl
theorem dX12_wrapAt_56 : decode cX12_wrapAt 56 = .ok (.iadd, 1) := dr9 dk9_dX12_wrapAt_0_0.2 12 (56, .iadd, 1) rfl
theorem dX12_wrapAt_57 : decode cX12_wrapAt 57 = .ok (.iaload, 1) := dr9 dk9_dX12_wrapAt_0_0.2 13 (57, .iaload, 1) rfl
theorem dX12_wrapAt_58 : decode cX12_wrapAt 58 = .ok (.iload 6, 2) := dr9 dk9_dX12_wrapAt_0_0.2 14 (58, .iload 6, 2) rfl
theorem dX12_wrapAt_60 : decode cX12_wrapAt 60 = .ok (.if_icmp .ne 14, 3) := dr9 dk9_dX12_wrapAt_0_0.2 15 (60, .if_icmp .ne 14, 3) rfl
theorem dX12_wrapAt_63 : decode cX12_wrapAt 63 = .ok (.iload 5, 2) := dr9 dk9_dX12_wrapAt_0_0.2 16 (63, .iload 5, 2) rfl
theorem dX12_wrapAt_65 : decode cX12_wrapAt 65 = .ok (.ifCond .ne 6, 3) := dr9 dk9_dX12_wrapAt_0_0.2 17 (65, .ifCond .ne 6, 3) rfl
theorem dX12_wrapAt_71 : decode cX12_wrapAt 71 = .ok (.iinc 5 (-1), 3) := dr9 dk9_dX12_wrapAt_0_0.2 18 (71, .iinc 5 (-1), 3) rfl
theorem dX12_wrapAt_68 : decode cX12_wrapAt 68 = .ok (.iload 7, 2) := dr9 dk9_dX12_wrapAt_0_0.2 19 (68, .iload 7, 2) rfl
theorem dX12_wrapAt_70 : decode cX12_wrapAt 70 = .ok (.ireturn, 1) := dr9 dk9_dX12_wrapAt_0_0.2 20 (70, .ireturn, 1) rfl
abbrev r_s_step2 : Room := { frames := 0, cells := 0, slots := 0, locals := 0 }
abbrev q_s_step2 (D : va_G) (ks : KS) (ad : Nat → Nat) (kk : Nat → ClassId) (V : Vf) (L : Lf) (A : Nat → Prop) : Array Value → State → Outcome → State → Prop := va_Qi (fun (r : Int32) (u : Vf × Lf) => rgd bM u.1 ∧ agr [(0, 68), (0, 69)] [] V u.1 ∧ u.2 = L ∧ (0 ≤ r.toInt ∧ r.toInt ≤ 1) ∧ (Imp (r.toInt = 1) ((u.1 0 69).toInt = (V 0 69).toInt + 1 ∧ (u.1 0 68).toInt = (V 0 68).toInt + 1)) ∧ (Imp (r.toInt = 0) ((u.1 0 69).toInt = (V 0 69).toInt ∧ (u.1 0 68).toInt = (V 0 68).toInt))) (fun u t => gq D A (mw ad kk ks.1 u.1 u.2) (mty kk) t) A
abbrev r_s_fails2 : Room := { frames := 0, cells := 0, slots := 0, locals := 0 }
abbrev q_s_fails2 (D : va_G) (ks : KS) (ad : Nat → Nat) (kk : Nat → ClassId) (V : Vf) (L : Lf) (p0 : Int32) (A : Nat → Prop) : Array Value → State → Outcome → State → Prop := va_Qi (fun (r : Int32) (u : Vf × Lf) => rgd bM u.1 ∧ agr [(0, 90), (0, 91)] [] V u.1 ∧ u.2 = L ∧ (1 ≤ r.toInt ∧ r.toInt ≤ 1)) (fun u t => gq D A (mw ad kk ks.1 u.1 u.2) (mty kk) t) A
abbrev r_s_push2 : Room := { frames := 0, cells := 0, slots := 0, locals := 0 }
abbrev q_s_push2 (D : va_G) (ks : KS) (ad : Nat → Nat) (kk : Nat → ClassId) (V : Vf) (L : Lf) (p0 : Int32) (A : Nat → Prop) : Array Value → State → Outcome → State → Prop := va_Qv (fun (u : Vf × Lf) => rgd bM u.1 ∧ agr [(0, 98)] [97] V u.1 ∧ u.2 = L ∧ ((u.1 0 98).toInt = (V 0 98).toInt + 1)) (fun u t => gq D A (mw ad kk ks.1 u.1 u.2) (mty kk) t) A
abbrev r_s_pop2 : Room := { frames := 0, cells := 0, slots := 0, locals := 0 }
abbrev q_s_pop2 (D : va_G) (ks : KS) (ad : Nat → Nat) (kk : Nat → ClassId) (V : Vf) (L : Lf) (A : Nat → Prop) : Array Value → State → Outcome → State → Prop := va_Qi (fun (r : Int32) (u : Vf × Lf) => rgd bM u.1 ∧ agr [(0, 98)] [] V u.1 ∧ u.2 = L ∧ ((u.1 0 98).toInt = (V 0 98).toInt - 1)) (fun u t => gq D A (mw ad kk ks.1 u.1 u.2) (mty kk) t) A
abbrev r_s_notes2 : Room := { frames := 0, cells := 0, slots := 0, locals := 0 }
abbrev q_s_notes2 (D : va_G) (ks : KS) (ad : Nat → Nat) (kk : Nat → ClassId) (V : Vf) (L : Lf) (p0 : Int32) (p1 : Int32) (p2 : Int32) (A : Nat → Prop) : Array Value → State → Outcome → State → Prop := va_Qv (fun (u : Vf × Lf) => rgd bM u.1 ∧ agr [(0, 76)] [77, 78, 79] V u.1 ∧ u.2 = L ∧ ((u.1 0 76).toInt = (V 0 76).toInt + 1)) (fun u t => gq D A (mw ad kk ks.1 u.1 u.2) (mty kk) t) A
set_option maxHeartbeats 4000000 in
set_option maxRecDepth 100000 in
theorem s_notes2 (l : Launch) (D : va_G) (ks : KS) (sz : Nat) (ad : Nat → Nat) (kk : Nat → ClassId) (V : Vf) (L : Lf) (p0 : Int32) (p1 : Int32) (p2 : Int32) (hMV : rgd bM V) (y1 : (V 0 76).toInt ≤ 1999999999)  : Met l yX12_notes (Cond.code yX12_notes cX12_notes 4 none :: GW) r_s_notes2 (va_Pc [.ref (ad 0), .int p0, .int p1, .int p2] (gp D ks (mw ad kk ks.1 V L) (mty kk) sz)) (q_s_notes2 D ks ad kk V L p0 p1 p2 (va_A (mw ad kk ks.1 V L) sz)) 0 0 (va_A (mw ad kk ks.1 V L) sz) := by
  refine g_met (q_s_notes2 D ks ad kk V L p0 p1 p2) (by decide) (Nat.le_of_ble_eq_true rfl) ?_
  intro p e s m below meth c A ls H locs hx hb hr hml hown hg hlocks hin hnw hgk hP hK hD hS hA hl
  have hown : s.vm.findClass RX12 = some m.cls := hown
  have hl : lv_has ls 4 [(0, .ref (ad 0)), (1, .int p0), (2, .int p1), (3, .int p2)] := hl
  have hP : va_P D vwCl (mw ad kk ks.1 V L) H := hP
  have hD : va_D A (mw ad kk ks.1 V L) := hD
  have hK : va_K D vwCl (mty kk) s := hK
  have agV : agr [(0, 76)] [77, 78, 79] V V := agr.rf
  have r1 : 0 ≤ ((V 0 76)).toInt ∧ ((V 0 76)).toInt ≤ 2000000000 := hMV 0 76
  refine lv_aload_n hx hb dX12_notes_0 rfl (lv_at hl 0 rfl) ?_
  refine va_get (D := D) (ci := 12) (v := .int (V 0 76)) (C := RX12) (T := TX12) (N := 100) hx hb hg inX12 hown hK hP 0 rfl rfl 76 (by decide) (hg _ w1782) (fun _ h9 => h9) rfl dX12_notes_1 ?_
  refine lv_bipush (v := 100) hx hb dX12_notes_4 (by decide) ?_
  have J2 : ∀ (V3 : Vf) (H : Heap) (locs : List Loc) (ls : Array Slot), agr [] [77, 78, 79] V V3 → rgd bM V3 → va_P D vwCl (mw ad kk ks.1 V3 L) H → va_D A (mw ad kk ks.1 V3 L) → va_S A s.heap H locs → lv_has ls 4 [(0, .ref (ad 0)), (1, .int p0), (2, .int p1), (3, .int p2)] → W p l e r_s_notes2 s m ([.ref (ad 0), .int p0, .int p1, .int p2] : List Value).toArray below meth c H locs 0 0 (MQ below (q_s_notes2 D ks ad kk V L p0 p1 p2 A) ([.ref (ad 0), .int p0, .int p1, .int p2] : List Value).toArray s 0 0 A) (F0 m 39 ls []) := by
    intro V3 H locs ls ajV3 hMV3 hP hD hS hl
    have agV3 : agr [(0, 76)] [77, 78, 79] V V3 := agV.tr ajV3 (by decide) (by decide)
    refine lv_aload_n hx hb dX12_notes_39 rfl (lv_at hl 0 rfl) ?_
    refine lv_dup hx hb dX12_notes_40 rfl ?_
    refine va_get (D := D) (ci := 12) (v := .int (V3 0 76)) (C := RX12) (T := TX12) (N := 100) hx hb hg inX12 hown hK hP 0 rfl rfl 76 (by decide) (hg _ w1782) (fun _ h9 => h9) rfl dX12_notes_41 ?_
    refine g_top (v := (V 0 76)) (ajV3 0 76 rfl) ?_
    refine lv_iconst (v := 1) hx hb dX12_notes_44 (by decide) ?_
    refine lv_iadd hx hb dX12_notes_45 ?_
    refine lv_topi (fun z4 ez4 => ?_)
    have hz4 : z4.toInt = ((V 0 76)).toInt + 1 := i_add ez4 rfl (by decide) (by omega)
    refine va_put (D := D) (ci := 12) (v := .int z4) (ty := tyX12 76) (C := RX12) (T := TX12) (N := 100) hx hb hg inX12 tyX12 tyX12_ok nmX12 hown hK hP hD hS 0 rfl rfl 76 (by decide) (hg _ w1782) (fun _ h9 => h9) rfl (tyX12_ok 76 (by decide)) rfl rfl (Nat.le_of_ble_eq_true rfl) dX12_notes_46 (fun H locs hP hD hS => ?_)
    obtain ⟨V5, hV5⟩ : ∃ z, z = up2 V3 0 76 z4 := ⟨_, rfl⟩
    have hP : va_P D vwCl (mw ad kk ks.1 V5 L) H := by rw [hV5]; exact hP
    have hD : va_D A (mw ad kk ks.1 V5 L) := by rw [hV5]; exact hD
    have hMV5 : rgd bM V5 := hMV3.put hV5 (show 0 ≤ z4.toInt ∧ z4.toInt ≤ 2000000000 from by omega)
    have agV5 : agr [(0, 76)] [77, 78, 79] V V5 := agV3.up hV5 rfl
    have pq6 : (V5 0 76).toInt = z4.toInt := congrArg Int32.toInt (up2_s hV5)
    exact W.vret hx hb hr (fun t ht hW => ⟨⟨(V5, L), rfl, ⟨hMV5, agV5, rfl, (show (V5 0 76).toInt = (V 0 76).toInt + 1 from by omega)⟩, by rw [ht]; exact hP, va_K.moved hW.alike hK, hD⟩, hS.F ht⟩) hS.2.2 dX12_notes_49
  refine lv_icmp_ge (tgt := 39) hx hb dX12_notes_6 (by decide) (fun c7 => ?_) (fun c7 => ?_)
  · skip
    have f8 : 100 ≤ ((V 0 76)).toInt := b_le (by decide) rfl c7
    exact J2 V H locs ls agr.rf hMV hP hD hS (lv_sub hl [0, 1, 2, 3] rfl)
  · skip
    have f9 : ((V 0 76)).toInt < 100 := b_nle (by decide) rfl c7
    refine lv_aload_n hx hb dX12_notes_9 rfl (lv_at hl 0 rfl) ?_
    refine va_get (D := D) (ci := 12) (v := .ref (ad 77)) (C := RX12) (T := TX12) (N := 100) hx hb hg inX12 hown hK hP 0 rfl rfl 77 (by decide) (hg _ w1783) (fun _ h9 => h9) rfl dX12_notes_10 ?_
    refine lv_aload_n hx hb dX12_notes_13 rfl (lv_at hl 0 rfl) ?_
    refine va_get (D := D) (ci := 12) (v := .int (V 0 76)) (C := RX12) (T := TX12) (N := 100) hx hb hg inX12 hown hK hP 0 rfl rfl 76 (by decide) (hg _ w1782) (fun _ h9 => h9) rfl dX12_notes_14 ?_
    refine lv_iload_n hx hb dX12_notes_17 rfl (lv_at hl 1 rfl) ?_
    refine va_iast (D := D) (i := (V 0 76)) (x := p0) hx hb hK hP hD hS 54 53 rfl rfl (i_in (a := ((V 0 76)).toInt) rfl (by omega)) dX12_notes_18 (fun H locs hP hD hS => ?_)
    obtain ⟨V10, hV10⟩ : ∃ z, z = up2 V 77 (Int32.toNatClampNeg (V 0 76)) p0 := ⟨_, rfl⟩
    have hP : va_P D vwCl (mw ad kk ks.1 V10 L) H := by rw [hV10]; exact hP
    have hD : va_D A (mw ad kk ks.1 V10 L) := by rw [hV10]; exact hD
    have hMV10 : rgd bM V10 := hMV.put hV10 (i_full _)
    have agV10 : agr [(0, 76)] [77, 78, 79] V V10 := agV.up hV10 rfl
    refine lv_aload_n hx hb dX12_notes_19 rfl (lv_at hl 0 rfl) ?_
    refine va_get (D := D) (ci := 12) (v := .ref (ad 78)) (C := RX12) (T := TX12) (N := 100) hx hb hg inX12 hown hK hP 0 rfl rfl 78 (by decide) (hg _ w1784) (fun _ h9 => h9) rfl dX12_notes_20 ?_
    refine lv_aload_n hx hb dX12_notes_23 rfl (lv_at hl 0 rfl) ?_
    refine va_get (D := D) (ci := 12) (v := .int (V10 0 76)) (C := RX12) (T := TX12) (N := 100) hx hb hg inX12 hown hK hP 0 rfl rfl 76 (by decide) (hg _ w1782) (fun _ h9 => h9) rfl dX12_notes_24 ?_
    refine g_top (v := (V 0 76)) (up2_o hV10 (by decide)) ?_
    refine lv_iload_n hx hb dX12_notes_27 rfl (lv_at hl 2 rfl) ?_
    refine va_iast (D := D) (i := (V 0 76)) (x := p1) hx hb hK hP hD hS 55 54 rfl rfl (i_in (a := ((V 0 76)).toInt) rfl (by omega)) dX12_notes_28 (fun H locs hP hD hS => ?_)
    obtain ⟨V11, hV11⟩ : ∃ z, z = up2 V10 78 (Int32.toNatClampNeg (V 0 76)) p1 := ⟨_, rfl⟩
    have hP : va_P D vwCl (mw ad kk ks.1 V11 L) H := by rw [hV11]; exact hP
    have hD : va_D A (mw ad kk ks.1 V11 L) := by rw [hV11]; exact hD
    have hMV11 : rgd bM V11 := hMV10.put hV11 (i_full _)
    have agV11 : agr [(0, 76)] [77, 78, 79] V V11 := agV10.up hV11 rfl
    refine lv_aload_n hx hb dX12_notes_29 rfl (lv_at hl 0 rfl) ?_
    refine va_get (D := D) (ci := 12) (v := .ref (ad 79)) (C := RX12) (T := TX12) (N := 100) hx hb hg inX12 hown hK hP 0 rfl rfl 79 (by decide) (hg _ w1785) (fun _ h9 => h9) rfl dX12_notes_30 ?_
    refine lv_aload_n hx hb dX12_notes_33 rfl (lv_at hl 0 rfl) ?_
    refine va_get (D := D) (ci := 12) (v := .int (V11 0 76)) (C := RX12) (T := TX12) (N := 100) hx hb hg inX12 hown hK hP 0 rfl rfl 76 (by decide) (hg _ w1782) (fun _ h9 => h9) rfl dX12_notes_34 ?_
    refine g_top (v := (V 0 76)) ((up2_o hV11 (by decide)).trans (up2_o hV10 (by decide))) ?_
    refine lv_iload_n hx hb dX12_notes_37 rfl (lv_at hl 3 rfl) ?_
    refine va_iast (D := D) (i := (V 0 76)) (x := p2) hx hb hK hP hD hS 56 55 rfl rfl (i_in (a := ((V 0 76)).toInt) rfl (by omega)) dX12_notes_38 (fun H locs hP hD hS => ?_)
    obtain ⟨V12, hV12⟩ : ∃ z, z = up2 V11 79 (Int32.toNatClampNeg (V 0 76)) p2 := ⟨_, rfl⟩
    have hP : va_P D vwCl (mw ad kk ks.1 V12 L) H := by rw [hV12]; exact hP
    have hD : va_D A (mw ad kk ks.1 V12 L) := by rw [hV12]; exact hD
    have hMV12 : rgd bM V12 := hMV11.put hV12 (i_full _)
    have agV12 : agr [(0, 76)] [77, 78, 79] V V12 := agV11.up hV12 rfl
    exact J2 V12 H locs ls (agr.up (agr.up (agr.up agr.rf hV10 rfl) hV11 rfl) hV12 rfl) hMV12 hP hD hS (lv_sub hl [0, 1, 2, 3] rfl)
abbrev r_s_reckons2 : Room := { frames := 1, cells := 0, slots := 0, locals := 21 }
abbrev q_s_reckons2 (D : va_G) (ks : KS) (ad : Nat → Nat) (kk : Nat → ClassId) (V : Vf) (L : Lf) (p0 : Int32) (p1 : Int32) (A : Nat → Prop) : Array Value → State → Outcome → State → Prop := va_Qi (fun (r : Int32) (u : Vf × Lf) => rgd bM u.1 ∧ agr [(0, 68), (0, 69), (0, 90), (0, 91), (0, 98)] [97] V u.1 ∧ u.2 = L ∧ (0 ≤ r.toInt ∧ r.toInt ≤ 2) ∧ (Imp (p0.toInt = 1) ((u.1 0 98).toInt = (V 0 98).toInt ∧ ((r.toInt = 0 ∧ (u.1 0 69).toInt = (V 0 69).toInt + 1 ∧ (u.1 0 68).toInt = (V 0 68).toInt + 1) ∨ (r.toInt = 2 ∧ (u.1 0 69).toInt = (V 0 69).toInt ∧ (u.1 0 68).toInt = (V 0 68).toInt)))) ∧ (Imp (p0.toInt = 10) (r.toInt = 1 ∧ (u.1 0 98).toInt = (V 0 98).toInt)) ∧ (Imp (p0.toInt = 2 ∨ p0.toInt = 11) (r.toInt = 0 ∧ (u.1 0 98).toInt = (V 0 98).toInt + 1)) ∧ (Imp (p0.toInt = 4) (r.toInt = 0 ∧ (u.1 0 98).toInt = (V 0 98).toInt)) ∧ (Imp (5 ≤ p0.toInt ∧ p0.toInt ≤ 9) (r.toInt = 0 ∧ (u.1 0 98).toInt = (V 0 98).toInt - 1)) ∧ (Imp (p0.toInt ≠ 1) ((u.1 0 69).toInt = (V 0 69).toInt ∧ (u.1 0 68).toInt = (V 0 68).toInt))) (fun u t => gq D A (mw ad kk ks.1 u.1 u.2) (mty kk) t) A
abbrev r_s_isWrap2 : Room := { frames := 0, cells := 0, slots := 0, locals := 0 }
abbrev q_s_isWrap2 (D : va_G) (ks : KS) (ad : Nat → Nat) (kk : Nat → ClassId) (V : Vf) (L : Lf) (p0 : Int32) (p1 : Int32) (p2 : Int32) (p3 : Int32) (A : Nat → Prop) : Array Value → State → Outcome → State → Prop := va_Qi (fun (r : Int32) (_ : Unit) => (0 ≤ r.toInt ∧ r.toInt ≤ 1) ∧ (Imp (r.toInt = 1) (isWb V p1 p2 p3 (Int32.toNatClampNeg p0) = true)) ∧ (Imp (r.toInt = 0) (isWb V p1 p2 p3 (Int32.toNatClampNeg p0) = false))) (fun _ t => gq D A (mw ad kk ks.1 V L) (mty kk) t) A
set_option maxHeartbeats 4000000 in
set_option maxRecDepth 100000 in
theorem s_isWrap2 (l : Launch) (D : va_G) (ks : KS) (sz : Nat) (ad : Nat → Nat) (kk : Nat → ClassId) (V : Vf) (L : Lf) (p0 : Int32) (p1 : Int32) (p2 : Int32) (p3 : Int32) (hMV : rgd bM V) (rg_p0 : 0 ≤ p0.toInt ∧ p0.toInt ≤ 11) (rg_p1 : 0 ≤ p1.toInt ∧ p1.toInt ≤ 299) (wt : 0 ≤ (V 40 (12 * nwh V + Int32.toNatClampNeg p0)).toInt)  : Met l yX12_isWrap (Cond.code yX12_isWrap cX12_isWrap 6 (some .boolean) :: GW) r_s_isWrap2 (va_Pc [.ref (ad 0), .int p0, .int p1, .int p2, .int p3] (gp D ks (mw ad kk ks.1 V L) (mty kk) sz)) (q_s_isWrap2 D ks ad kk V L p0 p1 p2 p3 (va_A (mw ad kk ks.1 V L) sz)) 0 0 (va_A (mw ad kk ks.1 V L) sz) := by
  refine g_met (q_s_isWrap2 D ks ad kk V L p0 p1 p2 p3) (by decide) (Nat.le_of_ble_eq_true rfl) ?_
  intro p e s m below meth c A ls H locs hx hb hr hml hown hg hlocks hin hnw hgk hP hK hD hS hA hl
  have hown : s.vm.findClass RX12 = some m.cls := hown
  have hl : lv_has ls 6 [(0, .ref (ad 0)), (1, .int p0), (2, .int p1), (3, .int p2), (4, .int p3)] := hl
  have hP : va_P D vwCl (mw ad kk ks.1 V L) H := hP
  have hD : va_D A (mw ad kk ks.1 V L) := hD
  have hK : va_K D vwCl (mty kk) s := hK
  refine lv_bipush (v := 12) hx hb dX12_isWrap_0 (by decide) ?_
  refine lv_aload_n hx hb dX12_isWrap_2 rfl (lv_at hl 0 rfl) ?_
  refine va_get (D := D) (ci := 12) (v := .int (V 0 11)) (C := RX12) (T := TX12) (N := 100) hx hb hg inX12 hown hK hP 0 rfl rfl 11 (by decide) (hg _ w1717) (fun _ h9 => h9) rfl dX12_isWrap_3 ?_
  have r1 : 0 ≤ ((V 0 11)).toInt ∧ ((V 0 11)).toInt ≤ 1 := hMV 0 11
  refine lv_imul hx hb dX12_isWrap_6 ?_
  refine lv_topi (fun z2 ez2 => ?_)
  have hz2 : z2.toInt = 12 * ((V 0 11)).toInt := i_mul ez2 (by decide) rfl (by omega)
  refine lv_iload_n hx hb dX12_isWrap_7 rfl (lv_at hl 1 rfl) ?_
  refine lv_iadd hx hb dX12_isWrap_8 ?_
  refine lv_topi (fun z3 ez3 => ?_)
  have hz3 : z3.toInt = z2.toInt + p0.toInt := i_add ez3 rfl rfl (by omega)
  refine lv_istore (lv' := [(5, .int z3), (0, .ref (ad 0)), (1, .int p0), (2, .int p1), (3, .int p2), (4, .int p3)]) hx hb dX12_isWrap_9 hl (by decide) rfl (fun ls hl => ?_)
  have kn_ : (nwh V : Int) = (V 0 11).toInt := i_clamp (x := V 0 11) rfl (by omega)
  have k0_ := i_clamp (x := p0) rfl (by omega)
  have wt2 : 0 ≤ (V 40 (Int32.toNatClampNeg z3)).toInt := by have k5 : Int32.toNatClampNeg z3 = 12 * nwh V + Int32.toNatClampNeg p0 := (by have h9 := i_clamp (x := z3) rfl (by omega); omega); rw [k5]; exact wt
  refine lv_aload_n hx hb dX12_isWrap_11 rfl (lv_at hl 1 rfl) ?_
  refine va_get (D := D) (ci := 12) (v := .ref (ad 41)) (C := RX12) (T := TX12) (N := 100) hx hb hg inX12 hown hK hP 0 rfl rfl 41 (by decide) (hg _ w1747) (fun _ h9 => h9) rfl dX12_isWrap_12 ?_
  refine lv_iload hx hb dX12_isWrap_15 (lv_at hl 0 rfl) ?_
  refine va_iald (D := D) (i := z3) hx hb hK hP 34 33 rfl rfl (i_in (a := z3.toInt) rfl (by first | omega | ((try (have i_wt := Imp.go wt (by omega))); omega))) dX12_isWrap_17 ?_
  refine lv_iload_n hx hb dX12_isWrap_18 rfl (lv_at hl 4 rfl) ?_
  refine lv_icmp_ne (tgt := 71) hx hb dX12_isWrap_19 (by decide) (fun c4 => ?_) (fun c4 => ?_)
  · skip
    have f5 : ((V 41 (Int32.toNatClampNeg z3))).toInt ≠ p2.toInt := b_neq rfl rfl c4
    refine lv_iconst (v := 0) hx hb dX12_isWrap_71 (by decide) ?_
    have kn : (nwh V : Int) = (V 0 11).toInt := i_clamp (x := V 0 11) rfl (by omega)
    have k0 := i_clamp (x := p0) rfl (by omega)
    have k5 : Int32.toNatClampNeg z3 = 12 * nwh V + Int32.toNatClampNeg p0 := by have h9 := i_clamp (x := z3) rfl (by omega); omega
    have q40 : V 40 (12 * nwh V + Int32.toNatClampNeg p0) = V 40 (Int32.toNatClampNeg z3) := by rw [k5]
    have q41 : V 41 (12 * nwh V + Int32.toNatClampNeg p0) = V 41 (Int32.toNatClampNeg z3) := by rw [k5]
    have q43 : V 43 (12 * nwh V + Int32.toNatClampNeg p0) = V 43 (Int32.toNatClampNeg z3) := by rw [k5]
    exact W.zret (v := 0) hx hb hr rfl (fun t ht hW => ⟨⟨0, (), rfl, ⟨(by decide), (Imp.mk (fun hp => absurd hp (by decide))), (Imp.mk (fun _ => decide_eq_false (fun h => by have h9 := h.1; rw [q41] at h9; have h8 := congrArg Int32.toInt h9; omega)))⟩, by rw [ht]; exact hP, va_K.moved hW.alike hK, hD⟩, hS.F ht⟩) hS.2.2 dX12_isWrap_72
  · skip
    have f6 : ((V 41 (Int32.toNatClampNeg z3))).toInt = p2.toInt := b_eq rfl rfl c4
    refine lv_aload_n hx hb dX12_isWrap_22 rfl (lv_at hl 1 rfl) ?_
    refine va_get (D := D) (ci := 12) (v := .ref (ad 43)) (C := RX12) (T := TX12) (N := 100) hx hb hg inX12 hown hK hP 0 rfl rfl 43 (by decide) (hg _ w1749) (fun _ h9 => h9) rfl dX12_isWrap_23 ?_
    refine lv_iload hx hb dX12_isWrap_26 (lv_at hl 0 rfl) ?_
    refine va_iald (D := D) (i := z3) hx hb hK hP 36 35 rfl rfl (i_in (a := z3.toInt) rfl (by first | omega | ((try (have i_wt := Imp.go wt (by omega))); omega))) dX12_isWrap_28 ?_
    have r7 : 0 ≤ ((V 43 (Int32.toNatClampNeg z3))).toInt ∧ ((V 43 (Int32.toNatClampNeg z3))).toInt ≤ 3 := hMV 43 (Int32.toNatClampNeg z3)
    refine lv_iload hx hb dX12_isWrap_29 (lv_at hl 5 rfl) ?_
    refine lv_icmp_ne (tgt := 71) hx hb dX12_isWrap_31 (by decide) (fun c8 => ?_) (fun c8 => ?_)
    · skip
      have f9 : ((V 43 (Int32.toNatClampNeg z3))).toInt ≠ p3.toInt := b_neq rfl rfl c8
      refine lv_iconst (v := 0) hx hb dX12_isWrap_71 (by decide) ?_
      have kn : (nwh V : Int) = (V 0 11).toInt := i_clamp (x := V 0 11) rfl (by omega)
      have k0 := i_clamp (x := p0) rfl (by omega)
      have k5 : Int32.toNatClampNeg z3 = 12 * nwh V + Int32.toNatClampNeg p0 := by have h9 := i_clamp (x := z3) rfl (by omega); omega
      have q40 : V 40 (12 * nwh V + Int32.toNatClampNeg p0) = V 40 (Int32.toNatClampNeg z3) := by rw [k5]
      have q41 : V 41 (12 * nwh V + Int32.toNatClampNeg p0) = V 41 (Int32.toNatClampNeg z3) := by rw [k5]
      have q43 : V 43 (12 * nwh V + Int32.toNatClampNeg p0) = V 43 (Int32.toNatClampNeg z3) := by rw [k5]
      exact W.zret (v := 0) hx hb hr rfl (fun t ht hW => ⟨⟨0, (), rfl, ⟨(by decide), (Imp.mk (fun hp => absurd hp (by decide))), (Imp.mk (fun _ => decide_eq_false (fun h => by have h9 := h.2.1; rw [q43] at h9; have h8 := congrArg Int32.toInt h9; omega)))⟩, by rw [ht]; exact hP, va_K.moved hW.alike hK, hD⟩, hS.F ht⟩) hS.2.2 dX12_isWrap_72
    · skip
      have f10 : ((V 43 (Int32.toNatClampNeg z3))).toInt = p3.toInt := b_eq rfl rfl c8
      refine lv_aload_n hx hb dX12_isWrap_34 rfl (lv_at hl 1 rfl) ?_
      refine va_get (D := D) (ci := 12) (v := .ref (ad 21)) (C := RX12) (T := TX12) (N := 100) hx hb hg inX12 hown hK hP 0 rfl rfl 21 (by decide) (hg _ w1727) (fun _ h9 => h9) rfl dX12_isWrap_35 ?_
      refine lv_bipush (v := 24) hx hb dX12_isWrap_38 (by decide) ?_
      refine lv_bipush (v := 24) hx hb dX12_isWrap_40 (by decide) ?_
      refine lv_aload_n hx hb dX12_isWrap_42 rfl (lv_at hl 1 rfl) ?_
      refine va_get (D := D) (ci := 12) (v := .int (V 0 11)) (C := RX12) (T := TX12) (N := 100) hx hb hg inX12 hown hK hP 0 rfl rfl 11 (by decide) (hg _ w1717) (fun _ h9 => h9) rfl dX12_isWrap_43 ?_
      refine lv_imul hx hb dX12_isWrap_46 ?_
      refine lv_topi (fun z11 ez11 => ?_)
      have hz11 : z11.toInt = 24 * ((V 0 11)).toInt := i_mul ez11 (by decide) rfl (by omega)
      refine lv_aload_n hx hb dX12_isWrap_47 rfl (lv_at hl 1 rfl) ?_
      refine va_get (D := D) (ci := 12) (v := .ref (ad 61)) (C := RX12) (T := TX12) (N := 100) hx hb hg inX12 hown hK hP 0 rfl rfl 61 (by decide) (hg _ w1767) (fun _ h9 => h9) rfl dX12_isWrap_48 ?_
      refine lv_iload_n hx hb dX12_isWrap_51 rfl (lv_at hl 3 rfl) ?_
      refine va_iald (D := D) (i := p1) hx hb hK hP 46 45 rfl rfl (i_in (a := p1.toInt) rfl (by first | omega | ((try (have i_wt := Imp.go wt (by omega))); omega))) dX12_isWrap_52 ?_
      have r12 : 0 ≤ ((V 61 (Int32.toNatClampNeg p1))).toInt ∧ ((V 61 (Int32.toNatClampNeg p1))).toInt ≤ 23 := hMV 61 (Int32.toNatClampNeg p1)
      refine lv_iadd hx hb dX12_isWrap_53 ?_
      refine lv_topi (fun z13 ez13 => ?_)
      have hz13 : z13.toInt = z11.toInt + ((V 61 (Int32.toNatClampNeg p1))).toInt := i_add ez13 rfl rfl (by omega)
      refine lv_imul hx hb dX12_isWrap_54 ?_
      refine lv_topi (fun z14 ez14 => ?_)
      have hz14 : z14.toInt = 24 * z13.toInt := i_mul ez14 (by decide) rfl (by omega)
      refine lv_aload_n hx hb dX12_isWrap_55 rfl (lv_at hl 1 rfl) ?_
      refine va_get (D := D) (ci := 12) (v := .ref (ad 40)) (C := RX12) (T := TX12) (N := 100) hx hb hg inX12 hown hK hP 0 rfl rfl 40 (by decide) (hg _ w1746) (fun _ h9 => h9) rfl dX12_isWrap_56 ?_
      refine lv_iload hx hb dX12_isWrap_59 (lv_at hl 0 rfl) ?_
      refine va_iald (D := D) (i := z3) hx hb hK hP 33 32 rfl rfl (i_in (a := z3.toInt) rfl (by first | omega | ((try (have i_wt := Imp.go wt (by omega))); omega))) dX12_isWrap_61 ?_
      have r15 : (-1) ≤ ((V 40 (Int32.toNatClampNeg z3))).toInt ∧ ((V 40 (Int32.toNatClampNeg z3))).toInt ≤ 23 := hMV 40 (Int32.toNatClampNeg z3)
      refine lv_iadd hx hb dX12_isWrap_62 ?_
      refine lv_topi (fun z16 ez16 => ?_)
      have hz16 : z16.toInt = z14.toInt + ((V 40 (Int32.toNatClampNeg z3))).toInt := i_add ez16 rfl rfl (by omega)
      refine va_zald (D := D) (i := z16) hx hb hK hP 14 13 rfl rfl (i_in (a := z16.toInt) rfl (by first | omega | ((try (have i_wt := Imp.go wt (by omega))); omega))) dX12_isWrap_63 ?_
      have r17 : 0 ≤ ((V 21 (Int32.toNatClampNeg z16))).toInt ∧ ((V 21 (Int32.toNatClampNeg z16))).toInt ≤ 1 := hMV 21 (Int32.toNatClampNeg z16)
      refine lv_if_eq (tgt := 71) hx hb dX12_isWrap_64 (by decide) (fun c18 => ?_) (fun c18 => ?_)
      · skip
        have f19 : ((V 21 (Int32.toNatClampNeg z16))).toInt = 0 := b_eq rfl (by decide) c18
        refine lv_iconst (v := 0) hx hb dX12_isWrap_71 (by decide) ?_
        have kn : (nwh V : Int) = (V 0 11).toInt := i_clamp (x := V 0 11) rfl (by omega)
        have k0 := i_clamp (x := p0) rfl (by omega)
        have k5 : Int32.toNatClampNeg z3 = 12 * nwh V + Int32.toNatClampNeg p0 := by have h9 := i_clamp (x := z3) rfl (by omega); omega
        have q40 : V 40 (12 * nwh V + Int32.toNatClampNeg p0) = V 40 (Int32.toNatClampNeg z3) := by rw [k5]
        have q41 : V 41 (12 * nwh V + Int32.toNatClampNeg p0) = V 41 (Int32.toNatClampNeg z3) := by rw [k5]
        have q43 : V 43 (12 * nwh V + Int32.toNatClampNeg p0) = V 43 (Int32.toNatClampNeg z3) := by rw [k5]
        have r40 := congrArg Int32.toInt q40
        have r61 : 0 ≤ (V 61 (Int32.toNatClampNeg p1)).toInt ∧ (V 61 (Int32.toNatClampNeg p1)).toInt ≤ 23 := hMV 61 _
        have kx : Int32.toNatClampNeg z16 = 24 * (24 * nwh V + (V 61 (Int32.toNatClampNeg p1)).toInt.toNat) + (V 40 (12 * nwh V + Int32.toNatClampNeg p0)).toInt.toNat := by have h9 := i_clamp (x := z16) rfl (by omega); omega
        have q21 : (V 21 (24 * (24 * nwh V + (V 61 (Int32.toNatClampNeg p1)).toInt.toNat) + (V 40 (12 * nwh V + Int32.toNatClampNeg p0)).toInt.toNat)).toInt = (V 21 (Int32.toNatClampNeg z16)).toInt := by rw [kx]
        exact W.zret (v := 0) hx hb hr rfl (fun t ht hW => ⟨⟨0, (), rfl, ⟨(by decide), (Imp.mk (fun hp => absurd hp (by decide))), (Imp.mk (fun _ => decide_eq_false (fun h => by have h9 := h.2.2; omega)))⟩, by rw [ht]; exact hP, va_K.moved hW.alike hK, hD⟩, hS.F ht⟩) hS.2.2 dX12_isWrap_72
      · skip
        have f20 : ((V 21 (Int32.toNatClampNeg z16))).toInt ≠ 0 := b_neq rfl (by decide) c18
        refine lv_iconst (v := 1) hx hb dX12_isWrap_67 (by decide) ?_
        refine lv_goto (tgt := 72) hx hb dX12_isWrap_68 (by decide) ?_
        have kn : (nwh V : Int) = (V 0 11).toInt := i_clamp (x := V 0 11) rfl (by omega)
        have k0 := i_clamp (x := p0) rfl (by omega)
        have k5 : Int32.toNatClampNeg z3 = 12 * nwh V + Int32.toNatClampNeg p0 := by have h9 := i_clamp (x := z3) rfl (by omega); omega
        have q40 : V 40 (12 * nwh V + Int32.toNatClampNeg p0) = V 40 (Int32.toNatClampNeg z3) := by rw [k5]
        have q41 : V 41 (12 * nwh V + Int32.toNatClampNeg p0) = V 41 (Int32.toNatClampNeg z3) := by rw [k5]
        have q43 : V 43 (12 * nwh V + Int32.toNatClampNeg p0) = V 43 (Int32.toNatClampNeg z3) := by rw [k5]
        have r40 := congrArg Int32.toInt q40
        have r61 : 0 ≤ (V 61 (Int32.toNatClampNeg p1)).toInt ∧ (V 61 (Int32.toNatClampNeg p1)).toInt ≤ 23 := hMV 61 _
        have kx : Int32.toNatClampNeg z16 = 24 * (24 * nwh V + (V 61 (Int32.toNatClampNeg p1)).toInt.toNat) + (V 40 (12 * nwh V + Int32.toNatClampNeg p0)).toInt.toNat := by have h9 := i_clamp (x := z16) rfl (by omega); omega
        have q21 : (V 21 (24 * (24 * nwh V + (V 61 (Int32.toNatClampNeg p1)).toInt.toNat) + (V 40 (12 * nwh V + Int32.toNatClampNeg p0)).toInt.toNat)).toInt = (V 21 (Int32.toNatClampNeg z16)).toInt := by rw [kx]
        exact W.zret (v := 1) hx hb hr rfl (fun t ht hW => ⟨⟨1, (), rfl, ⟨(by decide), (Imp.mk (fun _ => decide_eq_true ⟨by rw [q41]; exact Int32.toInt_inj.mp (by omega), by rw [q43]; exact Int32.toInt_inj.mp (by omega), by omega⟩)), (Imp.mk (fun hp => absurd hp (by decide)))⟩, by rw [ht]; exact hP, va_K.moved hW.alike hK, hD⟩, hS.F ht⟩) hS.2.2 dX12_isWrap_72
abbrev r_s_wrapsOf2 : Room := { frames := 1, cells := 0, slots := 0, locals := 25 }
abbrev q_s_wrapsOf2 (D : va_G) (ks : KS) (ad : Nat → Nat) (kk : Nat → ClassId) (V : Vf) (L : Lf) (p0 : Int32) (p1 : Int32) (p2 : Int32) (A : Nat → Prop) : Array Value → State → Outcome → State → Prop := va_Qi (fun (r : Int32) (_ : Unit) => (0 ≤ r.toInt ∧ r.toInt ≤ 12) ∧ (r.toInt = ((wcn (isWb V p0 p1 p2) (wmany V) : Nat) : Int))) (fun _ t => gq D A (mw ad kk ks.1 V L) (mty kk) t) A
set_option maxHeartbeats 4000000 in
set_option maxRecDepth 100000 in
theorem s_wrapsOf2 (l : Launch) (D : va_G) (ks : KS) (sz : Nat) (ad : Nat → Nat) (kk : Nat → ClassId) (V : Vf) (L : Lf) (p0 : Int32) (p1 : Int32) (p2 : Int32) (hMV : rgd bM V) (rg_p0 : 0 ≤ p0.toInt ∧ p0.toInt ≤ 299) (tb : TB V)  : Met l yX12_wrapsOf (Cond.code yX12_wrapsOf cX12_wrapsOf 6 (some .int) :: GW) r_s_wrapsOf2 (va_Pc [.ref (ad 0), .int p0, .int p1, .int p2] (gp D ks (mw ad kk ks.1 V L) (mty kk) sz)) (q_s_wrapsOf2 D ks ad kk V L p0 p1 p2 (va_A (mw ad kk ks.1 V L) sz)) 0 0 (va_A (mw ad kk ks.1 V L) sz) := by
  refine g_met (q_s_wrapsOf2 D ks ad kk V L p0 p1 p2) (by decide) (Nat.le_of_ble_eq_true rfl) ?_
  intro p e s m below meth c A ls H locs hx hb hr hml hown hg hlocks hin hnw hgk hP hK hD hS hA hl
  have hown : s.vm.findClass RX12 = some m.cls := hown
  have hl : lv_has ls 6 [(0, .ref (ad 0)), (1, .int p0), (2, .int p1), (3, .int p2)] := hl
  have hP : va_P D vwCl (mw ad kk ks.1 V L) H := hP
  have hD : va_D A (mw ad kk ks.1 V L) := hD
  have hK : va_K D vwCl (mty kk) s := hK
  have r39h : 0 ≤ (V 39 (Int32.toNatClampNeg (V 0 11))).toInt ∧ (V 39 (Int32.toNatClampNeg (V 0 11))).toInt ≤ 12 := hMV 39 _
  refine lv_iconst (v := 0) hx hb dX12_wrapsOf_0 (by decide) ?_
  refine lv_istore (lv' := [(4, .int 0), (0, .ref (ad 0)), (1, .int p0), (2, .int p1), (3, .int p2)]) hx hb dX12_wrapsOf_1 hl (by decide) rfl (fun ls hl => ?_)
  refine lv_iconst (v := 0) hx hb dX12_wrapsOf_3 (by decide) ?_
  refine lv_istore (lv' := [(5, .int 0), (4, .int 0), (0, .ref (ad 0)), (1, .int p0), (2, .int p1), (3, .int p2)]) hx hb dX12_wrapsOf_4 hl (by decide) rfl (fun ls hl => ?_)
  have lp3 : ∀ (fulp3 : Nat) (y1 : Int32) (y2 : Int32) (H : Heap) (locs : List Loc) (ls : Array Slot), 0 ≤ y1.toInt ∧ y1.toInt ≤ 12 → 0 ≤ y2.toInt ∧ y2.toInt ≤ 12 → y2.toInt ≤ y1.toInt → y1.toInt ≤ (V 39 (Int32.toNatClampNeg (V 0 11))).toInt → y2.toInt = ((wcn (isWb V p0 p1 p2) (Int32.toNatClampNeg y1) : Nat) : Int) → 12 - y1.toInt < (fulp3 : Int) → va_P D vwCl (mw ad kk ks.1 V L) H → va_D A (mw ad kk ks.1 V L) → va_S A s.heap H locs → lv_has ls 6 [(5, .int y1), (4, .int y2), (0, .ref (ad 0)), (1, .int p0), (2, .int p1), (3, .int p2)] → W p l e r_s_wrapsOf2 s m ([.ref (ad 0), .int p0, .int p1, .int p2] : List Value).toArray below meth c H locs 0 0 (MQ below (q_s_wrapsOf2 D ks ad kk V L p0 p1 p2 A) ([.ref (ad 0), .int p0, .int p1, .int p2] : List Value).toArray s 0 0 A) (F0 m 6 ls []) := by
    intro fulp3
    induction fulp3 with
    | zero =>
      intro y1 y2 H locs ls klp3_0 klp3_1 xlp3_0 xlp3_1 xlp3_2 hn  hP hD hS hl
      exfalso; omega
    | succ fulp3 ihlp3 =>
      intro y1 y2 H locs ls klp3_0 klp3_1 xlp3_0 xlp3_1 xlp3_2 hn  hP hD hS hl
      refine lv_iload hx hb dX12_wrapsOf_6 (lv_at hl 0 rfl) ?_
      refine lv_aload_n hx hb dX12_wrapsOf_8 rfl (lv_at hl 2 rfl) ?_
      refine va_get (D := D) (ci := 12) (v := .ref (ad 39)) (C := RX12) (T := TX12) (N := 100) hx hb hg inX12 hown hK hP 0 rfl rfl 39 (by decide) (hg _ w1745) (fun _ h9 => h9) rfl dX12_wrapsOf_9 ?_
      refine lv_aload_n hx hb dX12_wrapsOf_12 rfl (lv_at hl 2 rfl) ?_
      refine va_get (D := D) (ci := 12) (v := .int (V 0 11)) (C := RX12) (T := TX12) (N := 100) hx hb hg inX12 hown hK hP 0 rfl rfl 11 (by decide) (hg _ w1717) (fun _ h9 => h9) rfl dX12_wrapsOf_13 ?_
      have r4 : 0 ≤ ((V 0 11)).toInt ∧ ((V 0 11)).toInt ≤ 1 := hMV 0 11
      refine va_iald (D := D) (i := (V 0 11)) hx hb hK hP 32 31 rfl rfl (i_in (a := ((V 0 11)).toInt) rfl (by first | omega | ((try (have i_tb := Imp.go tb (by omega))); omega))) dX12_wrapsOf_16 ?_
      have r5 : 0 ≤ ((V 39 (Int32.toNatClampNeg (V 0 11)))).toInt ∧ ((V 39 (Int32.toNatClampNeg (V 0 11)))).toInt ≤ 12 := hMV 39 (Int32.toNatClampNeg (V 0 11))
      refine lv_icmp_ge (tgt := 48) hx hb dX12_wrapsOf_17 (by decide) (fun c6 => ?_) (fun c6 => ?_)
      · skip
        have f7 : ((V 39 (Int32.toNatClampNeg (V 0 11)))).toInt ≤ y1.toInt := b_le rfl rfl c6
        refine lv_iload hx hb dX12_wrapsOf_48 (lv_at hl 1 rfl) ?_
        have kc5 := i_clamp (x := y1) rfl (by omega)
        have r39 : 0 ≤ (V 39 (nwh V)).toInt := (hMV 39 _).1
        have e39 : (V 39 (nwh V)).toInt = (V 39 (Int32.toNatClampNeg (V 0 11))).toInt := rfl
        have kw : wmany V = Int32.toNatClampNeg y1 := by unfold wmany; omega
        exact W.iret (v := y2) hx hb hr (fun t ht hW => ⟨⟨y2, (), rfl, ⟨(show 0 ≤ y2.toInt ∧ y2.toInt ≤ 12 from by first | omega | ((try (have i_tb := Imp.go tb (by omega))); omega)), (by rw [kw]; exact xlp3_2)⟩, by rw [ht]; exact hP, va_K.moved hW.alike hK, hD⟩, hS.F ht⟩) hS.2.2 dX12_wrapsOf_50
      · skip
        have f8 : y1.toInt < ((V 39 (Int32.toNatClampNeg (V 0 11)))).toInt := b_nle rfl rfl c6
        refine lv_iload hx hb dX12_wrapsOf_20 (lv_at hl 1 rfl) ?_
        refine lv_aload_n hx hb dX12_wrapsOf_22 rfl (lv_at hl 2 rfl) ?_
        refine lv_iload hx hb dX12_wrapsOf_23 (lv_at hl 0 rfl) ?_
        refine lv_iload_n hx hb dX12_wrapsOf_25 rfl (lv_at hl 3 rfl) ?_
        refine lv_iload_n hx hb dX12_wrapsOf_26 rfl (lv_at hl 4 rfl) ?_
        refine lv_iload_n hx hb dX12_wrapsOf_27 rfl (lv_at hl 5 rfl) ?_
        have kw9 := i_clamp (x := y1) rfl (by omega)
        have e39 : (V 39 (nwh V)).toInt = (V 39 (Int32.toNatClampNeg (V 0 11))).toInt := rfl
        refine gA_int (gA_runV (As := [.int y1, .int p0, .int p1, .int p2]) (rest := [.int y2]) (ci := 12) (q0 := 0) hx hb hml hown hg hP hD hK hS hA hnw hgk (s_isWrap2 l D ks H.size ad kk V L y1 p0 p1 p2 hMV (by first | omega | ((try (have i_tb := Imp.go tb (by omega))); omega)) (by first | omega | ((try (have i_tb := Imp.go tb (by omega))); omega)) ((show TBL V (nwh V) _ from tb).2 (Int32.toNatClampNeg y1) (by omega)).2.2) w2288 w2290 w141 w172 w2291 rfl rfl hdV_yX12_isWrap ⟨Nat.le_of_ble_eq_true rfl, Nat.le_of_ble_eq_true rfl⟩ rfl hl.1 rfl (Nat.le_of_ble_eq_true rfl) dX12_wrapsOf_28 ⟨Nat.le_of_ble_eq_true rfl, Nat.le_of_ble_eq_true rfl⟩) hP hD hK hS hA (fun z10 u11 H locs w12 hP hD hK hS => ?_)
        obtain ⟨rgz10, t13, t14⟩ := w12
        have rgz10 : 0 ≤ z10.toInt ∧ z10.toInt ≤ 1 := rgz10
        have t13 : Imp (z10.toInt = 1) (isWb V p0 p1 p2 (Int32.toNatClampNeg y1) = true) := t13
        have t14 : Imp (z10.toInt = 0) (isWb V p0 p1 p2 (Int32.toNatClampNeg y1) = false) := t14
        refine lv_if_eq (tgt := 38) hx hb dX12_wrapsOf_31 (by decide) (fun c15 => ?_) (fun c15 => ?_)
        · skip
          have f16 : z10.toInt = 0 := b_eq rfl (by decide) c15
          refine lv_iconst (v := 0) hx hb dX12_wrapsOf_38 (by decide) ?_
          refine lv_iadd hx hb dX12_wrapsOf_39 ?_
          refine lv_topi (fun z17 ez17 => ?_)
          have hz17 : z17.toInt = y2.toInt + 0 := i_add ez17 rfl (by decide) (by omega)
          refine lv_istore (lv' := [(4, .int z17), (5, .int y1), (0, .ref (ad 0)), (1, .int p0), (2, .int p1), (3, .int p2)]) hx hb dX12_wrapsOf_40 hl (by decide) rfl (fun ls hl => ?_)
          obtain ⟨z18, ez18⟩ : ∃ y : Int32, y = y1 + 1 := ⟨_, rfl⟩
          have hz18 : z18.toInt = y1.toInt + 1 := i_add ez18 rfl (by decide) (by omega)
          refine lv_iinc (v := z18) (lv' := [(5, .int z18), (4, .int z17), (0, .ref (ad 0)), (1, .int p0), (2, .int p1), (3, .int p2)]) hx hb dX12_wrapsOf_42 hl (k := 1) rfl (by rw [ez18]; rfl) (by decide) rfl (fun ls hl => ?_)
          refine lv_goto (tgt := 6) hx hb dX12_wrapsOf_45 (by decide) ?_
          have kc5 := i_clamp (x := y1) rfl (by omega)
          have kc6 : Int32.toNatClampNeg z18 = Int32.toNatClampNeg y1 + 1 := by have h9 := i_clamp (x := z18) rfl (by omega); omega
          have ws := wcn_s (isWb V p0 p1 p2) (Int32.toNatClampNeg y1)
          rw [if_neg (by rw [Imp.go t14 (by omega)]; decide)] at ws
          exact ihlp3 z18 z17 H locs ls (by first | omega | ((try (have i_tb := Imp.go tb (by omega))); omega)) (by first | omega | ((try (have i_tb := Imp.go tb (by omega))); omega)) (show z17.toInt ≤ z18.toInt from by first | omega | ((try (have i_tb := Imp.go tb (by omega))); omega)) (show z18.toInt ≤ (V 39 (Int32.toNatClampNeg (V 0 11))).toInt from by first | omega | ((try (have i_tb := Imp.go tb (by omega))); omega)) (by rw [kc6, ws]; omega) (by first | omega | ((try (have i_tb := Imp.go tb (by omega))); omega)) hP hD hS (lv_sub hl [0, 1, 2, 3, 4, 5] rfl)
        · skip
          have f19 : z10.toInt ≠ 0 := b_neq rfl (by decide) c15
          refine lv_iconst (v := 1) hx hb dX12_wrapsOf_34 (by decide) ?_
          refine lv_goto (tgt := 39) hx hb dX12_wrapsOf_35 (by decide) ?_
          refine lv_iadd hx hb dX12_wrapsOf_39 ?_
          refine lv_topi (fun z20 ez20 => ?_)
          have hz20 : z20.toInt = y2.toInt + 1 := i_add ez20 rfl (by decide) (by omega)
          refine lv_istore (lv' := [(4, .int z20), (5, .int y1), (0, .ref (ad 0)), (1, .int p0), (2, .int p1), (3, .int p2)]) hx hb dX12_wrapsOf_40 hl (by decide) rfl (fun ls hl => ?_)
          obtain ⟨z21, ez21⟩ : ∃ y : Int32, y = y1 + 1 := ⟨_, rfl⟩
          have hz21 : z21.toInt = y1.toInt + 1 := i_add ez21 rfl (by decide) (by omega)
          refine lv_iinc (v := z21) (lv' := [(5, .int z21), (4, .int z20), (0, .ref (ad 0)), (1, .int p0), (2, .int p1), (3, .int p2)]) hx hb dX12_wrapsOf_42 hl (k := 1) rfl (by rw [ez21]; rfl) (by decide) rfl (fun ls hl => ?_)
          refine lv_goto (tgt := 6) hx hb dX12_wrapsOf_45 (by decide) ?_
          have kc5 := i_clamp (x := y1) rfl (by omega)
          have kc6 : Int32.toNatClampNeg z21 = Int32.toNatClampNeg y1 + 1 := by have h9 := i_clamp (x := z21) rfl (by omega); omega
          have ws := wcn_s (isWb V p0 p1 p2) (Int32.toNatClampNeg y1)
          rw [if_pos (Imp.go t13 (by omega))] at ws
          exact ihlp3 z21 z20 H locs ls (by first | omega | ((try (have i_tb := Imp.go tb (by omega))); omega)) (by first | omega | ((try (have i_tb := Imp.go tb (by omega))); omega)) (show z20.toInt ≤ z21.toInt from by first | omega | ((try (have i_tb := Imp.go tb (by omega))); omega)) (show z21.toInt ≤ (V 39 (Int32.toNatClampNeg (V 0 11))).toInt from by first | omega | ((try (have i_tb := Imp.go tb (by omega))); omega)) (by rw [kc6, ws]; omega) (by first | omega | ((try (have i_tb := Imp.go tb (by omega))); omega)) hP hD hS (lv_sub hl [0, 1, 2, 3, 4, 5] rfl)
  have r22 : Int32.toInt 0 = 0 := by decide
  exact lp3 ((12 - (Int32.toInt 0) + 1 : Int).toNat) 0 0 H locs ls (by decide) (by decide) (show (Int32.toInt 0) ≤ (Int32.toInt 0) from by first | omega | ((try (have i_tb := Imp.go tb (by omega))); omega)) (show (Int32.toInt 0) ≤ (V 39 (Int32.toNatClampNeg (V 0 11))).toInt from by first | omega | ((try (have i_tb := Imp.go tb (by omega))); omega)) (show (Int32.toInt 0) = ((wcn (isWb V p0 p1 p2) (Int32.toNatClampNeg 0) : Nat) : Int) from rfl) (by first | omega | ((try (have i_tb := Imp.go tb (by omega))); omega)) hP hD hS (lv_sub hl [0, 1, 2, 3, 4, 5] rfl)
abbrev r_s_wrapAt2 : Room := { frames := 1, cells := 0, slots := 0, locals := 25 }
abbrev q_s_wrapAt2 (D : va_G) (ks : KS) (ad : Nat → Nat) (kk : Nat → ClassId) (V : Vf) (L : Lf) (p0 : Int32) (p1 : Int32) (p2 : Int32) (p3 : Int32) (A : Nat → Prop) : Array Value → State → Outcome → State → Prop := va_Qi (fun (r : Int32) (_ : Unit) => ((-1) ≤ r.toInt ∧ r.toInt ≤ 11) ∧ (Imp (0 ≤ r.toInt) (r.toInt < (V 39 (nwh V)).toInt ∧ isWb V p1 p2 p3 (Int32.toNatClampNeg r) = true ∧ p0.toInt < ((wcn (isWb V p1 p2 p3) (wmany V) : Nat) : Int))) ∧ (Imp (r.toInt = -1) (((wcn (isWb V p1 p2 p3) (wmany V) : Nat) : Int) ≤ p0.toInt))) (fun _ t => gq D A (mw ad kk ks.1 V L) (mty kk) t) A