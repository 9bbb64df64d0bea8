/-- the needs of the components of the BOOK that is there have a type -/
def BV (V : Vf) : Prop := ∀ (c k : Int) (i m : Int32), 0 ≤ c → c < (V 19 (Int32.toNatClampNeg (V 0 11))).toInt → i.toInt = 24 * (V 0 11).toInt + c → 0 ≤ k → k < (V 27 (Int32.toNatClampNeg i)).toInt → m.toInt = 8 * (24 * (V 0 11).toInt + c) + k → 0 ≤ (V 28 (Int32.toNatClampNeg m)).toInt
theorem at_ne {V : Vf} {c : Nat} {x : Int32} {n : Nat} {a : Int} (hx : (V c n).toInt = a) (h0 : 0 ≤ x.toInt) : Imp ((V c (Int32.toNatClampNeg x)).toInt ≠ a) (x.toInt ≠ (n : Int)) := fun h e => h (by
  have h1 := i_clamp (x := x) rfl h0
  have h2 : x.toNatClampNeg = n := by omega
  rw [h2]
  exact hx)

theorem w1727 : Cond.fieldLink RX12 68 "WiringHouseModel" "componentIs" "[Z" ∈ GW := gw_k tk9_7 132 (by decide +kernel) rfl
theorem w1734 : Cond.fieldLink RX12 89 "WiringHouseModel" "needType" "[I" ∈ GW := gw_k tk9_7 139 (by decide +kernel) rfl
theorem w1737 : Cond.fieldLink RX12 98 "WiringHouseModel" "needCalled" "[I" ∈ GW := gw_k tk9_7 142 (by decide +kernel) rfl
theorem w2179 : Cond.code yX12_suits cX12_suits 4 (some .boolean) ∈ GW := gw_k tk9_9 104 (rfl) rfl
theorem w2176 : Cond.methodLink RX12 441 yX12_suits ∈ GW := gw_k tk9_9 101 (by decide +kernel) rfl
theorem w2178 : Cond.instanceMethod yX12_suits ∈ GW := gw_k tk9_9 103 (by decide +kernel) rfl
theorem w120 : Cond.selects RX12 yX12_suits yX12_suits ∈ GW := gw_mem 120 (by decide +kernel) rfl
theorem hdV_yX12_suits : yX12_suits.cls = RX12 ∧ yX12_suits.cls ≠ "java/lang/invoke/MethodHandle" ∧ yX12_suits.cls ≠ "java/lang/invoke/VarHandle" ∧ (parseMethodDescriptor yX12_suits.desc).map (fun d => d.parameters.length) = some 2 := by decide +kernel
theorem w1736 : Cond.fieldLink RX12 95 "WiringHouseModel" "needAll" "[Z" ∈ GW := gw_k tk9_7 141 (by decide +kernel) rfl
theorem w1786 : Cond.fieldLink RX12 198 "WiringHouseModel" "candidates" "[I" ∈ GW := gw_k tk9_7 191 (by decide +kernel) rfl
theorem w2175 : Cond.code yX12_candidatesOf cX12_candidatesOf 5 (some .int) ∈ GW := gw_k tk9_9 100 (rfl) rfl
theorem w2172 : Cond.methodLink RX12 455 yX12_candidatesOf ∈ GW := gw_k tk9_9 97 (by decide +kernel) rfl
theorem w2174 : Cond.instanceMethod yX12_candidatesOf ∈ GW := gw_k tk9_9 99 (by decide +kernel) rfl
theorem w119 : Cond.selects RX12 yX12_candidatesOf yX12_candidatesOf ∈ GW := gw_mem 119 (by decide +kernel) rfl
theorem hdV_yX12_candidatesOf : yX12_candidatesOf.cls = RX12 ∧ yX12_candidatesOf.cls ≠ "java/lang/invoke/MethodHandle" ∧ yX12_candidatesOf.cls ≠ "java/lang/invoke/VarHandle" ∧ (parseMethodDescriptor yX12_candidatesOf.desc).map (fun d => d.parameters.length) = some 1 := by decide +kernel
theorem w1772 : Cond.fieldLink RX12 176 "WiringHouseModel" "joins" "[I" ∈ GW := gw_k tk9_7 177 (by decide +kernel) rfl
theorem w1773 : Cond.fieldLink RX12 180 "WiringHouseModel" "joinedTo" "[I" ∈ GW := gw_k tk9_7 178 (by decide +kernel) rfl
theorem w1792 : Cond.fieldLink RX12 213 "WiringHouseModel" "isWrong" "[Z" ∈ GW := gw_k tk9_7 197 (by decide +kernel) rfl
theorem w1735 : Cond.fieldLink RX12 92 "WiringHouseModel" "needLate" "[Z" ∈ GW := gw_k tk9_7 140 (by decide +kernel) rfl
theorem w2182 : Cond.code yX12_longness cX12_longness 1 (some .int) ∈ GW := gw_k tk9_9 107 (rfl) rfl
theorem w2180 : Cond.methodLink RX12 458 yX12_longness ∈ GW := gw_k tk9_9 105 (by decide +kernel) rfl
theorem w2181 : Cond.static yX12_longness ∈ GW := gw_k tk9_9 106 (by decide +kernel) rfl
theorem hdS_yX12_longness : yX12_longness.cls ≠ "java/lang/invoke/MethodHandle" ∧ yX12_longness.cls ≠ "java/lang/invoke/VarHandle" ∧ (parseMethodDescriptor yX12_longness.desc).map (fun d => d.parameters.length) = some 1 := by decide +kernel
theorem w2186 : Cond.code yX12_addFault cX12_addFault 4 none ∈ GW := gw_k tk9_9 111 (rfl) rfl
theorem w2183 : Cond.methodLink RX12 461 yX12_addFault ∈ GW := gw_k tk9_9 108 (by decide +kernel) rfl
theorem w2185 : Cond.instanceMethod yX12_addFault ∈ GW := gw_k tk9_9 110 (by decide +kernel) rfl
theorem w121 : Cond.selects RX12 yX12_addFault yX12_addFault ∈ GW := gw_mem 121 (by decide +kernel) rfl
theorem hdV_yX12_addFault : yX12_addFault.cls = RX12 ∧ yX12_addFault.cls ≠ "java/lang/invoke/MethodHandle" ∧ yX12_addFault.cls ≠ "java/lang/invoke/VarHandle" ∧ (parseMethodDescriptor yX12_addFault.desc).map (fun d => d.parameters.length) = some 3 := by decide +kernel
theorem w1794 : Cond.fieldLink RX12 219 "WiringHouseModel" "way" "[I" ∈ GW := gw_k tk9_7 199 (by decide +kernel) rfl
theorem w1795 : Cond.fieldLink RX12 449 "WiringHouseModel" "wayMany" "I" ∈ GW := gw_k tk9_7 200 (by decide +kernel) rfl
theorem dk9_dX12_suits_0_0 : dOk cX12_suits [(0, .bipush 24, 2), (2, .aload_n 0, 1), (3, .getfield 286, 3), (6, .imul, 1), (7, .iload_n 2, 1), (8, .iadd, 1), (9, .istore_n 3, 1), (10, .aload_n 0, 1), (11, .iload_n 2, 1), (12, .invokevirtual 438, 3), (15, .ifCond .eq 50, 3), (65, .iconst 0, 1), (66, .ireturn, 1), (18, .aload_n 0, 1), (19, .getfield 68, 3), (22, .bipush 24, 2), (24, .iload_n 3, 1), (25, .imul, 1), (26, .aload_n 0, 1), (27, .getfield 89, 3), (30, .iload_n 1, 1), (31, .iaload, 1), (32, .iadd, 1), (33, .baload, 1)] = true ∧ dOk cX12_suits [(34, .ifCond .eq 31, 3), (37, .aload_n 0, 1), (38, .getfield 98, 3), (41, .iload_n 1, 1), (42, .iaload, 1), (43, .ifCond .lt 18, 3), (61, .iconst 1, 1), (62, .goto 4, 3), (46, .aload_n 0, 1), (47, .getfield 74, 3), (50, .iload_n 3, 1), (51, .iaload, 1), (52, .aload_n 0, 1), (53, .getfield 98, 3), (56, .iload_n 1, 1), (57, .iaload, 1), (58, .if_icmp .ne 7, 3)] = true := by decide +kernel
theorem dX12_suits_0 : decode cX12_suits 0 = .ok (.bipush 24, 2) := dr9 dk9_dX12_suits_0_0.1 0 (0, .bipush 24, 2) rfl
theorem dX12_suits_2 : decode cX12_suits 2 = .ok (.aload_n 0, 1) := dr9 dk9_dX12_suits_0_0.1 1 (2, .aload_n 0, 1) rfl
theorem dX12_suits_3 : decode cX12_suits 3 = .ok (.getfield 286, 3) := dr9 dk9_dX12_suits_0_0.1 2 (3, .getfield 286, 3) rfl
theorem dX12_suits_6 : decode cX12_suits 6 = .ok (.imul, 1) := dr9 dk9_dX12_suits_0_0.1 3 (6, .imul, 1) rfl
theorem dX12_suits_7 : decode cX12_suits 7 = .ok (.iload_n 2, 1) := dr9 dk9_dX12_suits_0_0.1 4 (7, .iload_n 2, 1) rfl
theorem dX12_suits_8 : decode cX12_suits 8 = .ok (.iadd, 1) := dr9 dk9_dX12_suits_0_0.1 5 (8, .iadd, 1) rfl
theorem dX12_suits_9 : decode cX12_suits 9 = .ok (.istore_n 3, 1) := dr9 dk9_dX12_suits_0_0.1 6 (9, .istore_n 3, 1) rfl
theorem dX12_suits_10 : decode cX12_suits 10 = .ok (.aload_n 0, 1) := dr9 dk9_dX12_suits_0_0.1 7 (10, .aload_n 0, 1) rfl
theorem dX12_suits_11 : decode cX12_suits 11 = .ok (.iload_n 2, 1) := dr9 dk9_dX12_suits_0_0.1 8 (11, .iload_n 2, 1) rfl
theorem dX12_suits_12 : decode cX12_suits 12 = .ok (.invokevirtual 438, 3) := dr9 dk9_dX12_suits_0_0.1 9 (12, .invokevirtual 438, 3) rfl
theorem dX12_suits_15 : decode cX12_suits 15 = .ok (.ifCond .eq 50, 3) := dr9 dk9_dX12_suits_0_0.1 10 (15, .ifCond .eq 50, 3) rfl
theorem dX12_suits_65 : decode cX12_suits 65 = .ok (.iconst 0, 1) := dr9 dk9_dX12_suits_0_0.1 11 (65, .iconst 0, 1) rfl
theorem dX12_suits_66 : decode cX12_suits 66 = .ok (.ireturn, 1) := dr9 dk9_dX12_suits_0_0.1 12 (66, .ireturn, 1) rfl
theorem dX12_suits_18 : decode cX12_suits 18 = .ok (.aload_n 0, 1) := dr9 dk9_dX12_suits_0_0.1 13 (18, .aload_n 0, 1) rfl
theorem dX12_suits_19 : decode cX12_suits 19 = .ok (.getfield 68, 3) := dr9 dk9_dX12_suits_0_0.1 14 (19, .getfield 68, 3) rfl
theorem dX12_suits_22 : decode cX12_suits 22 = .ok (.bipush 24, 2) := dr9 dk9_dX12_suits_0_0.1 15 (22, .bipush 24, 2) rfl
theorem dX12_suits_24 : decode cX12_suits 24 = .ok (.iload_n 3, 1) := dr9 dk9_dX12_suits_0_0.1 16 (24, .iload_n 3, 1) rfl
theorem dX12_suits_25 : decode cX12_suits 25 = .ok (.imul, 1) := dr9 dk9_dX12_suits_0_0.1 17 (25, .imul, 1) rfl
theorem dX12_suits_26 : decode cX12_suits 26 = .ok (.aload_n 0, 1) := dr9 dk9_dX12_suits_0_0.1 18 (26, .aload_n 0, 1) rfl
theorem dX12_suits_27 : decode cX12_suits 27 = .ok (.getfield 89, 3) := dr9 dk9_dX12_suits_0_0.1 19 (27, .getfield 89, 3) rfl
theorem dX12_suits_30 : decode cX12_suits 30 = .ok (.iload_n 1, 1) := dr9 dk9_dX12_suits_0_0.1 20 (30, .iload_n 1, 1) rfl
theorem dX12_suits_31 : decode cX12_suits 31 = .ok (.iaload, 1) := dr9 dk9_dX12_suits_0_0.1 21 (31, .iaload, 1) rfl
theorem dX12_suits_32 : decode cX12_suits 32 = .ok (.iadd, 1) := dr9 dk9_dX12_suits_0_0.1 22 (32, .iadd, 1) rfl
theorem dX12_suits_33 : decode cX12_suits 33 = .ok (.baload, 1) := dr9 dk9_dX12_suits_0_0.1 23 (33, .baload, 1) rfl
theorem dX12_suits_34 : decode cX12_suits 34 = .ok (.ifCond .eq 31, 3) := dr9 dk9_dX12_suits_0_0.2 0 (34, .ifCond .eq 31, 3) rfl
theorem dX12_suits_37 : decode cX12_suits 37 = .ok (.aload_n 0, 1) := dr9 dk9_dX12_suits_0_0.2 1 (37, .aload_n 0, 1) rfl
theorem dX12_suits_38 : decode cX12_suits 38 = .ok (.getfield 98, 3) := dr9 dk9_dX12_suits_0_0.2 2 (38, .getfield 98, 3) rfl
theorem dX12_suits_41 : decode cX12_suits 41 = .ok (.iload_n 1, 1) := dr9 dk9_dX12_suits_0_0.2 3 (41, .iload_n 1, 1) rfl
theorem dX12_suits_42 : decode cX12_suits 42 = .ok (.iaload, 1) := dr9 dk9_dX12_suits_0_0.2 4 (42, .iaload, 1) rfl
theorem dX12_suits_43 : decode cX12_suits 43 = .ok (.ifCond .lt 18, 3) := dr9 dk9_dX12_suits_0_0.2 5 (43, .ifCond .lt 18, 3) rfl
theorem dX12_suits_61 : decode cX12_suits 61 = .ok (.iconst 1, 1) := dr9 dk9_dX12_suits_0_0.2 6 (61, .iconst 1, 1) rfl
theorem dX12_suits_62 : decode cX12_suits 62 = .ok (.goto 4, 3) := dr9 dk9_dX12_suits_0_0.2 7 (62, .goto 4, 3) rfl
theorem dX12_suits_46 : decode cX12_suits 46 = .ok (.aload_n 0, 1) := dr9 dk9_dX12_suits_0_0.2 8 (46, .aload_n 0, 1) rfl
theorem dX12_suits_47 : decode cX12_suits 47 = .ok (.getfield 74, 3) := dr9 dk9_dX12_suits_0_0.2 9 (47, .getfield 74, 3) rfl
theorem dX12_suits_50 : decode cX12_suits 50 = .ok (.iload_n 3, 1) := dr9 dk9_dX12_suits_0_0.2 10 (50, .iload_n 3, 1) rfl
theorem dX12_suits_51 : decode cX12_suits 51 = .ok (.iaload, 1) := dr9 dk9_dX12_suits_0_0.2 11 (51, .iaload, 1) rfl
theorem dX12_suits_52 : decode cX12_suits 52 = .ok (.aload_n 0, 1) := dr9 dk9_dX12_suits_0_0.2 12 (52, .aload_n 0, 1) rfl
theorem dX12_suits_53 : decode cX12_suits 53 = .ok (.getfield 98, 3) := dr9 dk9_dX12_suits_0_0.2 13 (53, .getfield 98, 3) rfl
theorem dX12_suits_56 : decode cX12_suits 56 = .ok (.iload_n 1, 1) := dr9 dk9_dX12_suits_0_0.2 14 (56, .iload_n 1, 1) rfl
theorem dX12_suits_57 : decode cX12_suits 57 = .ok (.iaload, 1) := dr9 dk9_dX12_suits_0_0.2 15 (57, .iaload, 1) rfl
theorem dX12_suits_58 : decode cX12_suits 58 = .ok (.if_icmp .ne 7, 3) := dr9 dk9_dX12_suits_0_0.2 16 (58, .if_icmp .ne 7, 3) rfl
theorem dk9_dX12_candidatesOf_0_0 : dOk cX12_candidatesOf [(0, .iconst 0, 1), (1, .istore_n 2, 1), (2, .iconst 0, 1), (3, .istore_n 3, 1), (4, .iload_n 3, 1), (5, .aload_n 0, 1), (6, .getfield 62, 3), (9, .aload_n 0, 1), (10, .getfield 286, 3), (13, .iaload, 1), (14, .if_icmp .ge 55, 3), (69, .iconst 0, 1), (70, .istore_n 3, 1), (71, .iconst 0, 1), (72, .istore 4, 2), (74, .iload 4, 2), (76, .aload_n 0, 1), (77, .getfield 62, 3), (80, .aload_n 0, 1), (81, .getfield 286, 3), (84, .iaload, 1), (85, .if_icmp .ge 58, 3), (143, .iload_n 3, 1), (144, .ireturn, 1)] = true ∧ dOk cX12_candidatesOf [(88, .aload_n 0, 1), (89, .iload_n 1, 1), (90, .iload 4, 2), (92, .invokevirtual 441, 3), (95, .ifCond .eq 42, 3), (137, .iinc 4 1, 3), (140, .goto (-66), 3), (98, .aload_n 0, 1), (99, .getfield 95, 3), (102, .iload_n 1, 1), (103, .baload, 1), (104, .ifCond .ne 22, 3), (126, .aload_n 0, 1), (127, .getfield 198, 3), (130, .iload_n 3, 1), (131, .iload 4, 2), (133, .iastore, 1), (134, .iinc 3 1, 3), (107, .aload_n 0, 1), (108, .getfield 77, 3), (111, .bipush 24, 2), (113, .aload_n 0, 1), (114, .getfield 286, 3), (117, .imul, 1)] = true ∧ dOk cX12_candidatesOf [(118, .iload 4, 2), (120, .iadd, 1), (121, .iaload, 1), (122, .iload_n 2, 1), (123, .if_icmp .ne 14, 3), (17, .aload_n 0, 1), (18, .iload_n 1, 1), (19, .iload_n 3, 1), (20, .invokevirtual 441, 3), (23, .ifCond .eq 38, 3), (61, .iload_n 2, 1), (62, .istore_n 2, 1), (63, .iinc 3 1, 3), (66, .goto (-62), 3), (26, .aload_n 0, 1), (27, .getfield 77, 3), (30, .bipush 24, 2), (32, .aload_n 0, 1), (33, .getfield 286, 3), (36, .imul, 1), (37, .iload_n 3, 1), (38, .iadd, 1), (39, .iaload, 1), (40, .iload_n 2, 1)] = true ∧ dOk cX12_candidatesOf [(41, .if_icmp .le 20, 3), (44, .aload_n 0, 1), (45, .getfield 77, 3), (48, .bipush 24, 2), (50, .aload_n 0, 1), (51, .getfield 286, 3), (54, .imul, 1), (55, .iload_n 3, 1), (56, .iadd, 1), (57, .iaload, 1), (58, .goto 4, 3)] = true := by decide +kernel
theorem dX12_candidatesOf_0 : decode cX12_candidatesOf 0 = .ok (.iconst 0, 1) := dr9 dk9_dX12_candidatesOf_0_0.1 0 (0, .iconst 0, 1) rfl
theorem dX12_candidatesOf_1 : decode cX12_candidatesOf 1 = .ok (.istore_n 2, 1) := dr9 dk9_dX12_candidatesOf_0_0.1 1 (1, .istore_n 2, 1) rfl
theorem dX12_candidatesOf_2 : decode cX12_candidatesOf 2 = .ok (.iconst 0, 1) := dr9 dk9_dX12_candidatesOf_0_0.1 2 (2, .iconst 0, 1) rfl
theorem dX12_candidatesOf_3 : decode cX12_candidatesOf 3 = .ok (.istore_n 3, 1) := dr9 dk9_dX12_candidatesOf_0_0.1 3 (3, .istore_n 3, 1) rfl
theorem dX12_candidatesOf_4 : decode cX12_candidatesOf 4 = .ok (.iload_n 3, 1) := dr9 dk9_dX12_candidatesOf_0_0.1 4 (4, .iload_n 3, 1) rfl
theorem dX12_candidatesOf_5 : decode cX12_candidatesOf 5 = .ok (.aload_n 0, 1) := dr9 dk9_dX12_candidatesOf_0_0.1 5 (5, .aload_n 0, 1) rfl
theorem dX12_candidatesOf_6 : decode cX12_candidatesOf 6 = .ok (.getfield 62, 3) := dr9 dk9_dX12_candidatesOf_0_0.1 6 (6, .getfield 62, 3) rfl
theorem dX12_candidatesOf_9 : decode cX12_candidatesOf 9 = .ok (.aload_n 0, 1) := dr9 dk9_dX12_candidatesOf_0_0.1 7 (9, .aload_n 0, 1) rfl
theorem dX12_candidatesOf_10 : decode cX12_candidatesOf 10 = .ok (.getfield 286, 3) := dr9 dk9_dX12_candidatesOf_0_0.1 8 (10, .getfield 286, 3) rfl
theorem dX12_candidatesOf_13 : decode cX12_candidatesOf 13 = .ok (.iaload, 1) := dr9 dk9_dX12_candidatesOf_0_0.1 9 (13, .iaload, 1) rfl
theorem dX12_candidatesOf_14 : decode cX12_candidatesOf 14 = .ok (.if_icmp .ge 55, 3) := dr9 dk9_dX12_candidatesOf_0_0.1 10 (14, .if_icmp .ge 55, 3) rfl
theorem dX12_candidatesOf_69 : decode cX12_candidatesOf 69 = .ok (.iconst 0, 1) := dr9 dk9_dX12_candidatesOf_0_0.1 11 (69, .iconst 0, 1) rfl
theorem dX12_candidatesOf_70 : decode cX12_candidatesOf 70 = .ok (.istore_n 3, 1) := dr9 dk9_dX12_candidatesOf_0_0.1 12 (70, .istore_n 3, 1) rfl
theorem dX12_candidatesOf_71 : decode cX12_candidatesOf 71 = .ok (.iconst 0, 1) := dr9 dk9_dX12_candidatesOf_0_0.1 13 (71, .iconst 0, 1) rfl
theorem dX12_candidatesOf_72 : decode cX12_candidatesOf 72 = .ok (.istore 4, 2) := dr9 dk9_dX12_candidatesOf_0_0.1 14 (72, .istore 4, 2) rfl
theorem dX12_candidatesOf_74 : decode cX12_candidatesOf 74 = .ok (.iload 4, 2) := dr9 dk9_dX12_candidatesOf_0_0.1 15 (74, .iload 4, 2) rfl
theorem dX12_candidatesOf_76 : decode cX12_candidatesOf 76 = .ok (.aload_n 0, 1) := dr9 dk9_dX12_candidatesOf_0_0.1 16 (76, .aload_n 0, 1) rfl
theorem dX12_candidatesOf_77 : decode cX12_candidatesOf 77 = .ok (.getfield 62, 3) := dr9 dk9_dX12_candidatesOf_0_0.1 17 (77, .getfield 62, 3) rfl
theorem dX12_candidatesOf_80 : decode cX12_candidatesOf 80 = .ok (.aload_n 0, 1) := dr9 dk9_dX12_candidatesOf_0_0.1 18 (80, .aload_n 0, 1) rfl
theorem dX12_candidatesOf_81 : decode cX12_candidatesOf 81 = .ok (.getfield 286, 3) := dr9 dk9_dX12_candidatesOf_0_0.1 19 (81, .getfield 286, 3) rfl
theorem dX12_candidatesOf_84 : decode cX12_candidatesOf 84 = .ok (.iaload, 1) := dr9 dk9_dX12_candidatesOf_0_0.1 20 (84, .iaload, 1) rfl
theorem dX12_candidatesOf_85 : decode cX12_candidatesOf 85 = .ok (.if_icmp .ge 58, 3) := dr9 dk9_dX12_candidatesOf_0_0.1 21 (85, .if_icmp .ge 58, 3) rfl
theorem dX12_candidatesOf_143 : decode cX12_candidatesOf 143 = .ok (.iload_n 3, 1) := dr9 dk9_dX12_candidatesOf_0_0.1 22 (143, .iload_n 3, 1) rfl
theorem dX12_candidatesOf_144 : decode cX12_candidatesOf 144 = .ok (.ireturn, 1) := dr9 dk9_dX12_candidatesOf_0_0.1 23 (144, .ireturn, 1) rfl
theorem dX12_candidatesOf_88 : decode cX12_candidatesOf 88 = .ok (.aload_n 0, 1) := dr9 dk9_dX12_candidatesOf_0_0.2.1 0 (88, .aload_n 0, 1) rfl
theorem dX12_candidatesOf_89 : decode cX12_candidatesOf 89 = .ok (.iload_n 1, 1) := dr9 dk9_dX12_candidatesOf_0_0.2.1 1 (89, .iload_n 1, 1) rfl
theorem dX12_candidatesOf_90 : decode cX12_candidatesOf 90 = .ok (.iload 4, 2) := dr9 dk9_dX12_candidatesOf_0_0.2.1 2 (90, .iload 4, 2) rfl
theorem dX12_candidatesOf_92 : decode cX12_candidatesOf 92 = .ok (.invokevirtual 441, 3) := dr9 dk9_dX12_candidatesOf_0_0.2.1 3 (92, .invokevirtual 441, 3) rfl
theorem dX12_candidatesOf_95 : decode cX12_candidatesOf 95 = .ok (.ifCond .eq 42, 3) := dr9 dk9_dX12_candidatesOf_0_0.2.1 4 (95, .ifCond .eq 42, 3) rfl
theorem dX12_candidatesOf_137 : decode cX12_candidatesOf 137 = .ok (.iinc 4 1, 3) := dr9 dk9_dX12_candidatesOf_0_0.2.1 5 (137, .iinc 4 1, 3) rfl
theorem dX12_candidatesOf_140 : decode cX12_candidatesOf 140 = .ok (.goto (-66), 3) := dr9 dk9_dX12_candidatesOf_0_0.2.1 6 (140, .goto (-66), 3) rfl
theorem dX12_candidatesOf_98 : decode cX12_candidatesOf 98 = .ok (.aload_n 0, 1) := dr9 dk9_dX12_candidatesOf_0_0.2.1 7 (98, .aload_n 0, 1) rfl
theorem dX12_candidatesOf_99 : decode cX12_candidatesOf 99 = .ok (.getfield 95, 3) := dr9 dk9_dX12_candidatesOf_0_0.2.1 8 (99, .getfield 95, 3) rfl
theorem dX12_candidatesOf_102 : decode cX12_candidatesOf 102 = .ok (.iload_n 1, 1) := dr9 dk9_dX12_candidatesOf_0_0.2.1 9 (102, .iload_n 1, 1) rfl
theorem dX12_candidatesOf_103 : decode cX12_candidatesOf 103 = .ok (.baload, 1) := dr9 dk9_dX12_candidatesOf_0_0.2.1 10 (103, .baload, 1) rfl
theorem dX12_candidatesOf_104 : decode cX12_candidatesOf 104 = .ok (.ifCond .ne 22, 3) := dr9 dk9_dX12_candidatesOf_0_0.2.1 11 (104, .ifCond .ne 22, 3) rfl
theorem dX12_candidatesOf_126 : decode cX12_candidatesOf 126 = .ok (.aload_n 0, 1) := dr9 dk9_dX12_candidatesOf_0_0.2.1 12 (126, .aload_n 0, 1) rfl
theorem dX12_candidatesOf_127 : decode cX12_candidatesOf 127 = .ok (.getfield 198, 3) := dr9 dk9_dX12_candidatesOf_0_0.2.1 13 (127, .getfield 198, 3) rfl
theorem dX12_candidatesOf_130 : decode cX12_candidatesOf 130 = .ok (.iload_n 3, 1) := dr9 dk9_dX12_candidatesOf_0_0.2.1 14 (130, .iload_n 3, 1) rfl
theorem dX12_candidatesOf_131 : decode cX12_candidatesOf 131 = .ok (.iload 4, 2) := dr9 dk9_dX12_candidatesOf_0_0.2.1 15 (131, .iload 4, 2) rfl
theorem dX12_candidatesOf_133 : decode cX12_candidatesOf 133 = .ok (.iastore, 1) := dr9 dk9_dX12_candidatesOf_0_0.2.1 16 (133, .iastore, 1) rfl
theorem dX12_candidatesOf_134 : decode cX12_candidatesOf 134 = .ok (.iinc 3 1, 3) := dr9 dk9_dX12_candidatesOf_0_0.2.1 17 (134, .iinc 3 1, 3) rfl
theorem dX12_candidatesOf_107 : decode cX12_candidatesOf 107 = .ok (.aload_n 0, 1) := dr9 dk9_dX12_candidatesOf_0_0.2.1 18 (107, .aload_n 0, 1) rfl
theorem dX12_candidatesOf_108 : decode cX12_candidatesOf 108 = .ok (.getfield 77, 3) := dr9 dk9_dX12_candidatesOf_0_0.2.1 19 (108, .getfield 77, 3) rfl
theorem dX12_candidatesOf_111 : decode cX12_candidatesOf 111 = .ok (.bipush 24, 2) := dr9 dk9_dX12_candidatesOf_0_0.2.1 20 (111, .bipush 24, 2) rfl
theorem dX12_candidatesOf_113 : decode cX12_candidatesOf 113 = .ok (.aload_n 0, 1) := dr9 dk9_dX12_candidatesOf_0_0.2.1 21 (113, .aload_n 0, 1) rfl
theorem dX12_candidatesOf_114 : decode cX12_candidatesOf 114 = .ok (.getfield 286, 3) := dr9 dk9_dX12_candidatesOf_0_0.2.1 22 (114, .getfield 286, 3) rfl
theorem dX12_candidatesOf_117 : decode cX12_candidatesOf 117 = .ok (.imul, 1) := dr9 dk9_dX12_candidatesOf_0_0.2.1 23 (117, .imul, 1) rfl
theorem dX12_candidatesOf_118 : decode cX12_candidatesOf 118 = .ok (.iload 4, 2) := dr9 dk9_dX12_candidatesOf_0_0.2.2.1 0 (118, .iload 4, 2) rfl
theorem dX12_candidatesOf_120 : decode cX12_candidatesOf 120 = .ok (.iadd, 1) := dr9 dk9_dX12_candidatesOf_0_0.2.2.1 1 (120, .iadd, 1) rfl
theorem dX12_candidatesOf_121 : decode cX12_candidatesOf 121 = .ok (.iaload, 1) := dr9 dk9_dX12_candidatesOf_0_0.2.2.1 2 (121, .iaload, 1) rfl
theorem dX12_candidatesOf_122 : decode cX12_candidatesOf 122 = .ok (.iload_n 2, 1) := dr9 dk9_dX12_candidatesOf_0_0.2.2.1 3 (122, .iload_n 2, 1) rfl
theorem dX12_candidatesOf_123 : decode cX12_candidatesOf 123 = .ok (.if_icmp .ne 14, 3) := dr9 dk9_dX12_candidatesOf_0_0.2.2.1 4 (123, .if_icmp .ne 14, 3) rfl
theorem dX12_candidatesOf_17 : decode cX12_candidatesOf 17 = .ok (.aload_n 0, 1) := dr9 dk9_dX12_candidatesOf_0_0.2.2.1 5 (17, .aload_n 0, 1) rfl
theorem dX12_candidatesOf_18 : decode cX12_candidatesOf 18 = .ok (.iload_n 1, 1) := dr9 dk9_dX12_candidatesOf_0_0.2.2.1 6 (18, .iload_n 1, 1) rfl
theorem dX12_candidatesOf_19 : decode cX12_candidatesOf 19 = .ok (.iload_n 3, 1) := dr9 dk9_dX12_candidatesOf_0_0.2.2.1 7 (19, .iload_n 3, 1) rfl
theorem dX12_candidatesOf_20 : decode cX12_candidatesOf 20 = .ok (.invokevirtual 441, 3) := dr9 dk9_dX12_candidatesOf_0_0.2.2.1 8 (20, .invokevirtual 441, 3) rfl
theorem dX12_candidatesOf_23 : decode cX12_candidatesOf 23 = .ok (.ifCond .eq 38, 3) := dr9 dk9_dX12_candidatesOf_0_0.2.2.1 9 (23, .ifCond .eq 38, 3) rfl
theorem dX12_candidatesOf_61 : decode cX12_candidatesOf 61 = .ok (.iload_n 2, 1) := dr9 dk9_dX12_candidatesOf_0_0.2.2.1 10 (61, .iload_n 2, 1) rfl
theorem dX12_candidatesOf_62 : decode cX12_candidatesOf 62 = .ok (.istore_n 2, 1) := dr9 dk9_dX12_candidatesOf_0_0.2.2.1 11 (62, .istore_n 2, 1) rfl
theorem dX12_candidatesOf_63 : decode cX12_candidatesOf 63 = .ok (.iinc 3 1, 3) := dr9 dk9_dX12_candidatesOf_0_0.2.2.1 12 (63, .iinc 3 1, 3) rfl
theorem dX12_candidatesOf_66 : decode cX12_candidatesOf 66 = .ok (.goto (-62), 3) := dr9 dk9_dX12_candidatesOf_0_0.2.2.1 13 (66, .goto (-62), 3) rfl
theorem dX12_candidatesOf_26 : decode cX12_candidatesOf 26 = .ok (.aload_n 0, 1) := dr9 dk9_dX12_candidatesOf_0_0.2.2.1 14 (26, .aload_n 0, 1) rfl
theorem dX12_candidatesOf_27 : decode cX12_candidatesOf 27 = .ok (.getfield 77, 3) := dr9 dk9_dX12_candidatesOf_0_0.2.2.1 15 (27, .getfield 77, 3) rfl
theorem dX12_candidatesOf_30 : decode cX12_candidatesOf 30 = .ok (.bipush 24, 2) := dr9 dk9_dX12_candidatesOf_0_0.2.2.1 16 (30, .bipush 24, 2) rfl
theorem dX12_candidatesOf_32 : decode cX12_candidatesOf 32 = .ok (.aload_n 0, 1) := dr9 dk9_dX12_candidatesOf_0_0.2.2.1 17 (32, .aload_n 0, 1) rfl
theorem dX12_candidatesOf_33 : decode cX12_candidatesOf 33 = .ok (.getfield 286, 3) := dr9 dk9_dX12_candidatesOf_0_0.2.2.1 18 (33, .getfield 286, 3) rfl
theorem dX12_candidatesOf_36 : decode cX12_candidatesOf 36 = .ok (.imul, 1) := dr9 dk9_dX12_candidatesOf_0_0.2.2.1 19 (36, .imul, 1) rfl
theorem dX12_candidatesOf_37 : decode cX12_candidatesOf 37 = .ok (.iload_n 3, 1) := dr9 dk9_dX12_candidatesOf_0_0.2.2.1 20 (37, .iload_n 3, 1) rfl
theorem dX12_candidatesOf_38 : decode cX12_candidatesOf 38 = .ok (.iadd, 1) := dr9 dk9_dX12_candidatesOf_0_0.2.2.1 21 (38, .iadd, 1) rfl
theorem dX12_candidatesOf_39 : decode cX12_candidatesOf 39 = .ok (.iaload, 1) := dr9 dk9_dX12_candidatesOf_0_0.2.2.1 22 (39, .iaload, 1) rfl
theorem dX12_candidatesOf_40 : decode cX12_candidatesOf 40 = .ok (.iload_n 2, 1) := dr9 dk9_dX12_candidatesOf_0_0.2.2.1 23 (40, .iload_n 2, 1) rfl
theorem dX12_candidatesOf_41 : decode cX12_candidatesOf 41 = .ok (.if_icmp .le 20, 3) := dr9 dk9_dX12_candidatesOf_0_0.2.2.2 0 (41, .if_icmp .le 20, 3) rfl
theorem dX12_candidatesOf_44 : decode cX12_candidatesOf 44 = .ok (.aload_n 0, 1) := dr9 dk9_dX12_candidatesOf_0_0.2.2.2 1 (44, .aload_n 0, 1) rfl
theorem dX12_candidatesOf_45 : decode cX12_candidatesOf 45 = .ok (.getfield 77, 3) := dr9 dk9_dX12_candidatesOf_0_0.2.2.2 2 (45, .getfield 77, 3) rfl
theorem dX12_candidatesOf_48 : decode cX12_candidatesOf 48 = .ok (.bipush 24, 2) := dr9 dk9_dX12_candidatesOf_0_0.2.2.2 3 (48, .bipush 24, 2) rfl
theorem dX12_candidatesOf_50 : decode cX12_candidatesOf 50 = .ok (.aload_n 0, 1) := dr9 dk9_dX12_candidatesOf_0_0.2.2.2 4 (50, .aload_n 0, 1) rfl
theorem dX12_candidatesOf_51 : decode cX12_candidatesOf 51 = .ok (.getfield 286, 3) := dr9 dk9_dX12_candidatesOf_0_0.2.2.2 5 (51, .getfield 286, 3) rfl
theorem dX12_candidatesOf_54 : decode cX12_candidatesOf 54 = .ok (.imul, 1) := dr9 dk9_dX12_candidatesOf_0_0.2.2.2 6 (54, .imul, 1) rfl
theorem dX12_candidatesOf_55 : decode cX12_candidatesOf 55 = .ok (.iload_n 3, 1) := dr9 dk9_dX12_candidatesOf_0_0.2.2.2 7 (55, .iload_n 3, 1) rfl
theorem dX12_candidatesOf_56 : decode cX12_candidatesOf 56 = .ok (.iadd, 1) := dr9 dk9_dX12_candidatesOf_0_0.2.2.2 8 (56, .iadd, 1) rfl
theorem dX12_candidatesOf_57 : decode cX12_candidatesOf 57 = .ok (.iaload, 1) := dr9 dk9_dX12_candidatesOf_0_0.2.2.2 9 (57, .iaload, 1) rfl
theorem dX12_candidatesOf_58 : decode cX12_candidatesOf 58 = .ok (.goto 4, 3) := dr9 dk9_dX12_candidatesOf_0_0.2.2.2 10 (58, .goto 4, 3) rfl
theorem dk9_dX12_isCandidate_0_0 : dOk cX12_isCandidate [(0, .aload_n 0, 1), (1, .iload_n 1, 1), (2, .invokevirtual 455, 3), (5, .istore_n 3, 1), (6, .iconst 0, 1), (7, .istore 4, 2), (9, .iconst 0, 1), (10, .istore 5, 2), (12, .iload 5, 2), (14, .iload_n 3, 1), (15, .if_icmp .ge 32, 3), (47, .iload 4, 2), (49, .ireturn, 1), (18, .iload 4, 2), (20, .ifCond .ne 14, 3), (34, .iconst 1, 1), (35, .goto 4, 3), (39, .istore 4, 2), (41, .iinc 5 1, 3), (44, .goto (-32), 3), (23, .aload_n 0, 1), (24, .getfield 198, 3), (27, .iload 5, 2), (29, .iaload, 1)] = true ∧ dOk cX12_isCandidate [(30, .iload_n 2, 1), (31, .if_icmp .ne 7, 3), (38, .iconst 0, 1)] = true := by decide +kernel
theorem dX12_isCandidate_0 : decode cX12_isCandidate 0 = .ok (.aload_n 0, 1) := dr9 dk9_dX12_isCandidate_0_0.1 0 (0, .aload_n 0, 1) rfl
theorem dX12_isCandidate_1 : decode cX12_isCandidate 1 = .ok (.iload_n 1, 1) := dr9 dk9_dX12_isCandidate_0_0.1 1 (1, .iload_n 1, 1) rfl
theorem dX12_isCandidate_2 : decode cX12_isCandidate 2 = .ok (.invokevirtual 455, 3) := dr9 dk9_dX12_isCandidate_0_0.1 2 (2, .invokevirtual 455, 3) rfl
theorem dX12_isCandidate_5 : decode cX12_isCandidate 5 = .ok (.istore_n 3, 1) := dr9 dk9_dX12_isCandidate_0_0.1 3 (5, .istore_n 3, 1) rfl
theorem dX12_isCandidate_6 : decode cX12_isCandidate 6 = .ok (.iconst 0, 1) := dr9 dk9_dX12_isCandidate_0_0.1 4 (6, .iconst 0, 1) rfl
theorem dX12_isCandidate_7 : decode cX12_isCandidate 7 = .ok (.istore 4, 2) := dr9 dk9_dX12_isCandidate_0_0.1 5 (7, .istore 4, 2) rfl
theorem dX12_isCandidate_9 : decode cX12_isCandidate 9 = .ok (.iconst 0, 1) := dr9 dk9_dX12_isCandidate_0_0.1 6 (9, .iconst 0, 1) rfl
theorem dX12_isCandidate_10 : decode cX12_isCandidate 10 = .ok (.istore 5, 2) := dr9 dk9_dX12_isCandidate_0_0.1 7 (10, .istore 5, 2) rfl
theorem dX12_isCandidate_12 : decode cX12_isCandidate 12 = .ok (.iload 5, 2) := dr9 dk9_dX12_isCandidate_0_0.1 8 (12, .iload 5, 2) rfl
theorem dX12_isCandidate_14 : decode cX12_isCandidate 14 = .ok (.iload_n 3, 1) := dr9 dk9_dX12_isCandidate_0_0.1 9 (14, .iload_n 3, 1) rfl
theorem dX12_isCandidate_15 : decode cX12_isCandidate 15 = .ok (.if_icmp .ge 32, 3) := dr9 dk9_dX12_isCandidate_0_0.1 10 (15, .if_icmp .ge 32, 3) rfl
theorem dX12_isCandidate_47 : decode cX12_isCandidate 47 = .ok (.iload 4, 2) := dr9 dk9_dX12_isCandidate_0_0.1 11 (47, .iload 4, 2) rfl
theorem dX12_isCandidate_49 : decode cX12_isCandidate 49 = .ok (.ireturn, 1) := dr9 dk9_dX12_isCandidate_0_0.1 12 (49, .ireturn, 1) rfl
theorem dX12_isCandidate_18 : decode cX12_isCandidate 18 = .ok (.iload 4, 2) := dr9 dk9_dX12_isCandidate_0_0.1 13 (18, .iload 4, 2) rfl
theorem dX12_isCandidate_20 : decode cX12_isCandidate 20 = .ok (.ifCond .ne 14, 3) := dr9 dk9_dX12_isCandidate_0_0.1 14 (20, .ifCond .ne 14, 3) rfl
theorem dX12_isCandidate_34 : decode cX12_isCandidate 34 = .ok (.iconst 1, 1) := dr9 dk9_dX12_isCandidate_0_0.1 15 (34, .iconst 1, 1) rfl
theorem dX12_isCandidate_35 : decode cX12_isCandidate 35 = .ok (.goto 4, 3) := dr9 dk9_dX12_isCandidate_0_0.1 16 (35, .goto 4, 3) rfl
theorem dX12_isCandidate_39 : decode cX12_isCandidate 39 = .ok (.istore 4, 2) := dr9 dk9_dX12_isCandidate_0_0.1 17 (39, .istore 4, 2) rfl
theorem dX12_isCandidate_41 : decode cX12_isCandidate 41 = .ok (.iinc 5 1, 3) := dr9 dk9_dX12_isCandidate_0_0.1 18 (41, .iinc 5 1, 3) rfl
theorem dX12_isCandidate_44 : decode cX12_isCandidate 44 = .ok (.goto (-32), 3) := dr9 dk9_dX12_isCandidate_0_0.1 19 (44, .goto (-32), 3) rfl
theorem dX12_isCandidate_23 : decode cX12_isCandidate 23 = .ok (.aload_n 0, 1) := dr9 dk9_dX12_isCandidate_0_0.1 20 (23, .aload_n 0, 1) rfl
theorem dX12_isCandidate_24 : decode cX12_isCandidate 24 = .ok (.getfield 198, 3) := dr9 dk9_dX12_isCandidate_0_0.1 21 (24, .getfield 198, 3) rfl
theorem dX12_isCandidate_27 : decode cX12_isCandidate 27 = .ok (.iload 5, 2) := dr9 dk9_dX12_isCandidate_0_0.1 22 (27, .iload 5, 2) rfl
theorem dX12_isCandidate_29 : decode cX12_isCandidate 29 = .ok (.iaload, 1) := dr9 dk9_dX12_isCandidate_0_0.1 23 (29, .iaload, 1) rfl
theorem dX12_isCandidate_30 : decode cX12_isCandidate 30 = .ok (.iload_n 2, 1) := dr9 dk9_dX12_isCandidate_0_0.2 0 (30, .iload_n 2, 1) rfl
theorem dX12_isCandidate_31 : decode cX12_isCandidate 31 = .ok (.if_icmp .ne 7, 3) := dr9 dk9_dX12_isCandidate_0_0.2 1 (31, .if_icmp .ne 7, 3) rfl
theorem dX12_isCandidate_38 : decode cX12_isCandidate 38 = .ok (.iconst 0, 1) := dr9 dk9_dX12_isCandidate_0_0.2 2 (38, .iconst 0, 1) rfl
theorem dk9_dX12_joined_0_0 : dOk cX12_joined [(0, .aload_n 0, 1), (1, .iconst 0, 1), (2, .putfield 1, 3), (5, .iload_n 1, 1), (6, .ifCond .lt 57, 3), (63, .iconst (-1), 1), (64, .ireturn, 1), (9, .iload_n 1, 1), (10, .aload_n 0, 1), (11, .getfield 411, 3), (14, .if_icmp .ge 49, 3), (17, .iload_n 2, 1), (18, .ifCond .lt 45, 3), (21, .iload_n 2, 1), (22, .aload_n 0, 1), (23, .getfield 86, 3), (26, .bipush 24, 2), (28, .aload_n 0, 1), (29, .getfield 286, 3), (32, .imul, 1), (33, .aload_n 0, 1), (34, .getfield 164, 3), (37, .iload_n 1, 1), (38, .iaload, 1)] = true ∧ dOk cX12_joined [(39, .iadd, 1), (40, .iaload, 1), (41, .if_icmp .ge 22, 3), (44, .iload_n 3, 1), (45, .ifCond .lt 18, 3), (48, .iload_n 3, 1), (49, .aload_n 0, 1), (50, .getfield 176, 3), (53, .bipush 8, 2), (55, .iload_n 1, 1), (56, .imul, 1), (57, .iload_n 2, 1), (58, .iadd, 1), (59, .iaload, 1), (60, .if_icmp .lt 5, 3), (65, .aload_n 0, 1), (66, .getfield 180, 3), (69, .bipush 24, 2), (71, .bipush 8, 2), (73, .iload_n 1, 1), (74, .imul, 1), (75, .iload_n 2, 1), (76, .iadd, 1), (77, .imul, 1)] = true ∧ dOk cX12_joined [(78, .iload_n 3, 1), (79, .iadd, 1), (80, .iaload, 1), (81, .ireturn, 1)] = true := by decide +kernel
theorem dX12_joined_0 : decode cX12_joined 0 = .ok (.aload_n 0, 1) := dr9 dk9_dX12_joined_0_0.1 0 (0, .aload_n 0, 1) rfl
theorem dX12_joined_1 : decode cX12_joined 1 = .ok (.iconst 0, 1) := dr9 dk9_dX12_joined_0_0.1 1 (1, .iconst 0, 1) rfl
theorem dX12_joined_2 : decode cX12_joined 2 = .ok (.putfield 1, 3) := dr9 dk9_dX12_joined_0_0.1 2 (2, .putfield 1, 3) rfl
theorem dX12_joined_5 : decode cX12_joined 5 = .ok (.iload_n 1, 1) := dr9 dk9_dX12_joined_0_0.1 3 (5, .iload_n 1, 1) rfl
theorem dX12_joined_6 : decode cX12_joined 6 = .ok (.ifCond .lt 57, 3) := dr9 dk9_dX12_joined_0_0.1 4 (6, .ifCond .lt 57, 3) rfl
theorem dX12_joined_63 : decode cX12_joined 63 = .ok (.iconst (-1), 1) := dr9 dk9_dX12_joined_0_0.1 5 (63, .iconst (-1), 1) rfl
theorem dX12_joined_64 : decode cX12_joined 64 = .ok (.ireturn, 1) := dr9 dk9_dX12_joined_0_0.1 6 (64, .ireturn, 1) rfl
theorem dX12_joined_9 : decode cX12_joined 9 = .ok (.iload_n 1, 1) := dr9 dk9_dX12_joined_0_0.1 7 (9, .iload_n 1, 1) rfl
theorem dX12_joined_10 : decode cX12_joined 10 = .ok (.aload_n 0, 1) := dr9 dk9_dX12_joined_0_0.1 8 (10, .aload_n 0, 1) rfl
theorem dX12_joined_11 : decode cX12_joined 11 = .ok (.getfield 411, 3) := dr9 dk9_dX12_joined_0_0.1 9 (11, .getfield 411, 3) rfl
theorem dX12_joined_14 : decode cX12_joined 14 = .ok (.if_icmp .ge 49, 3) := dr9 dk9_dX12_joined_0_0.1 10 (14, .if_icmp .ge 49, 3) rfl
theorem dX12_joined_17 : decode cX12_joined 17 = .ok (.iload_n 2, 1) := dr9 dk9_dX12_joined_0_0.1 11 (17, .iload_n 2, 1) rfl
theorem dX12_joined_18 : decode cX12_joined 18 = .ok (.ifCond .lt 45, 3) := dr9 dk9_dX12_joined_0_0.1 12 (18, .ifCond .lt 45, 3) rfl
theorem dX12_joined_21 : decode cX12_joined 21 = .ok (.iload_n 2, 1) := dr9 dk9_dX12_joined_0_0.1 13 (21, .iload_n 2, 1) rfl
theorem dX12_joined_22 : decode cX12_joined 22 = .ok (.aload_n 0, 1) := dr9 dk9_dX12_joined_0_0.1 14 (22, .aload_n 0, 1) rfl
theorem dX12_joined_23 : decode cX12_joined 23 = .ok (.getfield 86, 3) := dr9 dk9_dX12_joined_0_0.1 15 (23, .getfield 86, 3) rfl
theorem dX12_joined_26 : decode cX12_joined 26 = .ok (.bipush 24, 2) := dr9 dk9_dX12_joined_0_0.1 16 (26, .bipush 24, 2) rfl
theorem dX12_joined_28 : decode cX12_joined 28 = .ok (.aload_n 0, 1) := dr9 dk9_dX12_joined_0_0.1 17 (28, .aload_n 0, 1) rfl
theorem dX12_joined_29 : decode cX12_joined 29 = .ok (.getfield 286, 3) := dr9 dk9_dX12_joined_0_0.1 18 (29, .getfield 286, 3) rfl
theorem dX12_joined_32 : decode cX12_joined 32 = .ok (.imul, 1) := dr9 dk9_dX12_joined_0_0.1 19 (32, .imul, 1) rfl
theorem dX12_joined_33 : decode cX12_joined 33 = .ok (.aload_n 0, 1) := dr9 dk9_dX12_joined_0_0.1 20 (33, .aload_n 0, 1) rfl
theorem dX12_joined_34 : decode cX12_joined 34 = .ok (.getfield 164, 3) := dr9 dk9_dX12_joined_0_0.1 21 (34, .getfield 164, 3) rfl
theorem dX12_joined_37 : decode cX12_joined 37 = .ok (.iload_n 1, 1) := dr9 dk9_dX12_joined_0_0.1 22 (37, .iload_n 1, 1) rfl
theorem dX12_joined_38 : decode cX12_joined 38 = .ok (.iaload, 1) := dr9 dk9_dX12_joined_0_0.1 23 (38, .iaload, 1) rfl
theorem dX12_joined_39 : decode cX12_joined 39 = .ok (.iadd, 1) := dr9 dk9_dX12_joined_0_0.2.1 0 (39, .iadd, 1) rfl
theorem dX12_joined_40 : decode cX12_joined 40 = .ok (.iaload, 1) := dr9 dk9_dX12_joined_0_0.2.1 1 (40, .iaload, 1) rfl
theorem dX12_joined_41 : decode cX12_joined 41 = .ok (.if_icmp .ge 22, 3) := dr9 dk9_dX12_joined_0_0.2.1 2 (41, .if_icmp .ge 22, 3) rfl
theorem dX12_joined_44 : decode cX12_joined 44 = .ok (.iload_n 3, 1) := dr9 dk9_dX12_joined_0_0.2.1 3 (44, .iload_n 3, 1) rfl
theorem dX12_joined_45 : decode cX12_joined 45 = .ok (.ifCond .lt 18, 3) := dr9 dk9_dX12_joined_0_0.2.1 4 (45, .ifCond .lt 18, 3) rfl
theorem dX12_joined_48 : decode cX12_joined 48 = .ok (.iload_n 3, 1) := dr9 dk9_dX12_joined_0_0.2.1 5 (48, .iload_n 3, 1) rfl
theorem dX12_joined_49 : decode cX12_joined 49 = .ok (.aload_n 0, 1) := dr9 dk9_dX12_joined_0_0.2.1 6 (49, .aload_n 0, 1) rfl
theorem dX12_joined_50 : decode cX12_joined 50 = .ok (.getfield 176, 3) := dr9 dk9_dX12_joined_0_0.2.1 7 (50, .getfield 176, 3) rfl
theorem dX12_joined_53 : decode cX12_joined 53 = .ok (.bipush 8, 2) := dr9 dk9_dX12_joined_0_0.2.1 8 (53, .bipush 8, 2) rfl
theorem dX12_joined_55 : decode cX12_joined 55 = .ok (.iload_n 1, 1) := dr9 dk9_dX12_joined_0_0.2.1 9 (55, .iload_n 1, 1) rfl
theorem dX12_joined_56 : decode cX12_joined 56 = .ok (.imul, 1) := dr9 dk9_dX12_joined_0_0.2.1 10 (56, .imul, 1) rfl
theorem dX12_joined_57 : decode cX12_joined 57 = .ok (.iload_n 2, 1) := dr9 dk9_dX12_joined_0_0.2.1 11 (57, .iload_n 2, 1) rfl
theorem dX12_joined_58 : decode cX12_joined 58 = .ok (.iadd, 1) := dr9 dk9_dX12_joined_0_0.2.1 12 (58, .iadd, 1) rfl
theorem dX12_joined_59 : decode cX12_joined 59 = .ok (.iaload, 1) := dr9 dk9_dX12_joined_0_0.2.1 13 (59, .iaload, 1) rfl
theorem dX12_joined_60 : decode cX12_joined 60 = .ok (.if_icmp .lt 5, 3) := dr9 dk9_dX12_joined_0_0.2.1 14 (60, .if_icmp .lt 5, 3) rfl
theorem dX12_joined_65 : decode cX12_joined 65 = .ok (.aload_n 0, 1) := dr9 dk9_dX12_joined_0_0.2.1 15 (65, .aload_n 0, 1) rfl
theorem dX12_joined_66 : decode cX12_joined 66 = .ok (.getfield 180, 3) := dr9 dk9_dX12_joined_0_0.2.1 16 (66, .getfield 180, 3) rfl
theorem dX12_joined_69 : decode cX12_joined 69 = .ok (.bipush 24, 2) := dr9 dk9_dX12_joined_0_0.2.1 17 (69, .bipush 24, 2) rfl
theorem dX12_joined_71 : decode cX12_joined 71 = .ok (.bipush 8, 2) := dr9 dk9_dX12_joined_0_0.2.1 18 (71, .bipush 8, 2) rfl
theorem dX12_joined_73 : decode cX12_joined 73 = .ok (.iload_n 1, 1) := dr9 dk9_dX12_joined_0_0.2.1 19 (73, .iload_n 1, 1) rfl
theorem dX12_joined_74 : decode cX12_joined 74 = .ok (.imul, 1) := dr9 dk9_dX12_joined_0_0.2.1 20 (74, .imul, 1) rfl
theorem dX12_joined_75 : decode cX12_joined 75 = .ok (.iload_n 2, 1) := dr9 dk9_dX12_joined_0_0.2.1 21 (75, .iload_n 2, 1) rfl
theorem dX12_joined_76 : decode cX12_joined 76 = .ok (.iadd, 1) := dr9 dk9_dX12_joined_0_0.2.1 22 (76, .iadd, 1) rfl
theorem dX12_joined_77 : decode cX12_joined 77 = .ok (.imul, 1) := dr9 dk9_dX12_joined_0_0.2.1 23 (77, .imul, 1) rfl
theorem dX12_joined_78 : decode cX12_joined 78 = .ok (.iload_n 3, 1) := dr9 dk9_dX12_joined_0_0.2.2 0 (78, .iload_n 3, 1) rfl
theorem dX12_joined_79 : decode cX12_joined 79 = .ok (.iadd, 1) := dr9 dk9_dX12_joined_0_0.2.2 1 (79, .iadd, 1) rfl
theorem dX12_joined_80 : decode cX12_joined 80 = .ok (.iaload, 1) := dr9 dk9_dX12_joined_0_0.2.2 2 (80, .iaload, 1) rfl
theorem dX12_joined_81 : decode cX12_joined 81 = .ok (.ireturn, 1) := dr9 dk9_dX12_joined_0_0.2.2 3 (81, .ireturn, 1) rfl
theorem dk9_dX12_candidate_0_0 : dOk cX12_candidate [(0, .aload_n 0, 1), (1, .iconst 0, 1), (2, .putfield 1, 3), (5, .iload_n 1, 1), (6, .ifCond .lt 42, 3), (48, .iconst (-1), 1), (49, .ireturn, 1), (9, .iload_n 1, 1), (10, .aload_n 0, 1), (11, .getfield 62, 3), (14, .aload_n 0, 1), (15, .getfield 286, 3), (18, .iaload, 1), (19, .if_icmp .ge 29, 3), (22, .iload_n 2, 1), (23, .ifCond .lt 25, 3), (26, .iload_n 2, 1), (27, .aload_n 0, 1), (28, .getfield 86, 3), (31, .bipush 24, 2), (33, .aload_n 0, 1), (34, .getfield 286, 3), (37, .imul, 1), (38, .iload_n 1, 1)] = true ∧ dOk cX12_candidate [(39, .iadd, 1), (40, .iaload, 1), (41, .if_icmp .ge 7, 3), (44, .iload_n 3, 1), (45, .ifCond .ge 5, 3), (50, .iload_n 3, 1), (51, .aload_n 0, 1), (52, .bipush 8, 2), (54, .bipush 24, 2), (56, .aload_n 0, 1), (57, .getfield 286, 3), (60, .imul, 1), (61, .iload_n 1, 1), (62, .iadd, 1), (63, .imul, 1), (64, .iload_n 2, 1), (65, .iadd, 1), (66, .invokevirtual 455, 3), (69, .if_icmp .ge 12, 3), (81, .iconst (-1), 1), (82, .ireturn, 1), (72, .aload_n 0, 1), (73, .getfield 198, 3), (76, .iload_n 3, 1)] = true ∧ dOk cX12_candidate [(77, .iaload, 1), (78, .goto 4, 3)] = true := by decide +kernel
theorem dX12_candidate_0 : decode cX12_candidate 0 = .ok (.aload_n 0, 1) := dr9 dk9_dX12_candidate_0_0.1 0 (0, .aload_n 0, 1) rfl
theorem dX12_candidate_1 : decode cX12_candidate 1 = .ok (.iconst 0, 1) := dr9 dk9_dX12_candidate_0_0.1 1 (1, .iconst 0, 1) rfl
theorem dX12_candidate_2 : decode cX12_candidate 2 = .ok (.putfield 1, 3) := dr9 dk9_dX12_candidate_0_0.1 2 (2, .putfield 1, 3) rfl
theorem dX12_candidate_5 : decode cX12_candidate 5 = .ok (.iload_n 1, 1) := dr9 dk9_dX12_candidate_0_0.1 3 (5, .iload_n 1, 1) rfl
theorem dX12_candidate_6 : decode cX12_candidate 6 = .ok (.ifCond .lt 42, 3) := dr9 dk9_dX12_candidate_0_0.1 4 (6, .ifCond .lt 42, 3) rfl
theorem dX12_candidate_48 : decode cX12_candidate 48 = .ok (.iconst (-1), 1) := dr9 dk9_dX12_candidate_0_0.1 5 (48, .iconst (-1), 1) rfl
theorem dX12_candidate_49 : decode cX12_candidate 49 = .ok (.ireturn, 1) := dr9 dk9_dX12_candidate_0_0.1 6 (49, .ireturn, 1) rfl
theorem dX12_candidate_9 : decode cX12_candidate 9 = .ok (.iload_n 1, 1) := dr9 dk9_dX12_candidate_0_0.1 7 (9, .iload_n 1, 1) rfl
theorem dX12_candidate_10 : decode cX12_candidate 10 = .ok (.aload_n 0, 1) := dr9 dk9_dX12_candidate_0_0.1 8 (10, .aload_n 0, 1) rfl
theorem dX12_candidate_11 : decode cX12_candidate 11 = .ok (.getfield 62, 3) := dr9 dk9_dX12_candidate_0_0.1 9 (11, .getfield 62, 3) rfl
theorem dX12_candidate_14 : decode cX12_candidate 14 = .ok (.aload_n 0, 1) := dr9 dk9_dX12_candidate_0_0.1 10 (14, .aload_n 0, 1) rfl
theorem dX12_candidate_15 : decode cX12_candidate 15 = .ok (.getfield 286, 3) := dr9 dk9_dX12_candidate_0_0.1 11 (15, .getfield 286, 3) rfl
theorem dX12_candidate_18 : decode cX12_candidate 18 = .ok (.iaload, 1) := dr9 dk9_dX12_candidate_0_0.1 12 (18, .iaload, 1) rfl
theorem dX12_candidate_19 : decode cX12_candidate 19 = .ok (.if_icmp .ge 29, 3) := dr9 dk9_dX12_candidate_0_0.1 13 (19, .if_icmp .ge 29, 3) rfl
theorem dX12_candidate_22 : decode cX12_candidate 22 = .ok (.iload_n 2, 1) := dr9 dk9_dX12_candidate_0_0.1 14 (22, .iload_n 2, 1) rfl
theorem dX12_candidate_23 : decode cX12_candidate 23 = .ok (.ifCond .lt 25, 3) := dr9 dk9_dX12_candidate_0_0.1 15 (23, .ifCond .lt 25, 3) rfl
theorem dX12_candidate_26 : decode cX12_candidate 26 = .ok (.iload_n 2, 1) := dr9 dk9_dX12_candidate_0_0.1 16 (26, .iload_n 2, 1) rfl
theorem dX12_candidate_27 : decode cX12_candidate 27 = .ok (.aload_n 0, 1) := dr9 dk9_dX12_candidate_0_0.1 17 (27, .aload_n 0, 1) rfl
theorem dX12_candidate_28 : decode cX12_candidate 28 = .ok (.getfield 86, 3) := dr9 dk9_dX12_candidate_0_0.1 18 (28, .getfield 86, 3) rfl
theorem dX12_candidate_31 : decode cX12_candidate 31 = .ok (.bipush 24, 2) := dr9 dk9_dX12_candidate_0_0.1 19 (31, .bipush 24, 2) rfl
theorem dX12_candidate_33 : decode cX12_candidate 33 = .ok (.aload_n 0, 1) := dr9 dk9_dX12_candidate_0_0.1 20 (33, .aload_n 0, 1) rfl
theorem dX12_candidate_34 : decode cX12_candidate 34 = .ok (.getfield 286, 3) := dr9 dk9_dX12_candidate_0_0.1 21 (34, .getfield 286, 3) rfl
theorem dX12_candidate_37 : decode cX12_candidate 37 = .ok (.imul, 1) := dr9 dk9_dX12_candidate_0_0.1 22 (37, .imul, 1) rfl
theorem dX12_candidate_38 : decode cX12_candidate 38 = .ok (.iload_n 1, 1) := dr9 dk9_dX12_candidate_0_0.1 23 (38, .iload_n 1, 1) rfl
theorem dX12_candidate_39 : decode cX12_candidate 39 = .ok (.iadd, 1) := dr9 dk9_dX12_candidate_0_0.2.1 0 (39, .iadd, 1) rfl
theorem dX12_candidate_40 : decode cX12_candidate 40 = .ok (.iaload, 1) := dr9 dk9_dX12_candidate_0_0.2.1 1 (40, .iaload, 1) rfl
theorem dX12_candidate_41 : decode cX12_candidate 41 = .ok (.if_icmp .ge 7, 3) := dr9 dk9_dX12_candidate_0_0.2.1 2 (41, .if_icmp .ge 7, 3) rfl
theorem dX12_candidate_44 : decode cX12_candidate 44 = .ok (.iload_n 3, 1) := dr9 dk9_dX12_candidate_0_0.2.1 3 (44, .iload_n 3, 1) rfl
theorem dX12_candidate_45 : decode cX12_candidate 45 = .ok (.ifCond .ge 5, 3) := dr9 dk9_dX12_candidate_0_0.2.1 4 (45, .ifCond .ge 5, 3) rfl
theorem dX12_candidate_50 : decode cX12_candidate 50 = .ok (.iload_n 3, 1) := dr9 dk9_dX12_candidate_0_0.2.1 5 (50, .iload_n 3, 1) rfl
theorem dX12_candidate_51 : decode cX12_candidate 51 = .ok (.aload_n 0, 1) := dr9 dk9_dX12_candidate_0_0.2.1 6 (51, .aload_n 0, 1) rfl
theorem dX12_candidate_52 : decode cX12_candidate 52 = .ok (.bipush 8, 2) := dr9 dk9_dX12_candidate_0_0.2.1 7 (52, .bipush 8, 2) rfl
theorem dX12_candidate_54 : decode cX12_candidate 54 = .ok (.bipush 24, 2) := dr9 dk9_dX12_candidate_0_0.2.1 8 (54, .bipush 24, 2) rfl
theorem dX12_candidate_56 : decode cX12_candidate 56 = .ok (.aload_n 0, 1) := dr9 dk9_dX12_candidate_0_0.2.1 9 (56, .aload_n 0, 1) rfl
theorem dX12_candidate_57 : decode cX12_candidate 57 = .ok (.getfield 286, 3) := dr9 dk9_dX12_candidate_0_0.2.1 10 (57, .getfield 286, 3) rfl
theorem dX12_candidate_60 : decode cX12_candidate 60 = .ok (.imul, 1) := dr9 dk9_dX12_candidate_0_0.2.1 11 (60, .imul, 1) rfl
theorem dX12_candidate_61 : decode cX12_candidate 61 = .ok (.iload_n 1, 1) := dr9 dk9_dX12_candidate_0_0.2.1 12 (61, .iload_n 1, 1) rfl
theorem dX12_candidate_62 : decode cX12_candidate 62 = .ok (.iadd, 1) := dr9 dk9_dX12_candidate_0_0.2.1 13 (62, .iadd, 1) rfl
theorem dX12_candidate_63 : decode cX12_candidate 63 = .ok (.imul, 1) := dr9 dk9_dX12_candidate_0_0.2.1 14 (63, .imul, 1) rfl
theorem dX12_candidate_64 : decode cX12_candidate 64 = .ok (.iload_n 2, 1) := dr9 dk9_dX12_candidate_0_0.2.1 15 (64, .iload_n 2, 1) rfl
theorem dX12_candidate_65 : decode cX12_candidate 65 = .ok (.iadd, 1) := dr9 dk9_dX12_candidate_0_0.2.1 16 (65, .iadd, 1) rfl
theorem dX12_candidate_66 : decode cX12_candidate 66 = .ok (.invokevirtual 455, 3) := dr9 dk9_dX12_candidate_0_0.2.1 17 (66, .invokevirtual 455, 3) rfl
theorem dX12_candidate_69 : decode cX12_candidate 69 = .ok (.if_icmp .ge 12, 3) := dr9 dk9_dX12_candidate_0_0.2.1 18 (69, .if_icmp .ge 12, 3) rfl
theorem dX12_candidate_81 : decode cX12_candidate 81 = .ok (.iconst (-1), 1) := dr9 dk9_dX12_candidate_0_0.2.1 19 (81, .iconst (-1), 1) rfl
theorem dX12_candidate_82 : decode cX12_candidate 82 = .ok (.ireturn, 1) := dr9 dk9_dX12_candidate_0_0.2.1 20 (82, .ireturn, 1) rfl
theorem dX12_candidate_72 : decode cX12_candidate 72 = .ok (.aload_n 0, 1) := dr9 dk9_dX12_candidate_0_0.2.1 21 (72, .aload_n 0, 1) rfl
theorem dX12_candidate_73 : decode cX12_candidate 73 = .ok (.getfield 198, 3) := dr9 dk9_dX12_candidate_0_0.2.1 22 (73, .getfield 198, 3) rfl
theorem dX12_candidate_76 : decode cX12_candidate 76 = .ok (.iload_n 3, 1) := dr9 dk9_dX12_candidate_0_0.2.1 23 (76, .iload_n 3, 1) rfl
theorem dX12_candidate_77 : decode cX12_candidate 77 = .ok (.iaload, 1) := dr9 dk9_dX12_candidate_0_0.2.2 0 (77, .iaload, 1) rfl
theorem dX12_candidate_78 : decode cX12_candidate 78 = .ok (.goto 4, 3) := dr9 dk9_dX12_candidate_0_0.2.2 1 (78, .goto 4, 3) rfl
theorem dk9_dX12_checkNeed_0_0 : dOk cX12_checkNeed [(0, .bipush 8, 2), (2, .bipush 24, 2), (4, .aload_n 0, 1), (5, .getfield 286, 3), (8, .imul, 1), (9, .iload_n 1, 1), (10, .iadd, 1), (11, .imul, 1), (12, .iload_n 2, 1), (13, .iadd, 1), (14, .istore_n 3, 1), (15, .aload_n 0, 1), (16, .iload_n 3, 1), (17, .invokevirtual 455, 3), (20, .istore 4, 2), (22, .iload 4, 2), (24, .ifCond .ne 16, 3), (27, .aload_n 0, 1), (28, .getfield 95, 3), (31, .iload_n 3, 1), (32, .baload, 1), (33, .ifCond .ne 7, 3), (40, .iconst 0, 1), (36, .iconst 1, 1)] = true ∧ dOk cX12_checkNeed [(37, .goto 4, 3), (41, .istore 5, 2), (43, .iload 4, 2), (45, .iconst 1, 1), (46, .if_icmp .le 16, 3), (49, .aload_n 0, 1), (50, .getfield 95, 3), (53, .iload_n 3, 1), (54, .baload, 1), (55, .ifCond .ne 7, 3), (62, .iconst 0, 1), (58, .iconst 1, 1), (59, .goto 4, 3), (63, .istore 6, 2), (65, .aload_n 0, 1), (66, .getfield 213, 3), (69, .bipush 8, 2), (71, .iload_n 1, 1), (72, .imul, 1), (73, .iload_n 2, 1), (74, .iadd, 1), (75, .iload 5, 2), (77, .ifCond .ne 8, 3), (80, .iload 6, 2)] = true ∧ dOk cX12_checkNeed [(82, .ifCond .eq 7, 3), (89, .iconst 0, 1), (85, .iconst 1, 1), (86, .goto 4, 3), (90, .bastore, 1), (91, .iconst 0, 1), (92, .istore 7, 2), (94, .iconst 0, 1), (95, .istore 8, 2), (97, .iload 8, 2), (99, .iload 4, 2), (101, .if_icmp .ge 83, 3), (104, .aload_n 0, 1), (105, .getfield 92, 3), (108, .iload_n 3, 1), (109, .baload, 1), (110, .ifCond .ne 74, 3), (113, .aload_n 0, 1), (114, .getfield 71, 3), (117, .bipush 24, 2), (119, .aload_n 0, 1), (120, .getfield 286, 3), (123, .imul, 1), (124, .aload_n 0, 1)] = true ∧ dOk cX12_checkNeed [(125, .getfield 198, 3), (128, .iload 8, 2), (130, .iaload, 1), (131, .iadd, 1), (132, .iaload, 1), (133, .istore 9, 2), (135, .iload 7, 2), (137, .ifCond .ne 34, 3), (171, .iconst 1, 1), (172, .goto 4, 3), (176, .istore 7, 2), (178, .iinc 8 1, 3), (181, .goto (-84), 3), (140, .iload 9, 2), (142, .iconst 3, 1), (143, .if_icmp .eq 32, 3), (175, .iconst 0, 1), (146, .iload 9, 2), (148, .invokestatic 458, 3), (151, .aload_n 0, 1), (152, .getfield 71, 3), (155, .bipush 24, 2), (157, .aload_n 0, 1), (158, .getfield 286, 3)] = true ∧ dOk cX12_checkNeed [(161, .imul, 1), (162, .iload_n 1, 1), (163, .iadd, 1), (164, .iaload, 1), (165, .invokestatic 458, 3), (168, .if_icmp .ge 7, 3), (184, .iload 5, 2), (186, .ifCond .ne 13, 3), (199, .aload_n 0, 1), (200, .iload 5, 2), (202, .ifCond .eq 7, 3), (205, .iconst 1, 1), (206, .goto 13, 3), (219, .iload_n 1, 1), (220, .iload_n 2, 1), (221, .invokevirtual 461, 3), (224, .return_, 1), (189, .iload 6, 2), (191, .ifCond .ne 8, 3), (209, .iload 6, 2), (211, .ifCond .eq 7, 3), (214, .iconst 2, 1), (215, .goto 4, 3), (194, .iload 7, 2)] = true ∧ dOk cX12_checkNeed [(196, .ifCond .eq 28, 3), (218, .iconst 4, 1)] = true := by decide +kernel
theorem dX12_checkNeed_0 : decode cX12_checkNeed 0 = .ok (.bipush 8, 2) := dr9 dk9_dX12_checkNeed_0_0.1 0 (0, .bipush 8, 2) rfl
theorem dX12_checkNeed_2 : decode cX12_checkNeed 2 = .ok (.bipush 24, 2) := dr9 dk9_dX12_checkNeed_0_0.1 1 (2, .bipush 24, 2) rfl
theorem dX12_checkNeed_4 : decode cX12_checkNeed 4 = .ok (.aload_n 0, 1) := dr9 dk9_dX12_checkNeed_0_0.1 2 (4, .aload_n 0, 1) rfl
theorem dX12_checkNeed_5 : decode cX12_checkNeed 5 = .ok (.getfield 286, 3) := dr9 dk9_dX12_checkNeed_0_0.1 3 (5, .getfield 286, 3) rfl
theorem dX12_checkNeed_8 : decode cX12_checkNeed 8 = .ok (.imul, 1) := dr9 dk9_dX12_checkNeed_0_0.1 4 (8, .imul, 1) rfl
theorem dX12_checkNeed_9 : decode cX12_checkNeed 9 = .ok (.iload_n 1, 1) := dr9 dk9_dX12_checkNeed_0_0.1 5 (9, .iload_n 1, 1) rfl
theorem dX12_checkNeed_10 : decode cX12_checkNeed 10 = .ok (.iadd, 1) := dr9 dk9_dX12_checkNeed_0_0.1 6 (10, .iadd, 1) rfl
theorem dX12_checkNeed_11 : decode cX12_checkNeed 11 = .ok (.imul, 1) := dr9 dk9_dX12_checkNeed_0_0.1 7 (11, .imul, 1) rfl
theorem dX12_checkNeed_12 : decode cX12_checkNeed 12 = .ok (.iload_n 2, 1) := dr9 dk9_dX12_checkNeed_0_0.1 8 (12, .iload_n 2, 1) rfl
theorem dX12_checkNeed_13 : decode cX12_checkNeed 13 = .ok (.iadd, 1) := dr9 dk9_dX12_checkNeed_0_0.1 9 (13, .iadd, 1) rfl
theorem dX12_checkNeed_14 : decode cX12_checkNeed 14 = .ok (.istore_n 3, 1) := dr9 dk9_dX12_checkNeed_0_0.1 10 (14, .istore_n 3, 1) rfl
theorem dX12_checkNeed_15 : decode cX12_checkNeed 15 = .ok (.aload_n 0, 1) := dr9 dk9_dX12_checkNeed_0_0.1 11 (15, .aload_n 0, 1) rfl
theorem dX12_checkNeed_16 : decode cX12_checkNeed 16 = .ok (.iload_n 3, 1) := dr9 dk9_dX12_checkNeed_0_0.1 12 (16, .iload_n 3, 1) rfl
theorem dX12_checkNeed_17 : decode cX12_checkNeed 17 = .ok (.invokevirtual 455, 3) := dr9 dk9_dX12_checkNeed_0_0.1 13 (17, .invokevirtual 455, 3) rfl
theorem dX12_checkNeed_20 : decode cX12_checkNeed 20 = .ok (.istore 4, 2) := dr9 dk9_dX12_checkNeed_0_0.1 14 (20, .istore 4, 2) rfl
theorem dX12_checkNeed_22 : decode cX12_checkNeed 22 = .ok (.iload 4, 2) := dr9 dk9_dX12_checkNeed_0_0.1 15 (22, .iload 4, 2) rfl
theorem dX12_checkNeed_24 : decode cX12_checkNeed 24 = .ok (.ifCond .ne 16, 3) := dr9 dk9_dX12_checkNeed_0_0.1 16 (24, .ifCond .ne 16, 3) rfl
theorem dX12_checkNeed_27 : decode cX12_checkNeed 27 = .ok (.aload_n 0, 1) := dr9 dk9_dX12_checkNeed_0_0.1 17 (27, .aload_n 0, 1) rfl
theorem dX12_checkNeed_28 : decode cX12_checkNeed 28 = .ok (.getfield 95, 3) := dr9 dk9_dX12_checkNeed_0_0.1 18 (28, .getfield 95, 3) rfl
theorem dX12_checkNeed_31 : decode cX12_checkNeed 31 = .ok (.iload_n 3, 1) := dr9 dk9_dX12_checkNeed_0_0.1 19 (31, .iload_n 3, 1) rfl
theorem dX12_checkNeed_32 : decode cX12_checkNeed 32 = .ok (.baload, 1) := dr9 dk9_dX12_checkNeed_0_0.1 20 (32, .baload, 1) rfl
theorem dX12_checkNeed_33 : decode cX12_checkNeed 33 = .ok (.ifCond .ne 7, 3) := dr9 dk9_dX12_checkNeed_0_0.1 21 (33, .ifCond .ne 7, 3) rfl
theorem dX12_checkNeed_40 : decode cX12_checkNeed 40 = .ok (.iconst 0, 1) := dr9 dk9_dX12_checkNeed_0_0.1 22 (40, .iconst 0, 1) rfl
theorem dX12_checkNeed_36 : decode cX12_checkNeed 36 = .ok (.iconst 1, 1) := dr9 dk9_dX12_checkNeed_0_0.1 23 (36, .iconst 1, 1) rfl
theorem dX12_checkNeed_37 : decode cX12_checkNeed 37 = .ok (.goto 4, 3) := dr9 dk9_dX12_checkNeed_0_0.2.1 0 (37, .goto 4, 3) rfl
theorem dX12_checkNeed_41 : decode cX12_checkNeed 41 = .ok (.istore 5, 2) := dr9 dk9_dX12_checkNeed_0_0.2.1 1 (41, .istore 5, 2) rfl
theorem dX12_checkNeed_43 : decode cX12_checkNeed 43 = .ok (.iload 4, 2) := dr9 dk9_dX12_checkNeed_0_0.2.1 2 (43, .iload 4, 2) rfl
theorem dX12_checkNeed_45 : decode cX12_checkNeed 45 = .ok (.iconst 1, 1) := dr9 dk9_dX12_checkNeed_0_0.2.1 3 (45, .iconst 1, 1) rfl
theorem dX12_checkNeed_46 : decode cX12_checkNeed 46 = .ok (.if_icmp .le 16, 3) := dr9 dk9_dX12_checkNeed_0_0.2.1 4 (46, .if_icmp .le 16, 3) rfl
theorem dX12_checkNeed_49 : decode cX12_checkNeed 49 = .ok (.aload_n 0, 1) := dr9 dk9_dX12_checkNeed_0_0.2.1 5 (49, .aload_n 0, 1) rfl
theorem dX12_checkNeed_50 : decode cX12_checkNeed 50 = .ok (.getfield 95, 3) := dr9 dk9_dX12_checkNeed_0_0.2.1 6 (50, .getfield 95, 3) rfl
theorem dX12_checkNeed_53 : decode cX12_checkNeed 53 = .ok (.iload_n 3, 1) := dr9 dk9_dX12_checkNeed_0_0.2.1 7 (53, .iload_n 3, 1) rfl
theorem dX12_checkNeed_54 : decode cX12_checkNeed 54 = .ok (.baload, 1) := dr9 dk9_dX12_checkNeed_0_0.2.1 8 (54, .baload, 1) rfl
theorem dX12_checkNeed_55 : decode cX12_checkNeed 55 = .ok (.ifCond .ne 7, 3) := dr9 dk9_dX12_checkNeed_0_0.2.1 9 (55, .ifCond .ne 7, 3) rfl
theorem dX12_checkNeed_62 : decode cX12_checkNeed 62 = .ok (.iconst 0, 1) := dr9 dk9_dX12_checkNeed_0_0.2.1 10 (62, .iconst 0, 1) rfl
theorem dX12_checkNeed_58 : decode cX12_checkNeed 58 = .ok (.iconst 1, 1) := dr9 dk9_dX12_checkNeed_0_0.2.1 11 (58, .iconst 1, 1) rfl
theorem dX12_checkNeed_59 : decode cX12_checkNeed 59 = .ok (.goto 4, 3) := dr9 dk9_dX12_checkNeed_0_0.2.1 12 (59, .goto 4, 3) rfl
theorem dX12_checkNeed_63 : decode cX12_checkNeed 63 = .ok (.istore 6, 2) := dr9 dk9_dX12_checkNeed_0_0.2.1 13 (63, .istore 6, 2) rfl
theorem dX12_checkNeed_65 : decode cX12_checkNeed 65 = .ok (.aload_n 0, 1) := dr9 dk9_dX12_checkNeed_0_0.2.1 14 (65, .aload_n 0, 1) rfl
theorem dX12_checkNeed_66 : decode cX12_checkNeed 66 = .ok (.getfield 213, 3) := dr9 dk9_dX12_checkNeed_0_0.2.1 15 (66, .getfield 213, 3) rfl
theorem dX12_checkNeed_69 : decode cX12_checkNeed 69 = .ok (.bipush 8, 2) := dr9 dk9_dX12_checkNeed_0_0.2.1 16 (69, .bipush 8, 2) rfl
theorem dX12_checkNeed_71 : decode cX12_checkNeed 71 = .ok (.iload_n 1, 1) := dr9 dk9_dX12_checkNeed_0_0.2.1 17 (71, .iload_n 1, 1) rfl
theorem dX12_checkNeed_72 : decode cX12_checkNeed 72 = .ok (.imul, 1) := dr9 dk9_dX12_checkNeed_0_0.2.1 18 (72, .imul, 1) rfl
theorem dX12_checkNeed_73 : decode cX12_checkNeed 73 = .ok (.iload_n 2, 1) := dr9 dk9_dX12_checkNeed_0_0.2.1 19 (73, .iload_n 2, 1) rfl
theorem dX12_checkNeed_74 : decode cX12_checkNeed 74 = .ok (.iadd, 1) := dr9 dk9_dX12_checkNeed_0_0.2.1 20 (74, .iadd, 1) rfl
theorem dX12_checkNeed_75 : decode cX12_checkNeed 75 = .ok (.iload 5, 2) := dr9 dk9_dX12_checkNeed_0_0.2.1 21 (75, .iload 5, 2) rfl
theorem dX12_checkNeed_77 : decode cX12_checkNeed 77 = .ok (.ifCond .ne 8, 3) := dr9 dk9_dX12_checkNeed_0_0.2.1 22 (77, .ifCond .ne 8, 3) rfl
theorem dX12_checkNeed_80 : decode cX12_checkNeed 80 = .ok (.iload 6, 2) := dr9 dk9_dX12_checkNeed_0_0.2.1 23 (80, .iload 6, 2) rfl
theorem dX12_checkNeed_82 : decode cX12_checkNeed 82 = .ok (.ifCond .eq 7, 3) := dr9 dk9_dX12_checkNeed_0_0.2.2.1 0 (82, .ifCond .eq 7, 3) rfl
theorem dX12_checkNeed_89 : decode cX12_checkNeed 89 = .ok (.iconst 0, 1) := dr9 dk9_dX12_checkNeed_0_0.2.2.1 1 (89, .iconst 0, 1) rfl
theorem dX12_checkNeed_85 : decode cX12_checkNeed 85 = .ok (.iconst 1, 1) := dr9 dk9_dX12_checkNeed_0_0.2.2.1 2 (85, .iconst 1, 1) rfl
theorem dX12_checkNeed_86 : decode cX12_checkNeed 86 = .ok (.goto 4, 3) := dr9 dk9_dX12_checkNeed_0_0.2.2.1 3 (86, .goto 4, 3) rfl
theorem dX12_checkNeed_90 : decode cX12_checkNeed 90 = .ok (.bastore, 1) := dr9 dk9_dX12_checkNeed_0_0.2.2.1 4 (90, .bastore, 1) rfl
theorem dX12_checkNeed_91 : decode cX12_checkNeed 91 = .ok (.iconst 0, 1) := dr9 dk9_dX12_checkNeed_0_0.2.2.1 5 (91, .iconst 0, 1) rfl
theorem dX12_checkNeed_92 : decode cX12_checkNeed 92 = .ok (.istore 7, 2) := dr9 dk9_dX12_checkNeed_0_0.2.2.1 6 (92, .istore 7, 2) rfl
theorem dX12_checkNeed_94 : decode cX12_checkNeed 94 = .ok (.iconst 0, 1) := dr9 dk9_dX12_checkNeed_0_0.2.2.1 7 (94, .iconst 0, 1) rfl
theorem dX12_checkNeed_95 : decode cX12_checkNeed 95 = .ok (.istore 8, 2) := dr9 dk9_dX12_checkNeed_0_0.2.2.1 8 (95, .istore 8, 2) rfl
theorem dX12_checkNeed_97 : decode cX12_checkNeed 97 = .ok (.iload 8, 2) := dr9 dk9_dX12_checkNeed_0_0.2.2.1 9 (97, .iload 8, 2) rfl
theorem dX12_checkNeed_99 : decode cX12_checkNeed 99 = .ok (.iload 4, 2) := dr9 dk9_dX12_checkNeed_0_0.2.2.1 10 (99, .iload 4, 2) rfl
theorem dX12_checkNeed_101 : decode cX12_checkNeed 101 = .ok (.if_icmp .ge 83, 3) := dr9 dk9_dX12_checkNeed_0_0.2.2.1 11 (101, .if_icmp .ge 83, 3) rfl
theorem dX12_checkNeed_104 : decode cX12_checkNeed 104 = .ok (.aload_n 0, 1) := dr9 dk9_dX12_checkNeed_0_0.2.2.1 12 (104, .aload_n 0, 1) rfl
theorem dX12_checkNeed_105 : decode cX12_checkNeed 105 = .ok (.getfield 92, 3) := dr9 dk9_dX12_checkNeed_0_0.2.2.1 13 (105, .getfield 92, 3) rfl
theorem dX12_checkNeed_108 : decode cX12_checkNeed 108 = .ok (.iload_n 3, 1) := dr9 dk9_dX12_checkNeed_0_0.2.2.1 14 (108, .iload_n 3, 1) rfl
theorem dX12_checkNeed_109 : decode cX12_checkNeed 109 = .ok (.baload, 1) := dr9 dk9_dX12_checkNeed_0_0.2.2.1 15 (109, .baload, 1) rfl
theorem dX12_checkNeed_110 : decode cX12_checkNeed 110 = .ok (.ifCond .ne 74, 3) := dr9 dk9_dX12_checkNeed_0_0.2.2.1 16 (110, .ifCond .ne 74, 3) rfl
theorem dX12_checkNeed_113 : decode cX12_checkNeed 113 = .ok (.aload_n 0, 1) := dr9 dk9_dX12_checkNeed_0_0.2.2.1 17 (113, .aload_n 0, 1) rfl
theorem dX12_checkNeed_114 : decode cX12_checkNeed 114 = .ok (.getfield 71, 3) := dr9 dk9_dX12_checkNeed_0_0.2.2.1 18 (114, .getfield 71, 3) rfl
theorem dX12_checkNeed_117 : decode cX12_checkNeed 117 = .ok (.bipush 24, 2) := dr9 dk9_dX12_checkNeed_0_0.2.2.1 19 (117, .bipush 24, 2) rfl
theorem dX12_checkNeed_119 : decode cX12_checkNeed 119 = .ok (.aload_n 0, 1) := dr9 dk9_dX12_checkNeed_0_0.2.2.1 20 (119, .aload_n 0, 1) rfl
theorem dX12_checkNeed_120 : decode cX12_checkNeed 120 = .ok (.getfield 286, 3) := dr9 dk9_dX12_checkNeed_0_0.2.2.1 21 (120, .getfield 286, 3) rfl
theorem dX12_checkNeed_123 : decode cX12_checkNeed 123 = .ok (.imul, 1) := dr9 dk9_dX12_checkNeed_0_0.2.2.1 22 (123, .imul, 1) rfl
theorem dX12_checkNeed_124 : decode cX12_checkNeed 124 = .ok (.aload_n 0, 1) := dr9 dk9_dX12_checkNeed_0_0.2.2.1 23 (124, .aload_n 0, 1) rfl
theorem dX12_checkNeed_125 : decode cX12_checkNeed 125 = .ok (.getfield 198, 3) := dr9 dk9_dX12_checkNeed_0_0.2.2.2.1 0 (125, .getfield 198, 3) rfl
theorem dX12_checkNeed_128 : decode cX12_checkNeed 128 = .ok (.iload 8, 2) := dr9 dk9_dX12_checkNeed_0_0.2.2.2.1 1 (128, .iload 8, 2) rfl
theorem dX12_checkNeed_130 : decode cX12_checkNeed 130 = .ok (.iaload, 1) := dr9 dk9_dX12_checkNeed_0_0.2.2.2.1 2 (130, .iaload, 1) rfl
theorem dX12_checkNeed_131 : decode cX12_checkNeed 131 = .ok (.iadd, 1) := dr9 dk9_dX12_checkNeed_0_0.2.2.2.1 3 (131, .iadd, 1) rfl
theorem dX12_checkNeed_132 : decode cX12_checkNeed 132 = .ok (.iaload, 1) := dr9 dk9_dX12_checkNeed_0_0.2.2.2.1 4 (132, .iaload, 1) rfl
theorem dX12_checkNeed_133 : decode cX12_checkNeed 133 = .ok (.istore 9, 2) := dr9 dk9_dX12_checkNeed_0_0.2.2.2.1 5 (133, .istore 9, 2) rfl
theorem dX12_checkNeed_135 : decode cX12_checkNeed 135 = .ok (.iload 7, 2) := dr9 dk9_dX12_checkNeed_0_0.2.2.2.1 6 (135, .iload 7, 2) rfl
theorem dX12_checkNeed_137 : decode cX12_checkNeed 137 = .ok (.ifCond .ne 34, 3) := dr9 dk9_dX12_checkNeed_0_0.2.2.2.1 7 (137, .ifCond .ne 34, 3) rfl
theorem dX12_checkNeed_171 : decode cX12_checkNeed 171 = .ok (.iconst 1, 1) := dr9 dk9_dX12_checkNeed_0_0.2.2.2.1 8 (171, .iconst 1, 1) rfl
theorem dX12_checkNeed_172 : decode cX12_checkNeed 172 = .ok (.goto 4, 3) := dr9 dk9_dX12_checkNeed_0_0.2.2.2.1 9 (172, .goto 4, 3) rfl
theorem dX12_checkNeed_176 : decode cX12_checkNeed 176 = .ok (.istore 7, 2) := dr9 dk9_dX12_checkNeed_0_0.2.2.2.1 10 (176, .istore 7, 2) rfl
theorem dX12_checkNeed_178 : decode cX12_checkNeed 178 = .ok (.iinc 8 1, 3) := dr9 dk9_dX12_checkNeed_0_0.2.2.2.1 11 (178, .iinc 8 1, 3) rfl
theorem dX12_checkNeed_181 : decode cX12_checkNeed 181 = .ok (.goto (-84), 3) := dr9 dk9_dX12_checkNeed_0_0.2.2.2.1 12 (181, .goto (-84), 3) rfl
theorem dX12_checkNeed_140 : decode cX12_checkNeed 140 = .ok (.iload 9, 2) := dr9 dk9_dX12_checkNeed_0_0.2.2.2.1 13 (140, .iload 9, 2) rfl
theorem dX12_checkNeed_142 : decode cX12_checkNeed 142 = .ok (.iconst 3, 1) := dr9 dk9_dX12_checkNeed_0_0.2.2.2.1 14 (142, .iconst 3, 1) rfl
theorem dX12_checkNeed_143 : decode cX12_checkNeed 143 = .ok (.if_icmp .eq 32, 3) := dr9 dk9_dX12_checkNeed_0_0.2.2.2.1 15 (143, .if_icmp .eq 32, 3) rfl
theorem dX12_checkNeed_175 : decode cX12_checkNeed 175 = .ok (.iconst 0, 1) := dr9 dk9_dX12_checkNeed_0_0.2.2.2.1 16 (175, .iconst 0, 1) rfl
theorem dX12_checkNeed_146 : decode cX12_checkNeed 146 = .ok (.iload 9, 2) := dr9 dk9_dX12_checkNeed_0_0.2.2.2.1 17 (146, .iload 9, 2) rfl
theorem dX12_checkNeed_148 : decode cX12_checkNeed 148 = .ok (.invokestatic 458, 3) := dr9 dk9_dX12_checkNeed_0_0.2.2.2.1 18 (148, .invokestatic 458, 3) rfl
theorem dX12_checkNeed_151 : decode cX12_checkNeed 151 = .ok (.aload_n 0, 1) := dr9 dk9_dX12_checkNeed_0_0.2.2.2.1 19 (151, .aload_n 0, 1) rfl
theorem dX12_checkNeed_152 : decode cX12_checkNeed 152 = .ok (.getfield 71, 3) := dr9 dk9_dX12_checkNeed_0_0.2.2.2.1 20 (152, .getfield 71, 3) rfl
theorem dX12_checkNeed_155 : decode cX12_checkNeed 155 = .ok (.bipush 24, 2) := dr9 dk9_dX12_checkNeed_0_0.2.2.2.1 21 (155, .bipush 24, 2) rfl
theorem dX12_checkNeed_157 : decode cX12_checkNeed 157 = .ok (.aload_n 0, 1) := dr9 dk9_dX12_checkNeed_0_0.2.2.2.1 22 (157, .aload_n 0, 1) rfl
theorem dX12_checkNeed_158 : decode cX12_checkNeed 158 = .ok (.getfield 286, 3) := dr9 dk9_dX12_checkNeed_0_0.2.2.2.1 23 (158, .getfield 286, 3) rfl
theorem dX12_checkNeed_161 : decode cX12_checkNeed 161 = .ok (.imul, 1) := dr9 dk9_dX12_checkNeed_0_0.2.2.2.2.1 0 (161, .imul, 1) rfl
theorem dX12_checkNeed_162 : decode cX12_checkNeed 162 = .ok (.iload_n 1, 1) := dr9 dk9_dX12_checkNeed_0_0.2.2.2.2.1 1 (162, .iload_n 1, 1) rfl
theorem dX12_checkNeed_163 : decode cX12_checkNeed 163 = .ok (.iadd, 1) := dr9 dk9_dX12_checkNeed_0_0.2.2.2.2.1 2 (163, .iadd, 1) rfl
theorem dX12_checkNeed_164 : decode cX12_checkNeed 164 = .ok (.iaload, 1) := dr9 dk9_dX12_checkNeed_0_0.2.2.2.2.1 3 (164, .iaload, 1) rfl
theorem dX12_checkNeed_165 : decode cX12_checkNeed 165 = .ok (.invokestatic 458, 3) := dr9 dk9_dX12_checkNeed_0_0.2.2.2.2.1 4 (165, .invokestatic 458, 3) rfl
theorem dX12_checkNeed_168 : decode cX12_checkNeed 168 = .ok (.if_icmp .ge 7, 3) := dr9 dk9_dX12_checkNeed_0_0.2.2.2.2.1 5 (168, .if_icmp .ge 7, 3) rfl
theorem dX12_checkNeed_184 : decode cX12_checkNeed 184 = .ok (.iload 5, 2) := dr9 dk9_dX12_checkNeed_0_0.2.2.2.2.1 6 (184, .iload 5, 2) rfl
theorem dX12_checkNeed_186 : decode cX12_checkNeed 186 = .ok (.ifCond .ne 13, 3) := dr9 dk9_dX12_checkNeed_0_0.2.2.2.2.1 7 (186, .ifCond .ne 13, 3) rfl
theorem dX12_checkNeed_199 : decode cX12_checkNeed 199 = .ok (.aload_n 0, 1) := dr9 dk9_dX12_checkNeed_0_0.2.2.2.2.1 8 (199, .aload_n 0, 1) rfl
theorem dX12_checkNeed_200 : decode cX12_checkNeed 200 = .ok (.iload 5, 2) := dr9 dk9_dX12_checkNeed_0_0.2.2.2.2.1 9 (200, .iload 5, 2) rfl
theorem dX12_checkNeed_202 : decode cX12_checkNeed 202 = .ok (.ifCond .eq 7, 3) := dr9 dk9_dX12_checkNeed_0_0.2.2.2.2.1 10 (202, .ifCond .eq 7, 3) rfl
theorem dX12_checkNeed_205 : decode cX12_checkNeed 205 = .ok (.iconst 1, 1) := dr9 dk9_dX12_checkNeed_0_0.2.2.2.2.1 11 (205, .iconst 1, 1) rfl
theorem dX12_checkNeed_206 : decode cX12_checkNeed 206 = .ok (.goto 13, 3) := dr9 dk9_dX12_checkNeed_0_0.2.2.2.2.1 12 (206, .goto 13, 3) rfl
theorem dX12_checkNeed_219 : decode cX12_checkNeed 219 = .ok (.iload_n 1, 1) := dr9 dk9_dX12_checkNeed_0_0.2.2.2.2.1 13 (219, .iload_n 1, 1) rfl
theorem dX12_checkNeed_220 : decode cX12_checkNeed 220 = .ok (.iload_n 2, 1) := dr9 dk9_dX12_checkNeed_0_0.2.2.2.2.1 14 (220, .iload_n 2, 1) rfl
theorem dX12_checkNeed_221 : decode cX12_checkNeed 221 = .ok (.invokevirtual 461, 3) := dr9 dk9_dX12_checkNeed_0_0.2.2.2.2.1 15 (221, .invokevirtual 461, 3) rfl
theorem dX12_checkNeed_224 : decode cX12_checkNeed 224 = .ok (.return_, 1) := dr9 dk9_dX12_checkNeed_0_0.2.2.2.2.1 16 (224, .return_, 1) rfl
theorem dX12_checkNeed_189 : decode cX12_checkNeed 189 = .ok (.iload 6, 2) := dr9 dk9_dX12_checkNeed_0_0.2.2.2.2.1 17 (189, .iload 6, 2) rfl
theorem dX12_checkNeed_191 : decode cX12_checkNeed 191 = .ok (.ifCond .ne 8, 3) := dr9 dk9_dX12_checkNeed_0_0.2.2.2.2.1 18 (191, .ifCond .ne 8, 3) rfl
theorem dX12_checkNeed_209 : decode cX12_checkNeed 209 = .ok (.iload 6, 2) := dr9 dk9_dX12_checkNeed_0_0.2.2.2.2.1 19 (209, .iload 6, 2) rfl
theorem dX12_checkNeed_211 : decode cX12_checkNeed 211 = .ok (.ifCond .eq 7, 3) := dr9 dk9_dX12_checkNeed_0_0.2.2.2.2.1 20 (211, .ifCond .eq 7, 3) rfl
theorem dX12_checkNeed_214 : decode cX12_checkNeed 214 = .ok (.iconst 2, 1) := dr9 dk9_dX12_checkNeed_0_0.2.2.2.2.1 21 (214, .iconst 2, 1) rfl
theorem dX12_checkNeed_215 : decode cX12_checkNeed 215 = .ok (.goto 4, 3) := dr9 dk9_dX12_checkNeed_0_0.2.2.2.2.1 22 (215, .goto 4, 3) rfl
theorem dX12_checkNeed_194 : decode cX12_checkNeed 194 = .ok (.iload 7, 2) := dr9 dk9_dX12_checkNeed_0_0.2.2.2.2.1 23 (194, .iload 7, 2) rfl
theorem dX12_checkNeed_196 : decode cX12_checkNeed 196 = .ok (.ifCond .eq 28, 3) := dr9 dk9_dX12_checkNeed_0_0.2.2.2.2.2 0 (196, .ifCond .eq 28, 3) rfl
theorem dX12_checkNeed_218 : decode cX12_checkNeed 218 = .ok (.iconst 4, 1) := dr9 dk9_dX12_checkNeed_0_0.2.2.2.2.2 1 (218, .iconst 4, 1) rfl
theorem dk9_dX12_addCycle_0_0 : dOk cX12_addCycle [(0, .iconst 0, 1), (1, .istore_n 2, 1), (2, .aload_n 0, 1), (3, .getfield 219, 3), (6, .iload_n 2, 1), (7, .iaload, 1), (8, .iload_n 1, 1), (9, .if_icmp .eq 9, 3), (12, .iinc 2 1, 3), (15, .goto (-13), 3), (18, .iload_n 2, 1), (19, .istore_n 3, 1), (20, .iload_n 3, 1), (21, .aload_n 0, 1), (22, .getfield 449, 3), (25, .if_icmp .ge 40, 3), (28, .aload_n 0, 1), (29, .getfield 435, 3), (32, .bipush 100, 2), (34, .if_icmp .ge 31, 3), (37, .aload_n 0, 1), (38, .getfield 210, 3), (41, .bipush 24, 2), (43, .aload_n 0, 1)] = true ∧ dOk cX12_addCycle [(44, .getfield 435, 3), (47, .imul, 1), (48, .iload_n 3, 1), (49, .iadd, 1), (50, .iload_n 2, 1), (51, .isub, 1), (52, .aload_n 0, 1), (53, .getfield 219, 3), (56, .iload_n 3, 1), (57, .iaload, 1), (58, .iastore, 1), (59, .iinc 3 1, 3), (62, .goto (-42), 3), (65, .aload_n 0, 1), (66, .iconst 3, 1), (67, .iload_n 1, 1), (68, .aload_n 0, 1), (69, .getfield 449, 3), (72, .iload_n 2, 1), (73, .isub, 1), (74, .invokevirtual 461, 3), (77, .return_, 1)] = true := by decide +kernel
theorem dX12_addCycle_0 : decode cX12_addCycle 0 = .ok (.iconst 0, 1) := dr9 dk9_dX12_addCycle_0_0.1 0 (0, .iconst 0, 1) rfl
theorem dX12_addCycle_1 : decode cX12_addCycle 1 = .ok (.istore_n 2, 1) := dr9 dk9_dX12_addCycle_0_0.1 1 (1, .istore_n 2, 1) rfl
theorem dX12_addCycle_2 : decode cX12_addCycle 2 = .ok (.aload_n 0, 1) := dr9 dk9_dX12_addCycle_0_0.1 2 (2, .aload_n 0, 1) rfl
theorem dX12_addCycle_3 : decode cX12_addCycle 3 = .ok (.getfield 219, 3) := dr9 dk9_dX12_addCycle_0_0.1 3 (3, .getfield 219, 3) rfl
theorem dX12_addCycle_6 : decode cX12_addCycle 6 = .ok (.iload_n 2, 1) := dr9 dk9_dX12_addCycle_0_0.1 4 (6, .iload_n 2, 1) rfl
theorem dX12_addCycle_7 : decode cX12_addCycle 7 = .ok (.iaload, 1) := dr9 dk9_dX12_addCycle_0_0.1 5 (7, .iaload, 1) rfl
theorem dX12_addCycle_8 : decode cX12_addCycle 8 = .ok (.iload_n 1, 1) := dr9 dk9_dX12_addCycle_0_0.1 6 (8, .iload_n 1, 1) rfl
theorem dX12_addCycle_9 : decode cX12_addCycle 9 = .ok (.if_icmp .eq 9, 3) := dr9 dk9_dX12_addCycle_0_0.1 7 (9, .if_icmp .eq 9, 3) rfl
theorem dX12_addCycle_12 : decode cX12_addCycle 12 = .ok (.iinc 2 1, 3) := dr9 dk9_dX12_addCycle_0_0.1 8 (12, .iinc 2 1, 3) rfl
theorem dX12_addCycle_15 : decode cX12_addCycle 15 = .ok (.goto (-13), 3) := dr9 dk9_dX12_addCycle_0_0.1 9 (15, .goto (-13), 3) rfl
theorem dX12_addCycle_18 : decode cX12_addCycle 18 = .ok (.iload_n 2, 1) := dr9 dk9_dX12_addCycle_0_0.1 10 (18, .iload_n 2, 1) rfl
theorem dX12_addCycle_19 : decode cX12_addCycle 19 = .ok (.istore_n 3, 1) := dr9 dk9_dX12_addCycle_0_0.1 11 (19, .istore_n 3, 1) rfl
theorem dX12_addCycle_20 : decode cX12_addCycle 20 = .ok (.iload_n 3, 1) := dr9 dk9_dX12_addCycle_0_0.1 12 (20, .iload_n 3, 1) rfl
theorem dX12_addCycle_21 : decode cX12_addCycle 21 = .ok (.aload_n 0, 1) := dr9 dk9_dX12_addCycle_0_0.1 13 (21, .aload_n 0, 1) rfl
theorem dX12_addCycle_22 : decode cX12_addCycle 22 = .ok (.getfield 449, 3) := dr9 dk9_dX12_addCycle_0_0.1 14 (22, .getfield 449, 3) rfl
theorem dX12_addCycle_25 : decode cX12_addCycle 25 = .ok (.if_icmp .ge 40, 3) := dr9 dk9_dX12_addCycle_0_0.1 15 (25, .if_icmp .ge 40, 3) rfl
theorem dX12_addCycle_28 : decode cX12_addCycle 28 = .ok (.aload_n 0, 1) := dr9 dk9_dX12_addCycle_0_0.1 16 (28, .aload_n 0, 1) rfl
theorem dX12_addCycle_29 : decode cX12_addCycle 29 = .ok (.getfield 435, 3) := dr9 dk9_dX12_addCycle_0_0.1 17 (29, .getfield 435, 3) rfl
theorem dX12_addCycle_32 : decode cX12_addCycle 32 = .ok (.bipush 100, 2) := dr9 dk9_dX12_addCycle_0_0.1 18 (32, .bipush 100, 2) rfl
theorem dX12_addCycle_34 : decode cX12_addCycle 34 = .ok (.if_icmp .ge 31, 3) := dr9 dk9_dX12_addCycle_0_0.1 19 (34, .if_icmp .ge 31, 3) rfl
theorem dX12_addCycle_37 : decode cX12_addCycle 37 = .ok (.aload_n 0, 1) := dr9 dk9_dX12_addCycle_0_0.1 20 (37, .aload_n 0, 1) rfl
theorem dX12_addCycle_38 : decode cX12_addCycle 38 = .ok (.getfield 210, 3) := dr9 dk9_dX12_addCycle_0_0.1 21 (38, .getfield 210, 3) rfl
theorem dX12_addCycle_41 : decode cX12_addCycle 41 = .ok (.bipush 24, 2) := dr9 dk9_dX12_addCycle_0_0.1 22 (41, .bipush 24, 2) rfl
theorem dX12_addCycle_43 : decode cX12_addCycle 43 = .ok (.aload_n 0, 1) := dr9 dk9_dX12_addCycle_0_0.1 23 (43, .aload_n 0, 1) rfl
theorem dX12_addCycle_44 : decode cX12_addCycle 44 = .ok (.getfield 435, 3) := dr9 dk9_dX12_addCycle_0_0.2 0 (44, .getfield 435, 3) rfl
theorem dX12_addCycle_47 : decode cX12_addCycle 47 = .ok (.imul, 1) := dr9 dk9_dX12_addCycle_0_0.2 1 (47, .imul, 1) rfl
theorem dX12_addCycle_48 : decode cX12_addCycle 48 = .ok (.iload_n 3, 1) := dr9 dk9_dX12_addCycle_0_0.2 2 (48, .iload_n 3, 1) rfl
theorem dX12_addCycle_49 : decode cX12_addCycle 49 = .ok (.iadd, 1) := dr9 dk9_dX12_addCycle_0_0.2 3 (49, .iadd, 1) rfl
theorem dX12_addCycle_50 : decode cX12_addCycle 50 = .ok (.iload_n 2, 1) := dr9 dk9_dX12_addCycle_0_0.2 4 (50, .iload_n 2, 1) rfl
theorem dX12_addCycle_51 : decode cX12_addCycle 51 = .ok (.isub, 1) := dr9 dk9_dX12_addCycle_0_0.2 5 (51, .isub, 1) rfl
theorem dX12_addCycle_52 : decode cX12_addCycle 52 = .ok (.aload_n 0, 1) := dr9 dk9_dX12_addCycle_0_0.2 6 (52, .aload_n 0, 1) rfl
theorem dX12_addCycle_53 : decode cX12_addCycle 53 = .ok (.getfield 219, 3) := dr9 dk9_dX12_addCycle_0_0.2 7 (53, .getfield 219, 3) rfl
theorem dX12_addCycle_56 : decode cX12_addCycle 56 = .ok (.iload_n 3, 1) := dr9 dk9_dX12_addCycle_0_0.2 8 (56, .iload_n 3, 1) rfl
theorem dX12_addCycle_57 : decode cX12_addCycle 57 = .ok (.iaload, 1) := dr9 dk9_dX12_addCycle_0_0.2 9 (57, .iaload, 1) rfl
theorem dX12_addCycle_58 : decode cX12_addCycle 58 = .ok (.iastore, 1) := dr9 dk9_dX12_addCycle_0_0.2 10 (58, .iastore, 1) rfl
theorem dX12_addCycle_59 : decode cX12_addCycle 59 = .ok (.iinc 3 1, 3) := dr9 dk9_dX12_addCycle_0_0.2 11 (59, .iinc 3 1, 3) rfl
theorem dX12_addCycle_62 : decode cX12_addCycle 62 = .ok (.goto (-42), 3) := dr9 dk9_dX12_addCycle_0_0.2 12 (62, .goto (-42), 3) rfl
theorem dX12_addCycle_65 : decode cX12_addCycle 65 = .ok (.aload_n 0, 1) := dr9 dk9_dX12_addCycle_0_0.2 13 (65, .aload_n 0, 1) rfl
theorem dX12_addCycle_66 : decode cX12_addCycle 66 = .ok (.iconst 3, 1) := dr9 dk9_dX12_addCycle_0_0.2 14 (66, .iconst 3, 1) rfl
theorem dX12_addCycle_67 : decode cX12_addCycle 67 = .ok (.iload_n 1, 1) := dr9 dk9_dX12_addCycle_0_0.2 15 (67, .iload_n 1, 1) rfl
theorem dX12_addCycle_68 : decode cX12_addCycle 68 = .ok (.aload_n 0, 1) := dr9 dk9_dX12_addCycle_0_0.2 16 (68, .aload_n 0, 1) rfl
theorem dX12_addCycle_69 : decode cX12_addCycle 69 = .ok (.getfield 449, 3) := dr9 dk9_dX12_addCycle_0_0.2 17 (69, .getfield 449, 3) rfl
theorem dX12_addCycle_72 : decode cX12_addCycle 72 = .ok (.iload_n 2, 1) := dr9 dk9_dX12_addCycle_0_0.2 18 (72, .iload_n 2, 1) rfl
theorem dX12_addCycle_73 : decode cX12_addCycle 73 = .ok (.isub, 1) := dr9 dk9_dX12_addCycle_0_0.2 19 (73, .isub, 1) rfl
theorem dX12_addCycle_74 : decode cX12_addCycle 74 = .ok (.invokevirtual 461, 3) := dr9 dk9_dX12_addCycle_0_0.2 20 (74, .invokevirtual 461, 3) rfl
theorem dX12_addCycle_77 : decode cX12_addCycle 77 = .ok (.return_, 1) := dr9 dk9_dX12_addCycle_0_0.2 21 (77, .return_, 1) rfl
abbrev r_s_suits : Room := { frames := 1, cells := 0, slots := 0, locals := 22 }
abbrev q_s_suits (D : va_G) (ks : KS) (ad : Nat → Nat) (kk : Nat → ClassId) (V : Vf) (L : Lf) (p0 : Int32) (p1 : Int32) (A : Nat → Prop) : Array Value → State → Outcome → State → Prop := va_Qi (fun (r : Int32) (_ : Unit) => (0 ≤ r.toInt ∧ r.toInt ≤ 1)) (fun _ t => gq D A (mw ad kk ks.1 V L) (mty kk) t) A
abbrev r_s_candidatesOf : Room := { frames := 2, cells := 0, slots := 0, locals := 45 }
abbrev q_s_candidatesOf (D : va_G) (ks : KS) (ad : Nat → Nat) (kk : Nat → ClassId) (V : Vf) (L : Lf) (p0 : Int32) (A : Nat → Prop) : Array Value → State → Outcome → State → Prop := va_Qi (fun (r : Int32) (u : Vf × Lf) => rgd bM u.1 ∧ agr [] [80] V u.1 ∧ u.2 = L ∧ (0 ≤ r.toInt ∧ r.toInt ≤ 24)) (fun u t => gq D A (mw ad kk ks.1 u.1 u.2) (mty kk) t) A
abbrev r_s_isCandidate : Room := { frames := 3, cells := 0, slots := 0, locals := 69 }
abbrev q_s_isCandidate (D : va_G) (ks : KS) (ad : Nat → Nat) (kk : Nat → ClassId) (V : Vf) (L : Lf) (p0 : Int32) (p1 : Int32) (A : Nat → Prop) : Array Value → State → Outcome → State → Prop := va_Qi (fun (r : Int32) (u : Vf × Lf) => rgd bM u.1 ∧ agr [] [80] V u.1 ∧ u.2 = L ∧ (0 ≤ r.toInt ∧ r.toInt ≤ 1)) (fun u t => gq D A (mw ad kk ks.1 u.1 u.2) (mty kk) t) A
abbrev r_s_joined : Room := { frames := 0, cells := 0, slots := 0, locals := 0 }
abbrev q_s_joined (D : va_G) (ks : KS) (ad : Nat → Nat) (kk : Nat → ClassId) (V : Vf) (L : Lf) (p0 : Int32) (p1 : Int32) (p2 : Int32) (A : Nat → Prop) : Array Value → State → Outcome → State → Prop := va_Qi (fun (r : Int32) (u : Vf × Lf) => rgd bM u.1 ∧ agr [(0, 0)] [] V u.1 ∧ u.2 = L) (fun u t => gq D A (mw ad kk ks.1 u.1 u.2) (mty kk) t) A
set_option maxHeartbeats 4000000 in
set_option maxRecDepth 100000 in
theorem s_joined (l : Launch) (D : va_G) (ks : KS) (sz : Nat) (ad : Nat → Nat) (kk : Nat → ClassId) (V : Vf) (L : Lf) (p0 : Int32) (p1 : Int32) (p2 : Int32) (hMV : rgd bM V)  : Met l yX12_joined (Cond.code yX12_joined cX12_joined 4 (some .int) :: GW) r_s_joined (va_Pc [.ref (ad 0), .int p0, .int p1, .int p2] (gp D ks (mw ad kk ks.1 V L) (mty kk) sz)) (q_s_joined D ks ad kk V L p0 p1 p2 (va_A (mw ad kk ks.1 V L) sz)) 0 0 (va_A (mw ad kk ks.1 V L) sz) := by
  refine g_met (q_s_joined D ks ad kk V L p0 p1 p2) (by decide) (Nat.le_of_ble_eq_true rfl) ?_
  intro p e s m below meth c A ls H locs hx hb hr hml hown hg hlocks hin hnw hgk hP hK hD hS hA hl
  replace hown : s.vm.findClass RX12 = some m.cls := hown
  replace hl : lv_has ls 4 [(0, .ref (ad 0)), (1, .int p0), (2, .int p1), (3, .int p2)] := hl
  replace hP : va_P D vwCl (mw ad kk ks.1 V L) H := hP
  replace hD : va_D A (mw ad kk ks.1 V L) := hD
  replace hK : va_K D vwCl (mty kk) s := hK
  have agV : agr [(0, 0)] [] V V := agr.rf
  refine lv_aload_n hx hb dX12_joined_0 rfl (lv_at hl 0 rfl) ?_
  refine lv_iconst (v := 0) hx hb dX12_joined_1 (by decide) ?_
  refine va_put (D := D) (ci := 12) (v := .int 0) (ty := tyX12 0) (C := RX12) (T := TX12) (N := 100) hx hb hg inX12 tyX12 tyX12_ok nmX12 hown hK hP hD hS 0 rfl rfl 0 (by decide) (hg _ w1706) (fun _ h9 => h9) rfl (tyX12_ok 0 (by decide)) rfl rfl (Nat.le_of_ble_eq_true rfl) dX12_joined_2 (fun H locs hP hD hS => ?_)
  obtain ⟨V1, hV1⟩ : ∃ z, z = up2 V 0 0 0 := ⟨_, rfl⟩
  have hP : va_P D vwCl (mw ad kk ks.1 V1 L) H := by rw [hV1]; exact hP
  have hD : va_D A (mw ad kk ks.1 V1 L) := by rw [hV1]; exact hD
  have hMV1 : rgd bM V1 := hMV.put hV1 (i_full _)
  have agV1 : agr [(0, 0)] [] V V1 := agV.up hV1 rfl
  refine lv_iload_n hx hb dX12_joined_5 rfl (lv_at hl 1 rfl) ?_
  refine lv_if_lt (tgt := 63) hx hb dX12_joined_6 (by decide) (fun c2 => ?_) (fun c2 => ?_)
  · skip
    have f3 : p0.toInt < 0 := b_lt rfl (by decide) c2
    refine lv_iconst (v := (-1)) hx hb dX12_joined_63 (by decide) ?_
    exact W.iret (v := (-1)) hx hb hr (fun t ht hW => ⟨⟨(-1), (V1, L), rfl, ⟨hMV1, agV1, rfl⟩, by rw [ht]; exact hP, va_K.moved hW.alike hK, hD⟩, hS.F ht⟩) hS.2.2 dX12_joined_64
  · skip
    have f4 : 0 ≤ p0.toInt := b_nlt rfl (by decide) c2
    refine lv_iload_n hx hb dX12_joined_9 rfl (lv_at hl 1 rfl) ?_
    refine lv_aload_n hx hb dX12_joined_10 rfl (lv_at hl 0 rfl) ?_
    refine va_get (D := D) (ci := 12) (v := .int (V1 0 60)) (C := RX12) (T := TX12) (N := 100) hx hb hg inX12 hown hK hP 0 rfl rfl 60 (by decide) (hg _ w1766) (fun _ h9 => h9) rfl dX12_joined_11 ?_
    refine g_top (v := (V 0 60)) (up2_k hV1 (by decide)) ?_
    have r5 : 0 ≤ ((V 0 60)).toInt ∧ ((V 0 60)).toInt ≤ 300 := hMV 0 60
    refine lv_icmp_ge (tgt := 63) hx hb dX12_joined_14 (by decide) (fun c6 => ?_) (fun c6 => ?_)
    · skip
      have f7 : ((V 0 60)).toInt ≤ p0.toInt := b_le rfl rfl c6
      refine lv_iconst (v := (-1)) hx hb dX12_joined_63 (by decide) ?_
      exact W.iret (v := (-1)) hx hb hr (fun t ht hW => ⟨⟨(-1), (V1, L), rfl, ⟨hMV1, agV1, rfl⟩, by rw [ht]; exact hP, va_K.moved hW.alike hK, hD⟩, hS.F ht⟩) hS.2.2 dX12_joined_64
    · skip
      have f8 : p0.toInt < ((V 0 60)).toInt := b_nle rfl rfl c6
      refine lv_iload_n hx hb dX12_joined_17 rfl (lv_at hl 2 rfl) ?_
      refine lv_if_lt (tgt := 63) hx hb dX12_joined_18 (by decide) (fun c9 => ?_) (fun c9 => ?_)
      · skip
        have f10 : p1.toInt < 0 := b_lt rfl (by decide) c9
        refine lv_iconst (v := (-1)) hx hb dX12_joined_63 (by decide) ?_
        exact W.iret (v := (-1)) hx hb hr (fun t ht hW => ⟨⟨(-1), (V1, L), rfl, ⟨hMV1, agV1, rfl⟩, by rw [ht]; exact hP, va_K.moved hW.alike hK, hD⟩, hS.F ht⟩) hS.2.2 dX12_joined_64
      · skip
        have f11 : 0 ≤ p1.toInt := b_nlt rfl (by decide) c9
        refine lv_iload_n hx hb dX12_joined_21 rfl (lv_at hl 2 rfl) ?_
        refine lv_aload_n hx hb dX12_joined_22 rfl (lv_at hl 0 rfl) ?_
        refine va_get (D := D) (ci := 12) (v := .ref (ad 27)) (C := RX12) (T := TX12) (N := 100) hx hb hg inX12 hown hK hP 0 rfl rfl 27 (by decide) (hg _ w1733) (fun _ h9 => h9) rfl dX12_joined_23 ?_
        refine lv_bipush (v := 24) hx hb dX12_joined_26 (by decide) ?_
        refine lv_aload_n hx hb dX12_joined_28 rfl (lv_at hl 0 rfl) ?_
        refine va_get (D := D) (ci := 12) (v := .int (V1 0 11)) (C := RX12) (T := TX12) (N := 100) hx hb hg inX12 hown hK hP 0 rfl rfl 11 (by decide) (hg _ w1717) (fun _ h9 => h9) rfl dX12_joined_29 ?_
        refine g_top (v := (V 0 11)) (up2_k hV1 (by decide)) ?_
        have r12 : 0 ≤ ((V 0 11)).toInt ∧ ((V 0 11)).toInt ≤ 1 := hMV 0 11
        refine lv_imul hx hb dX12_joined_32 ?_
        refine lv_topi (fun z13 ez13 => ?_)
        have hz13 : z13.toInt = 24 * ((V 0 11)).toInt := i_mul ez13 (by decide) rfl (by omega)
        refine lv_aload_n hx hb dX12_joined_33 rfl (lv_at hl 0 rfl) ?_
        refine va_get (D := D) (ci := 12) (v := .ref (ad 61)) (C := RX12) (T := TX12) (N := 100) hx hb hg inX12 hown hK hP 0 rfl rfl 61 (by decide) (hg _ w1767) (fun _ h9 => h9) rfl dX12_joined_34 ?_
        refine lv_iload_n hx hb dX12_joined_37 rfl (lv_at hl 1 rfl) ?_
        refine va_iald (D := D) (i := p0) hx hb hK hP 46 45 rfl rfl (i_in (a := p0.toInt) rfl (by omega)) dX12_joined_38 ?_
        refine g_top (v := (V 61 (Int32.toNatClampNeg p0))) (up2_o hV1 (by decide)) ?_
        have r14 : 0 ≤ ((V 61 (Int32.toNatClampNeg p0))).toInt ∧ ((V 61 (Int32.toNatClampNeg p0))).toInt ≤ 23 := hMV 61 (Int32.toNatClampNeg p0)
        refine lv_iadd hx hb dX12_joined_39 ?_
        refine lv_topi (fun z15 ez15 => ?_)
        have hz15 : z15.toInt = z13.toInt + ((V 61 (Int32.toNatClampNeg p0))).toInt := i_add ez15 rfl rfl (by omega)
        refine va_iald (D := D) (i := z15) hx hb hK hP 20 19 rfl rfl (i_in (a := z15.toInt) rfl (by omega)) dX12_joined_40 ?_
        refine g_top (v := (V 27 (Int32.toNatClampNeg z15))) (up2_o hV1 (by decide)) ?_
        have r16 : 0 ≤ ((V 27 (Int32.toNatClampNeg z15))).toInt ∧ ((V 27 (Int32.toNatClampNeg z15))).toInt ≤ 8 := hMV 27 (Int32.toNatClampNeg z15)
        refine lv_icmp_ge (tgt := 63) hx hb dX12_joined_41 (by decide) (fun c17 => ?_) (fun c17 => ?_)
        · skip
          have f18 : ((V 27 (Int32.toNatClampNeg z15))).toInt ≤ p1.toInt := b_le rfl rfl c17
          refine lv_iconst (v := (-1)) hx hb dX12_joined_63 (by decide) ?_
          exact W.iret (v := (-1)) hx hb hr (fun t ht hW => ⟨⟨(-1), (V1, L), rfl, ⟨hMV1, agV1, rfl⟩, by rw [ht]; exact hP, va_K.moved hW.alike hK, hD⟩, hS.F ht⟩) hS.2.2 dX12_joined_64
        · skip
          have f19 : p1.toInt < ((V 27 (Int32.toNatClampNeg z15))).toInt := b_nle rfl rfl c17
          refine lv_iload_n hx hb dX12_joined_44 rfl (lv_at hl 3 rfl) ?_
          refine lv_if_lt (tgt := 63) hx hb dX12_joined_45 (by decide) (fun c20 => ?_) (fun c20 => ?_)
          · skip
            have f21 : p2.toInt < 0 := b_lt rfl (by decide) c20
            refine lv_iconst (v := (-1)) hx hb dX12_joined_63 (by decide) ?_
            exact W.iret (v := (-1)) hx hb hr (fun t ht hW => ⟨⟨(-1), (V1, L), rfl, ⟨hMV1, agV1, rfl⟩, by rw [ht]; exact hP, va_K.moved hW.alike hK, hD⟩, hS.F ht⟩) hS.2.2 dX12_joined_64
          · skip
            have f22 : 0 ≤ p2.toInt := b_nlt rfl (by decide) c20
            refine lv_iload_n hx hb dX12_joined_48 rfl (lv_at hl 3 rfl) ?_
            refine lv_aload_n hx hb dX12_joined_49 rfl (lv_at hl 0 rfl) ?_
            refine va_get (D := D) (ci := 12) (v := .ref (ad 66)) (C := RX12) (T := TX12) (N := 100) hx hb hg inX12 hown hK hP 0 rfl rfl 66 (by decide) (hg _ w1772) (fun _ h9 => h9) rfl dX12_joined_50 ?_
            refine lv_bipush (v := 8) hx hb dX12_joined_53 (by decide) ?_
            refine lv_iload_n hx hb dX12_joined_55 rfl (lv_at hl 1 rfl) ?_
            refine lv_imul hx hb dX12_joined_56 ?_
            refine lv_topi (fun z23 ez23 => ?_)
            have hz23 : z23.toInt = 8 * p0.toInt := i_mul ez23 (by decide) rfl (by omega)
            refine lv_iload_n hx hb dX12_joined_57 rfl (lv_at hl 2 rfl) ?_
            refine lv_iadd hx hb dX12_joined_58 ?_
            refine lv_topi (fun z24 ez24 => ?_)
            have hz24 : z24.toInt = z23.toInt + p1.toInt := i_add ez24 rfl rfl (by omega)
            refine va_iald (D := D) (i := z24) hx hb hK hP 50 49 rfl rfl (i_in (a := z24.toInt) rfl (by omega)) dX12_joined_59 ?_
            refine g_top (v := (V 66 (Int32.toNatClampNeg z24))) (up2_o hV1 (by decide)) ?_
            have r25 : 0 ≤ ((V 66 (Int32.toNatClampNeg z24))).toInt ∧ ((V 66 (Int32.toNatClampNeg z24))).toInt ≤ 24 := hMV 66 (Int32.toNatClampNeg z24)
            refine lv_icmp_lt (tgt := 65) hx hb dX12_joined_60 (by decide) (fun c26 => ?_) (fun c26 => ?_)
            · skip
              have f27 : p2.toInt < ((V 66 (Int32.toNatClampNeg z24))).toInt := b_lt rfl rfl c26
              refine lv_aload_n hx hb dX12_joined_65 rfl (lv_at hl 0 rfl) ?_
              refine va_get (D := D) (ci := 12) (v := .ref (ad 67)) (C := RX12) (T := TX12) (N := 100) hx hb hg inX12 hown hK hP 0 rfl rfl 67 (by decide) (hg _ w1773) (fun _ h9 => h9) rfl dX12_joined_66 ?_
              refine lv_bipush (v := 24) hx hb dX12_joined_69 (by decide) ?_
              refine lv_bipush (v := 8) hx hb dX12_joined_71 (by decide) ?_
              refine lv_iload_n hx hb dX12_joined_73 rfl (lv_at hl 1 rfl) ?_
              refine lv_imul hx hb dX12_joined_74 ?_
              refine lv_topi (fun z28 ez28 => ?_)
              have hz28 : z28.toInt = 8 * p0.toInt := i_mul ez28 (by decide) rfl (by omega)
              refine lv_iload_n hx hb dX12_joined_75 rfl (lv_at hl 2 rfl) ?_
              refine lv_iadd hx hb dX12_joined_76 ?_
              refine lv_topi (fun z29 ez29 => ?_)
              have hz29 : z29.toInt = z28.toInt + p1.toInt := i_add ez29 rfl rfl (by omega)
              refine lv_imul hx hb dX12_joined_77 ?_
              refine lv_topi (fun z30 ez30 => ?_)
              have hz30 : z30.toInt = 24 * z29.toInt := i_mul ez30 (by decide) rfl (by omega)
              refine lv_iload_n hx hb dX12_joined_78 rfl (lv_at hl 3 rfl) ?_
              refine lv_iadd hx hb dX12_joined_79 ?_
              refine lv_topi (fun z31 ez31 => ?_)
              have hz31 : z31.toInt = z30.toInt + p2.toInt := i_add ez31 rfl rfl (by omega)
              refine va_iald (D := D) (i := z31) hx hb hK hP 51 50 rfl rfl (i_in (a := z31.toInt) rfl (by omega)) dX12_joined_80 ?_
              refine g_top (v := (V 67 (Int32.toNatClampNeg z31))) (up2_o hV1 (by decide)) ?_
              have r32 : 0 ≤ ((V 67 (Int32.toNatClampNeg z31))).toInt ∧ ((V 67 (Int32.toNatClampNeg z31))).toInt ≤ 299 := hMV 67 (Int32.toNatClampNeg z31)
              exact W.iret (v := (V 67 (Int32.toNatClampNeg z31))) hx hb hr (fun t ht hW => ⟨⟨(V 67 (Int32.toNatClampNeg z31)), (V1, L), rfl, ⟨hMV1, agV1, rfl⟩, by rw [ht]; exact hP, va_K.moved hW.alike hK, hD⟩, hS.F ht⟩) hS.2.2 dX12_joined_81
            · skip
              have f33 : ((V 66 (Int32.toNatClampNeg z24))).toInt ≤ p2.toInt := b_nlt rfl rfl c26
              refine lv_iconst (v := (-1)) hx hb dX12_joined_63 (by decide) ?_
              exact W.iret (v := (-1)) hx hb hr (fun t ht hW => ⟨⟨(-1), (V1, L), rfl, ⟨hMV1, agV1, rfl⟩, by rw [ht]; exact hP, va_K.moved hW.alike hK, hD⟩, hS.F ht⟩) hS.2.2 dX12_joined_64
abbrev r_s_candidate : Room := { frames := 3, cells := 0, slots := 0, locals := 69 }
abbrev q_s_candidate (D : va_G) (ks : KS) (ad : Nat → Nat) (kk : Nat → ClassId) (V : Vf) (L : Lf) (p0 : Int32) (p1 : Int32) (p2 : Int32) (A : Nat → Prop) : Array Value → State → Outcome → State → Prop := va_Qi (fun (r : Int32) (u : Vf × Lf) => rgd bM u.1 ∧ agr [(0, 0)] [80] V u.1 ∧ u.2 = L) (fun u t => gq D A (mw ad kk ks.1 u.1 u.2) (mty kk) t) A
abbrev r_s_checkNeed : Room := { frames := 3, cells := 0, slots := 0, locals := 69 }
abbrev q_s_checkNeed (D : va_G) (ks : KS) (ad : Nat → Nat) (kk : Nat → ClassId) (V : Vf) (L : Lf) (p0 : Int32) (p1 : Int32) (A : Nat → Prop) : Array Value → State → Outcome → State → Prop := va_Qv (fun (u : Vf × Lf) => rgd bM u.1 ∧ agr [(0, 81)] [80, 82, 83, 84, 86] V u.1 ∧ u.2 = L ∧ ((u.1 0 81).toInt ≤ (V 0 81).toInt + 1) ∧ ((V 0 81).toInt ≤ (u.1 0 81).toInt)) (fun u t => gq D A (mw ad kk ks.1 u.1 u.2) (mty kk) t) A
abbrev r_s_addCycle : Room := { frames := 1, cells := 0, slots := 0, locals := 23 }
abbrev q_s_addCycle (D : va_G) (ks : KS) (ad : Nat → Nat) (kk : Nat → ClassId) (V : Vf) (L : Lf) (p0 : Int32) (jj : Nat) (A : Nat → Prop) : Array Value → State → Outcome → State → Prop := va_Qv (fun (u : Vf × Lf) => rgd bM u.1 ∧ agr [(0, 81)] [82, 83, 84, 85] V u.1 ∧ u.2 = L ∧ ((u.1 0 81).toInt = (V 0 81).toInt + 1)) (fun u t => gq D A (mw ad kk ks.1 u.1 u.2) (mty kk) t) A
set_option maxHeartbeats 4000000 in
set_option maxRecDepth 100000 in
theorem s_addCycle (l : Launch) (D : va_G) (ks : KS) (sz : Nat) (ad : Nat → Nat) (kk : Nat → ClassId) (V : Vf) (L : Lf) (p0 : Int32) (jj : Nat) (hMV : rgd bM V) (rg_p0 : 0 ≤ p0.toInt ∧ p0.toInt ≤ 23) (y2 : (V 0 81).toInt ≤ 999999) (y3 : (V 88 jj).toInt = p0.toInt) (y4 : jj < (V 0 89).toInt)  : Met l yX12_addCycle (Cond.code yX12_addCycle cX12_addCycle 4 none :: GW) r_s_addCycle (va_Pc [.ref (ad 0), .int p0] (gp D ks (mw ad kk ks.1 V L) (mty kk) sz)) (q_s_addCycle D ks ad kk V L p0 jj (va_A (mw ad kk ks.1 V L) sz)) 0 0 (va_A (mw ad kk ks.1 V L) sz) := by
  refine g_met (q_s_addCycle D ks ad kk V L p0 jj) (by decide) (Nat.le_of_ble_eq_true rfl) ?_
  intro p e s m below meth c A ls H locs hx hb hr hml hown hg hlocks hin hnw hgk hP hK hD hS hA hl
  replace hown : s.vm.findClass RX12 = some m.cls := hown
  replace hl : lv_has ls 4 [(0, .ref (ad 0)), (1, .int p0)] := hl
  replace hP : va_P D vwCl (mw ad kk ks.1 V L) H := hP
  replace hD : va_D A (mw ad kk ks.1 V L) := hD
  replace hK : va_K D vwCl (mty kk) s := hK
  have agV : agr [(0, 81)] [82, 83, 84, 85] V V := agr.rf
  have r1 : 0 ≤ ((V 0 81)).toInt ∧ ((V 0 81)).toInt ≤ 1000000 := hMV 0 81
  have r2 : 0 ≤ ((V 88 jj)).toInt ∧ ((V 88 jj)).toInt ≤ 23 := hMV 88 jj
  have r3 : 0 ≤ ((V 0 89)).toInt ∧ ((V 0 89)).toInt ≤ 24 := hMV 0 89
  refine lv_iconst (v := 0) hx hb dX12_addCycle_0 (by decide) ?_
  refine lv_istore_n (lv' := [(2, .int 0), (0, .ref (ad 0)), (1, .int p0)]) hx hb dX12_addCycle_1 rfl hl (by decide) rfl (fun ls hl => ?_)
  have lp5 : ∀ (fulp5 : Nat) (y4 : Int32) (H : Heap) (locs : List Loc) (ls : Array Slot), 0 ≤ y4.toInt ∧ y4.toInt ≤ 23 → y4.toInt ≤ jj → jj - y4.toInt < (fulp5 : Int) → va_P D vwCl (mw ad kk ks.1 V L) H → va_D A (mw ad kk ks.1 V L) → va_S A s.heap H locs → lv_has ls 4 [(2, .int y4), (0, .ref (ad 0)), (1, .int p0)] → W p l e r_s_addCycle s m ([.ref (ad 0), .int p0] : List Value).toArray below meth c H locs 0 0 (MQ below (q_s_addCycle D ks ad kk V L p0 jj A) ([.ref (ad 0), .int p0] : List Value).toArray s 0 0 A) (F0 m 2 ls []) := by
    intro fulp5
    induction fulp5 with
    | zero =>
      intro y4 H locs ls klp5_0 xlp5_0 hn  hP hD hS hl
      exfalso; omega
    | succ fulp5 ihlp5 =>
      intro y4 H locs ls klp5_0 xlp5_0 hn  hP hD hS hl
      refine lv_aload_n hx hb dX12_addCycle_2 rfl (lv_at hl 1 rfl) ?_
      refine va_get (D := D) (ci := 12) (v := .ref (ad 88)) (C := RX12) (T := TX12) (N := 100) hx hb hg inX12 hown hK hP 0 rfl rfl 88 (by decide) (hg _ w1794) (fun _ h9 => h9) rfl dX12_addCycle_3 ?_
      refine lv_iload_n hx hb dX12_addCycle_6 rfl (lv_at hl 0 rfl) ?_
      refine va_iald (D := D) (i := y4) hx hb hK hP 64 63 rfl rfl (i_in (a := y4.toInt) rfl (by omega)) dX12_addCycle_7 ?_
      have r6 : 0 ≤ ((V 88 (Int32.toNatClampNeg y4))).toInt ∧ ((V 88 (Int32.toNatClampNeg y4))).toInt ≤ 23 := hMV 88 (Int32.toNatClampNeg y4)
      have t7 := at_ne (V := V) (c := 88) (x := y4) (n := jj) y3 (by omega)
      refine lv_iload_n hx hb dX12_addCycle_8 rfl (lv_at hl 2 rfl) ?_
      refine lv_icmp_eq (tgt := 18) hx hb dX12_addCycle_9 (by decide) (fun c8 => ?_) (fun c8 => ?_)
      · skip
        have f9 : ((V 88 (Int32.toNatClampNeg y4))).toInt = p0.toInt := b_eq rfl rfl c8
        refine lv_iload_n hx hb dX12_addCycle_18 rfl (lv_at hl 0 rfl) ?_
        refine lv_istore_n (lv' := [(3, .int y4), (2, .int y4), (0, .ref (ad 0)), (1, .int p0)]) hx hb dX12_addCycle_19 rfl hl (by decide) rfl (fun ls hl => ?_)
        have lp12 : ∀ (fulp12 : Nat) (y10 : Int32) (V11 : Vf) (H : Heap) (locs : List Loc) (ls : Array Slot), 0 ≤ y10.toInt ∧ y10.toInt ≤ 24 → y4.toInt ≤ y10.toInt → y10.toInt ≤ (V11 0 89).toInt → (V11 0 89).toInt - y10.toInt < (fulp12 : Int) → agr [] [85] V V11 → rgd bM V11 → va_P D vwCl (mw ad kk ks.1 V11 L) H → va_D A (mw ad kk ks.1 V11 L) → va_S A s.heap H locs → lv_has ls 4 [(3, .int y10), (2, .int y4), (0, .ref (ad 0)), (1, .int p0)] → W p l e r_s_addCycle s m ([.ref (ad 0), .int p0] : List Value).toArray below meth c H locs 0 0 (MQ below (q_s_addCycle D ks ad kk V L p0 jj A) ([.ref (ad 0), .int p0] : List Value).toArray s 0 0 A) (F0 m 20 ls []) := by
          intro fulp12
          induction fulp12 with
          | zero =>
            intro y10 V11 H locs ls klp12_0 xlp12_0 xlp12_1 hn ajV11 hMV11 hP hD hS hl
            exfalso; omega
          | succ fulp12 ihlp12 =>
            intro y10 V11 H locs ls klp12_0 xlp12_0 xlp12_1 hn ajV11 hMV11 hP hD hS hl
            have agV11 : agr [(0, 81)] [82, 83, 84, 85] V V11 := agV.tr ajV11 (by decide) (by decide)
            have pq13 : (V11 0 89).toInt = ((V 0 89)).toInt := congrArg Int32.toInt (ajV11 0 89 rfl)
            refine lv_iload_n hx hb dX12_addCycle_20 rfl (lv_at hl 0 rfl) ?_
            refine lv_aload_n hx hb dX12_addCycle_21 rfl (lv_at hl 2 rfl) ?_
            refine va_get (D := D) (ci := 12) (v := .int (V11 0 89)) (C := RX12) (T := TX12) (N := 100) hx hb hg inX12 hown hK hP 0 rfl rfl 89 (by decide) (hg _ w1795) (fun _ h9 => h9) rfl dX12_addCycle_22 ?_
            refine g_top (v := (V 0 89)) (ajV11 0 89 rfl) ?_
            have J14 : ∀ (H : Heap) (locs : List Loc) (ls : Array Slot), va_P D vwCl (mw ad kk ks.1 V11 L) H → va_D A (mw ad kk ks.1 V11 L) → va_S A s.heap H locs → lv_has ls 4 [(3, .int y10), (2, .int y4), (0, .ref (ad 0)), (1, .int p0)] → W p l e r_s_addCycle s m ([.ref (ad 0), .int p0] : List Value).toArray below meth c H locs 0 0 (MQ below (q_s_addCycle D ks ad kk V L p0 jj A) ([.ref (ad 0), .int p0] : List Value).toArray s 0 0 A) (F0 m 65 ls []) := by
              intro H locs ls  hP hD hS hl
              refine lv_aload_n hx hb dX12_addCycle_65 rfl (lv_at hl 2 rfl) ?_
              refine lv_iconst (v := 3) hx hb dX12_addCycle_66 (by decide) ?_
              refine lv_iload_n hx hb dX12_addCycle_67 rfl (lv_at hl 3 rfl) ?_
              refine lv_aload_n hx hb dX12_addCycle_68 rfl (lv_at hl 2 rfl) ?_
              refine va_get (D := D) (ci := 12) (v := .int (V11 0 89)) (C := RX12) (T := TX12) (N := 100) hx hb hg inX12 hown hK hP 0 rfl rfl 89 (by decide) (hg _ w1795) (fun _ h9 => h9) rfl dX12_addCycle_69 ?_
              refine g_top (v := (V 0 89)) (ajV11 0 89 rfl) ?_
              refine lv_iload_n hx hb dX12_addCycle_72 rfl (lv_at hl 1 rfl) ?_
              refine lv_isub hx hb dX12_addCycle_73 ?_
              refine lv_topi (fun z15 ez15 => ?_)
              have hz15 : z15.toInt = ((V 0 89)).toInt - y4.toInt := i_sub ez15 rfl rfl (by omega)
              have r16 : Int32.toInt 3 = 3 := by decide
              have pq17 : (V11 0 81).toInt = ((V 0 81)).toInt := congrArg Int32.toInt (ajV11 0 81 rfl)
              refine gA_void (gA_runV (As := [.int 3, .int p0, .int z15]) (rest := []) (ci := 12) (q0 := 0) hx hb hml hown hg hP hD hK hS hA hnw hgk (s_addFault l D ks H.size ad kk V11 L 3 p0 z15 hMV11 (by first | omega | ((try (have i_t7 := Imp.go t7 (by omega))); omega)) (show (V11 0 81).toInt ≤ 999999 from by first | omega | ((try (have i_t7 := Imp.go t7 (by omega))); omega))) w2183 w2185 w121 w172 w2186 rfl rfl hdV_yX12_addFault ⟨Nat.le_of_ble_eq_true rfl, Nat.le_of_ble_eq_true rfl⟩ rfl hl.1 rfl (Nat.le_of_ble_eq_true rfl) dX12_addCycle_74 ⟨Nat.le_of_ble_eq_true rfl, Nat.le_of_ble_eq_true rfl⟩) hP hD hK hS hA (fun u19 H locs w20 hP hD hK hS => ?_)
              obtain ⟨V22, L23⟩ := u19
              obtain ⟨hMV22, ajV22, axL23, t21⟩ := w20
              have axL23 : L = L23 := Eq.symm axL23
              subst axL23
              replace hP : va_P D vwCl (mw ad kk ks.1 V22 L) H := hP
              replace hD : va_D A (mw ad kk ks.1 V22 L) := hD
              replace hMV22 : rgd bM V22 := hMV22
              replace ajV22 : agr [(0, 81)] [82, 83, 84] V11 V22 := ajV22
              have agV22 : agr [(0, 81)] [82, 83, 84, 85] V V22 := agV11.tr ajV22 (by decide) (by decide)
              replace t21 : (V22 0 81).toInt = (V11 0 81).toInt + 1 := t21
              have r24 : 0 ≤ ((V22 0 81)).toInt ∧ ((V22 0 81)).toInt ≤ 1000000 := hMV22 0 81
              exact W.vret hx hb hr (fun t ht hW => ⟨⟨(V22, L), rfl, ⟨hMV22, agV22, rfl, (show (V22 0 81).toInt = (V 0 81).toInt + 1 from by first | omega | ((try (have i_t7 := Imp.go t7 (by omega))); omega))⟩, by rw [ht]; exact hP, va_K.moved hW.alike hK, hD⟩, hS.F ht⟩) hS.2.2 dX12_addCycle_77
            refine lv_icmp_ge (tgt := 65) hx hb dX12_addCycle_25 (by decide) (fun c25 => ?_) (fun c25 => ?_)
            · skip
              have f26 : ((V 0 89)).toInt ≤ y10.toInt := b_le rfl rfl c25
              exact J14  H locs ls  hP hD hS (lv_sub hl [0, 1, 2, 3] rfl)
            · skip
              have f27 : y10.toInt < ((V 0 89)).toInt := b_nle rfl rfl c25
              refine lv_aload_n hx hb dX12_addCycle_28 rfl (lv_at hl 2 rfl) ?_
              refine va_get (D := D) (ci := 12) (v := .int (V11 0 81)) (C := RX12) (T := TX12) (N := 100) hx hb hg inX12 hown hK hP 0 rfl rfl 81 (by decide) (hg _ w1787) (fun _ h9 => h9) rfl dX12_addCycle_29 ?_
              refine g_top (v := (V 0 81)) (ajV11 0 81 rfl) ?_
              refine lv_bipush (v := 100) hx hb dX12_addCycle_32 (by decide) ?_
              refine lv_icmp_ge (tgt := 65) hx hb dX12_addCycle_34 (by decide) (fun c28 => ?_) (fun c28 => ?_)
              · skip
                have f29 : 100 ≤ ((V 0 81)).toInt := b_le (by decide) rfl c28
                exact J14  H locs ls  hP hD hS (lv_sub hl [0, 1, 2, 3] rfl)
              · skip
                have f30 : ((V 0 81)).toInt < 100 := b_nle (by decide) rfl c28
                refine lv_aload_n hx hb dX12_addCycle_37 rfl (lv_at hl 2 rfl) ?_
                refine va_get (D := D) (ci := 12) (v := .ref (ad 85)) (C := RX12) (T := TX12) (N := 100) hx hb hg inX12 hown hK hP 0 rfl rfl 85 (by decide) (hg _ w1791) (fun _ h9 => h9) rfl dX12_addCycle_38 ?_
                refine lv_bipush (v := 24) hx hb dX12_addCycle_41 (by decide) ?_
                refine lv_aload_n hx hb dX12_addCycle_43 rfl (lv_at hl 2 rfl) ?_
                refine va_get (D := D) (ci := 12) (v := .int (V11 0 81)) (C := RX12) (T := TX12) (N := 100) hx hb hg inX12 hown hK hP 0 rfl rfl 81 (by decide) (hg _ w1787) (fun _ h9 => h9) rfl dX12_addCycle_44 ?_
                refine g_top (v := (V 0 81)) (ajV11 0 81 rfl) ?_
                refine lv_imul hx hb dX12_addCycle_47 ?_
                refine lv_topi (fun z31 ez31 => ?_)
                have hz31 : z31.toInt = 24 * ((V 0 81)).toInt := i_mul ez31 (by decide) rfl (by omega)
                refine lv_iload_n hx hb dX12_addCycle_48 rfl (lv_at hl 0 rfl) ?_
                refine lv_iadd hx hb dX12_addCycle_49 ?_
                refine lv_topi (fun z32 ez32 => ?_)
                have hz32 : z32.toInt = z31.toInt + y10.toInt := i_add ez32 rfl rfl (by omega)
                refine lv_iload_n hx hb dX12_addCycle_50 rfl (lv_at hl 1 rfl) ?_
                refine lv_isub hx hb dX12_addCycle_51 ?_
                refine lv_topi (fun z33 ez33 => ?_)
                have hz33 : z33.toInt = z32.toInt - y4.toInt := i_sub ez33 rfl rfl (by omega)
                refine lv_aload_n hx hb dX12_addCycle_52 rfl (lv_at hl 2 rfl) ?_
                refine va_get (D := D) (ci := 12) (v := .ref (ad 88)) (C := RX12) (T := TX12) (N := 100) hx hb hg inX12 hown hK hP 0 rfl rfl 88 (by decide) (hg _ w1794) (fun _ h9 => h9) rfl dX12_addCycle_53 ?_
                refine lv_iload_n hx hb dX12_addCycle_56 rfl (lv_at hl 0 rfl) ?_
                refine va_iald (D := D) (i := y10) hx hb hK hP 64 63 rfl rfl (i_in (a := y10.toInt) rfl (by first | omega | ((try (have i_t7 := Imp.go t7 (by omega))); omega))) dX12_addCycle_57 ?_
                refine g_top (v := (V 88 (Int32.toNatClampNeg y10))) (ajV11 88 (Int32.toNatClampNeg y10) rfl) ?_
                have r34 : 0 ≤ ((V 88 (Int32.toNatClampNeg y10))).toInt ∧ ((V 88 (Int32.toNatClampNeg y10))).toInt ≤ 23 := hMV 88 (Int32.toNatClampNeg y10)
                have t35 := at_ne (V := V) (c := 88) (x := y10) (n := jj) y3 (by first | omega | ((try (have i_t7 := Imp.go t7 (by omega))); omega))
                refine va_iast (D := D) (i := z33) (x := (V 88 (Int32.toNatClampNeg y10))) hx hb hK hP hD hS 61 60 rfl rfl (i_in (a := z33.toInt) rfl (by first | omega | ((try (have i_t35 := Imp.go t35 (by omega))); (try (have i_t7 := Imp.go t7 (by omega))); (try (have i_t7 := Imp.go t7 (by omega))); (try (have i_t35 := Imp.go t35 (by omega))); omega))) dX12_addCycle_58 (fun H locs hP hD hS => ?_)
                obtain ⟨V36, hV36⟩ : ∃ z, z = up2 V11 85 (Int32.toNatClampNeg z33) (V 88 (Int32.toNatClampNeg y10)) := ⟨_, rfl⟩
                have hP : va_P D vwCl (mw ad kk ks.1 V36 L) H := by rw [hV36]; exact hP
                have hD : va_D A (mw ad kk ks.1 V36 L) := by rw [hV36]; exact hD
                have hMV36 : rgd bM V36 := hMV11.put hV36 (i_full _)
                have agV36 : agr [(0, 81)] [82, 83, 84, 85] V V36 := agV11.up hV36 rfl
                obtain ⟨z37, ez37⟩ : ∃ y : Int32, y = y10 + 1 := ⟨_, rfl⟩
                have hz37 : z37.toInt = y10.toInt + 1 := i_add ez37 rfl (by decide) (by omega)
                refine lv_iinc (v := z37) (lv' := [(3, .int z37), (2, .int y4), (0, .ref (ad 0)), (1, .int p0)]) hx hb dX12_addCycle_59 hl (k := 0) rfl (by rw [ez37]; rfl) (by decide) rfl (fun ls hl => ?_)
                refine lv_goto (tgt := 20) hx hb dX12_addCycle_62 (by decide) ?_
                have pq38 : (V36 0 89).toInt = ((V 0 89)).toInt := congrArg Int32.toInt ((up2_o hV36 (by decide)).trans (ajV11 0 89 rfl))
                exact ihlp12 z37 V36 H locs ls (by first | omega | ((try (have i_t35 := Imp.go t35 (by omega))); (try (have i_t7 := Imp.go t7 (by omega))); (try (have i_t7 := Imp.go t7 (by omega))); (try (have i_t35 := Imp.go t35 (by omega))); omega)) (show y4.toInt ≤ z37.toInt from by first | omega | ((try (have i_t35 := Imp.go t35 (by omega))); (try (have i_t7 := Imp.go t7 (by omega))); (try (have i_t7 := Imp.go t7 (by omega))); (try (have i_t35 := Imp.go t35 (by omega))); omega)) (show z37.toInt ≤ (V36 0 89).toInt from by first | omega | ((try (have i_t35 := Imp.go t35 (by omega))); (try (have i_t7 := Imp.go t7 (by omega))); (try (have i_t7 := Imp.go t7 (by omega))); (try (have i_t35 := Imp.go t35 (by omega))); omega)) (by first | omega | ((try (have i_t35 := Imp.go t35 (by omega))); (try (have i_t7 := Imp.go t7 (by omega))); (try (have i_t7 := Imp.go t7 (by omega))); (try (have i_t35 := Imp.go t35 (by omega))); omega)) (agr.up (agr.tr agr.rf ajV11 (by decide) (by decide)) hV36 rfl) hMV36 hP hD hS (lv_sub hl [0, 1, 2, 3] rfl)
        exact lp12 (((V 0 89).toInt - y4.toInt + 1 : Int).toNat) y4 V H locs ls (by first | omega | ((try (have i_t7 := Imp.go t7 (by omega))); omega)) (show y4.toInt ≤ y4.toInt from by first | omega | ((try (have i_t7 := Imp.go t7 (by omega))); omega)) (show y4.toInt ≤ (V 0 89).toInt from by first | omega | ((try (have i_t7 := Imp.go t7 (by omega))); omega)) (by first | omega | ((try (have i_t7 := Imp.go t7 (by omega))); omega)) agr.rf hMV hP hD hS (lv_sub hl [0, 1, 2, 3] rfl)
      · skip
        have f39 : ((V 88 (Int32.toNatClampNeg y4))).toInt ≠ p0.toInt := b_neq rfl rfl c8
        obtain ⟨z40, ez40⟩ : ∃ y : Int32, y = y4 + 1 := ⟨_, rfl⟩
        have hz40 : z40.toInt = y4.toInt + 1 := i_add ez40 rfl (by decide) (by omega)
        refine lv_iinc (v := z40) (lv' := [(2, .int z40), (0, .ref (ad 0)), (1, .int p0)]) hx hb dX12_addCycle_12 hl (k := 0) rfl (by rw [ez40]; rfl) (by decide) rfl (fun ls hl => ?_)
        refine lv_goto (tgt := 2) hx hb dX12_addCycle_15 (by decide) ?_
        exact ihlp5 z40 H locs ls (by first | omega | ((try (have i_t7 := Imp.go t7 (by omega))); omega)) (show z40.toInt ≤ jj from by first | omega | ((try (have i_t7 := Imp.go t7 (by omega))); omega)) (by first | omega | ((try (have i_t7 := Imp.go t7 (by omega))); omega)) hP hD hS (lv_sub hl [0, 1, 2] rfl)
  have r41 : Int32.toInt 0 = 0 := by decide
  exact lp5 ((jj - (Int32.toInt 0) + 1 : Int).toNat) 0 H locs ls (by decide) (show (Int32.toInt 0) ≤ jj from by omega) (by omega) hP hD hS (lv_sub hl [0, 1, 2] rfl)
