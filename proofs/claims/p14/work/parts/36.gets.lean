theorem w2254 : Cond.code yX12_objectAt cX12_objectAt 5 (some .int) ∈ GW := gw_k tk9_9 179 (rfl) rfl
theorem w2251 : Cond.methodLink RX12 487 yX12_objectAt ∈ GW := gw_k tk9_9 176 (by decide +kernel) rfl
theorem w2253 : Cond.instanceMethod yX12_objectAt ∈ GW := gw_k tk9_9 178 (by decide +kernel) rfl
theorem w132 : Cond.selects RX12 yX12_objectAt yX12_objectAt ∈ GW := gw_mem 132 (by decide +kernel) rfl
theorem hdV_yX12_objectAt : yX12_objectAt.cls = RX12 ∧ yX12_objectAt.cls ≠ "java/lang/invoke/MethodHandle" ∧ yX12_objectAt.cls ≠ "java/lang/invoke/VarHandle" ∧ (parseMethodDescriptor yX12_objectAt.desc).map (fun d => d.parameters.length) = some 2 := by decide +kernel
theorem w2258 : Cond.code yX12_makes cX12_makes 6 (some .int) ∈ GW := gw_k tk9_9 183 (rfl) rfl
theorem w2255 : Cond.methodLink RX12 493 yX12_makes ∈ GW := gw_k tk9_9 180 (by decide +kernel) rfl
theorem w2257 : Cond.instanceMethod yX12_makes ∈ GW := gw_k tk9_9 182 (by decide +kernel) rfl
theorem w133 : Cond.selects RX12 yX12_makes yX12_makes ∈ GW := gw_mem 133 (by decide +kernel) rfl
theorem hdV_yX12_makes : yX12_makes.cls = RX12 ∧ yX12_makes.cls ≠ "java/lang/invoke/MethodHandle" ∧ yX12_makes.cls ≠ "java/lang/invoke/VarHandle" ∧ (parseMethodDescriptor yX12_makes.desc).map (fun d => d.parameters.length) = some 3 := by decide +kernel
theorem w1798 : Cond.fieldLink RX12 490 "WiringHouseModel" "got" "I" ∈ GW := gw_k tk9_7 203 (by decide +kernel) rfl
theorem dk9_dX12_gets_0_0 : dOk cX12_gets [(0, .aload_n 0, 1), (1, .iload_n 1, 1), (2, .iload_n 2, 1), (3, .invokevirtual 481, 3), (6, .istore_n 3, 1), (7, .iload_n 3, 1), (8, .ifCond .ge 10, 3), (18, .aload_n 0, 1), (19, .getfield 71, 3), (22, .bipush 24, 2), (24, .aload_n 0, 1), (25, .getfield 286, 3), (28, .imul, 1), (29, .iload_n 1, 1), (30, .iadd, 1), (31, .iaload, 1), (32, .iconst 3, 1), (33, .if_icmp .ne 7, 3), (40, .iconst 0, 1), (41, .istore 4, 2), (43, .aload_n 0, 1), (44, .getfield 161, 3), (47, .bipush 24, 2), (49, .iload_n 3, 1)] = true ∧ dOk cX12_gets [(50, .imul, 1), (51, .iload_n 1, 1), (52, .iadd, 1), (53, .baload, 1), (54, .ifCond .eq 10, 3), (64, .iload 4, 2), (66, .ifCond .eq 7, 3), (73, .aload_n 0, 1), (74, .iload_n 1, 1), (75, .iload_n 3, 1), (76, .invokevirtual 487, 3), (79, .istore 5, 2), (81, .iload 5, 2), (83, .ifCond .lt 20, 3), (103, .iload 5, 2), (105, .ifCond .lt 11, 3), (116, .aload_n 0, 1), (117, .iload_n 1, 1), (118, .iload_n 3, 1), (119, .iload 4, 2), (121, .invokevirtual 493, 3), (124, .ireturn, 1), (86, .aload_n 0, 1), (87, .getfield 170, 3)] = true ∧ dOk cX12_gets [(90, .iload 5, 2), (92, .iaload, 1), (93, .ifCond .ne 10, 3), (108, .aload_n 0, 1), (109, .iload 5, 2), (111, .putfield 490, 3), (114, .iconst 0, 1), (115, .ireturn, 1), (96, .aload_n 0, 1), (97, .bipush 12, 2), (99, .invokevirtual 484, 3), (102, .ireturn, 1), (57, .aload_n 0, 1), (58, .bipush 15, 2), (60, .invokevirtual 484, 3), (63, .ireturn, 1), (36, .iconst 1, 1), (37, .goto 4, 3), (69, .iconst (-1), 1), (70, .goto 9, 3), (11, .aload_n 0, 1), (12, .bipush 14, 2), (14, .invokevirtual 484, 3), (17, .ireturn, 1)] = true := by decide +kernel
theorem dX12_gets_0 : decode cX12_gets 0 = .ok (.aload_n 0, 1) := dr9 dk9_dX12_gets_0_0.1 0 (0, .aload_n 0, 1) rfl
theorem dX12_gets_1 : decode cX12_gets 1 = .ok (.iload_n 1, 1) := dr9 dk9_dX12_gets_0_0.1 1 (1, .iload_n 1, 1) rfl
theorem dX12_gets_2 : decode cX12_gets 2 = .ok (.iload_n 2, 1) := dr9 dk9_dX12_gets_0_0.1 2 (2, .iload_n 2, 1) rfl
theorem dX12_gets_3 : decode cX12_gets 3 = .ok (.invokevirtual 481, 3) := dr9 dk9_dX12_gets_0_0.1 3 (3, .invokevirtual 481, 3) rfl
theorem dX12_gets_6 : decode cX12_gets 6 = .ok (.istore_n 3, 1) := dr9 dk9_dX12_gets_0_0.1 4 (6, .istore_n 3, 1) rfl
theorem dX12_gets_7 : decode cX12_gets 7 = .ok (.iload_n 3, 1) := dr9 dk9_dX12_gets_0_0.1 5 (7, .iload_n 3, 1) rfl
theorem dX12_gets_8 : decode cX12_gets 8 = .ok (.ifCond .ge 10, 3) := dr9 dk9_dX12_gets_0_0.1 6 (8, .ifCond .ge 10, 3) rfl
theorem dX12_gets_18 : decode cX12_gets 18 = .ok (.aload_n 0, 1) := dr9 dk9_dX12_gets_0_0.1 7 (18, .aload_n 0, 1) rfl
theorem dX12_gets_19 : decode cX12_gets 19 = .ok (.getfield 71, 3) := dr9 dk9_dX12_gets_0_0.1 8 (19, .getfield 71, 3) rfl
theorem dX12_gets_22 : decode cX12_gets 22 = .ok (.bipush 24, 2) := dr9 dk9_dX12_gets_0_0.1 9 (22, .bipush 24, 2) rfl
theorem dX12_gets_24 : decode cX12_gets 24 = .ok (.aload_n 0, 1) := dr9 dk9_dX12_gets_0_0.1 10 (24, .aload_n 0, 1) rfl
theorem dX12_gets_25 : decode cX12_gets 25 = .ok (.getfield 286, 3) := dr9 dk9_dX12_gets_0_0.1 11 (25, .getfield 286, 3) rfl
theorem dX12_gets_28 : decode cX12_gets 28 = .ok (.imul, 1) := dr9 dk9_dX12_gets_0_0.1 12 (28, .imul, 1) rfl
theorem dX12_gets_29 : decode cX12_gets 29 = .ok (.iload_n 1, 1) := dr9 dk9_dX12_gets_0_0.1 13 (29, .iload_n 1, 1) rfl
theorem dX12_gets_30 : decode cX12_gets 30 = .ok (.iadd, 1) := dr9 dk9_dX12_gets_0_0.1 14 (30, .iadd, 1) rfl
theorem dX12_gets_31 : decode cX12_gets 31 = .ok (.iaload, 1) := dr9 dk9_dX12_gets_0_0.1 15 (31, .iaload, 1) rfl
theorem dX12_gets_32 : decode cX12_gets 32 = .ok (.iconst 3, 1) := dr9 dk9_dX12_gets_0_0.1 16 (32, .iconst 3, 1) rfl
theorem dX12_gets_33 : decode cX12_gets 33 = .ok (.if_icmp .ne 7, 3) := dr9 dk9_dX12_gets_0_0.1 17 (33, .if_icmp .ne 7, 3) rfl
theorem dX12_gets_40 : decode cX12_gets 40 = .ok (.iconst 0, 1) := dr9 dk9_dX12_gets_0_0.1 18 (40, .iconst 0, 1) rfl
theorem dX12_gets_41 : decode cX12_gets 41 = .ok (.istore 4, 2) := dr9 dk9_dX12_gets_0_0.1 19 (41, .istore 4, 2) rfl
theorem dX12_gets_43 : decode cX12_gets 43 = .ok (.aload_n 0, 1) := dr9 dk9_dX12_gets_0_0.1 20 (43, .aload_n 0, 1) rfl
theorem dX12_gets_44 : decode cX12_gets 44 = .ok (.getfield 161, 3) := dr9 dk9_dX12_gets_0_0.1 21 (44, .getfield 161, 3) rfl
theorem dX12_gets_47 : decode cX12_gets 47 = .ok (.bipush 24, 2) := dr9 dk9_dX12_gets_0_0.1 22 (47, .bipush 24, 2) rfl
theorem dX12_gets_49 : decode cX12_gets 49 = .ok (.iload_n 3, 1) := dr9 dk9_dX12_gets_0_0.1 23 (49, .iload_n 3, 1) rfl
theorem dX12_gets_50 : decode cX12_gets 50 = .ok (.imul, 1) := dr9 dk9_dX12_gets_0_0.2.1 0 (50, .imul, 1) rfl
theorem dX12_gets_51 : decode cX12_gets 51 = .ok (.iload_n 1, 1) := dr9 dk9_dX12_gets_0_0.2.1 1 (51, .iload_n 1, 1) rfl
theorem dX12_gets_52 : decode cX12_gets 52 = .ok (.iadd, 1) := dr9 dk9_dX12_gets_0_0.2.1 2 (52, .iadd, 1) rfl
theorem dX12_gets_53 : decode cX12_gets 53 = .ok (.baload, 1) := dr9 dk9_dX12_gets_0_0.2.1 3 (53, .baload, 1) rfl
theorem dX12_gets_54 : decode cX12_gets 54 = .ok (.ifCond .eq 10, 3) := dr9 dk9_dX12_gets_0_0.2.1 4 (54, .ifCond .eq 10, 3) rfl
theorem dX12_gets_64 : decode cX12_gets 64 = .ok (.iload 4, 2) := dr9 dk9_dX12_gets_0_0.2.1 5 (64, .iload 4, 2) rfl
theorem dX12_gets_66 : decode cX12_gets 66 = .ok (.ifCond .eq 7, 3) := dr9 dk9_dX12_gets_0_0.2.1 6 (66, .ifCond .eq 7, 3) rfl
theorem dX12_gets_73 : decode cX12_gets 73 = .ok (.aload_n 0, 1) := dr9 dk9_dX12_gets_0_0.2.1 7 (73, .aload_n 0, 1) rfl
theorem dX12_gets_74 : decode cX12_gets 74 = .ok (.iload_n 1, 1) := dr9 dk9_dX12_gets_0_0.2.1 8 (74, .iload_n 1, 1) rfl
theorem dX12_gets_75 : decode cX12_gets 75 = .ok (.iload_n 3, 1) := dr9 dk9_dX12_gets_0_0.2.1 9 (75, .iload_n 3, 1) rfl
theorem dX12_gets_76 : decode cX12_gets 76 = .ok (.invokevirtual 487, 3) := dr9 dk9_dX12_gets_0_0.2.1 10 (76, .invokevirtual 487, 3) rfl
theorem dX12_gets_79 : decode cX12_gets 79 = .ok (.istore 5, 2) := dr9 dk9_dX12_gets_0_0.2.1 11 (79, .istore 5, 2) rfl
theorem dX12_gets_81 : decode cX12_gets 81 = .ok (.iload 5, 2) := dr9 dk9_dX12_gets_0_0.2.1 12 (81, .iload 5, 2) rfl
theorem dX12_gets_83 : decode cX12_gets 83 = .ok (.ifCond .lt 20, 3) := dr9 dk9_dX12_gets_0_0.2.1 13 (83, .ifCond .lt 20, 3) rfl
theorem dX12_gets_103 : decode cX12_gets 103 = .ok (.iload 5, 2) := dr9 dk9_dX12_gets_0_0.2.1 14 (103, .iload 5, 2) rfl
theorem dX12_gets_105 : decode cX12_gets 105 = .ok (.ifCond .lt 11, 3) := dr9 dk9_dX12_gets_0_0.2.1 15 (105, .ifCond .lt 11, 3) rfl
theorem dX12_gets_116 : decode cX12_gets 116 = .ok (.aload_n 0, 1) := dr9 dk9_dX12_gets_0_0.2.1 16 (116, .aload_n 0, 1) rfl
theorem dX12_gets_117 : decode cX12_gets 117 = .ok (.iload_n 1, 1) := dr9 dk9_dX12_gets_0_0.2.1 17 (117, .iload_n 1, 1) rfl
theorem dX12_gets_118 : decode cX12_gets 118 = .ok (.iload_n 3, 1) := dr9 dk9_dX12_gets_0_0.2.1 18 (118, .iload_n 3, 1) rfl
theorem dX12_gets_119 : decode cX12_gets 119 = .ok (.iload 4, 2) := dr9 dk9_dX12_gets_0_0.2.1 19 (119, .iload 4, 2) rfl
theorem dX12_gets_121 : decode cX12_gets 121 = .ok (.invokevirtual 493, 3) := dr9 dk9_dX12_gets_0_0.2.1 20 (121, .invokevirtual 493, 3) rfl
theorem dX12_gets_124 : decode cX12_gets 124 = .ok (.ireturn, 1) := dr9 dk9_dX12_gets_0_0.2.1 21 (124, .ireturn, 1) rfl
theorem dX12_gets_86 : decode cX12_gets 86 = .ok (.aload_n 0, 1) := dr9 dk9_dX12_gets_0_0.2.1 22 (86, .aload_n 0, 1) rfl
theorem dX12_gets_87 : decode cX12_gets 87 = .ok (.getfield 170, 3) := dr9 dk9_dX12_gets_0_0.2.1 23 (87, .getfield 170, 3) rfl
theorem dX12_gets_90 : decode cX12_gets 90 = .ok (.iload 5, 2) := dr9 dk9_dX12_gets_0_0.2.2 0 (90, .iload 5, 2) rfl
theorem dX12_gets_92 : decode cX12_gets 92 = .ok (.iaload, 1) := dr9 dk9_dX12_gets_0_0.2.2 1 (92, .iaload, 1) rfl
theorem dX12_gets_93 : decode cX12_gets 93 = .ok (.ifCond .ne 10, 3) := dr9 dk9_dX12_gets_0_0.2.2 2 (93, .ifCond .ne 10, 3) rfl
theorem dX12_gets_108 : decode cX12_gets 108 = .ok (.aload_n 0, 1) := dr9 dk9_dX12_gets_0_0.2.2 3 (108, .aload_n 0, 1) rfl
theorem dX12_gets_109 : decode cX12_gets 109 = .ok (.iload 5, 2) := dr9 dk9_dX12_gets_0_0.2.2 4 (109, .iload 5, 2) rfl
theorem dX12_gets_111 : decode cX12_gets 111 = .ok (.putfield 490, 3) := dr9 dk9_dX12_gets_0_0.2.2 5 (111, .putfield 490, 3) rfl
theorem dX12_gets_114 : decode cX12_gets 114 = .ok (.iconst 0, 1) := dr9 dk9_dX12_gets_0_0.2.2 6 (114, .iconst 0, 1) rfl
theorem dX12_gets_115 : decode cX12_gets 115 = .ok (.ireturn, 1) := dr9 dk9_dX12_gets_0_0.2.2 7 (115, .ireturn, 1) rfl
theorem dX12_gets_96 : decode cX12_gets 96 = .ok (.aload_n 0, 1) := dr9 dk9_dX12_gets_0_0.2.2 8 (96, .aload_n 0, 1) rfl
theorem dX12_gets_97 : decode cX12_gets 97 = .ok (.bipush 12, 2) := dr9 dk9_dX12_gets_0_0.2.2 9 (97, .bipush 12, 2) rfl
theorem dX12_gets_99 : decode cX12_gets 99 = .ok (.invokevirtual 484, 3) := dr9 dk9_dX12_gets_0_0.2.2 10 (99, .invokevirtual 484, 3) rfl
theorem dX12_gets_102 : decode cX12_gets 102 = .ok (.ireturn, 1) := dr9 dk9_dX12_gets_0_0.2.2 11 (102, .ireturn, 1) rfl
theorem dX12_gets_57 : decode cX12_gets 57 = .ok (.aload_n 0, 1) := dr9 dk9_dX12_gets_0_0.2.2 12 (57, .aload_n 0, 1) rfl
theorem dX12_gets_58 : decode cX12_gets 58 = .ok (.bipush 15, 2) := dr9 dk9_dX12_gets_0_0.2.2 13 (58, .bipush 15, 2) rfl
theorem dX12_gets_60 : decode cX12_gets 60 = .ok (.invokevirtual 484, 3) := dr9 dk9_dX12_gets_0_0.2.2 14 (60, .invokevirtual 484, 3) rfl
theorem dX12_gets_63 : decode cX12_gets 63 = .ok (.ireturn, 1) := dr9 dk9_dX12_gets_0_0.2.2 15 (63, .ireturn, 1) rfl
theorem dX12_gets_36 : decode cX12_gets 36 = .ok (.iconst 1, 1) := dr9 dk9_dX12_gets_0_0.2.2 16 (36, .iconst 1, 1) rfl
theorem dX12_gets_37 : decode cX12_gets 37 = .ok (.goto 4, 3) := dr9 dk9_dX12_gets_0_0.2.2 17 (37, .goto 4, 3) rfl
theorem dX12_gets_69 : decode cX12_gets 69 = .ok (.iconst (-1), 1) := dr9 dk9_dX12_gets_0_0.2.2 18 (69, .iconst (-1), 1) rfl
theorem dX12_gets_70 : decode cX12_gets 70 = .ok (.goto 9, 3) := dr9 dk9_dX12_gets_0_0.2.2 19 (70, .goto 9, 3) rfl
theorem dX12_gets_11 : decode cX12_gets 11 = .ok (.aload_n 0, 1) := dr9 dk9_dX12_gets_0_0.2.2 20 (11, .aload_n 0, 1) rfl
theorem dX12_gets_12 : decode cX12_gets 12 = .ok (.bipush 14, 2) := dr9 dk9_dX12_gets_0_0.2.2 21 (12, .bipush 14, 2) rfl
theorem dX12_gets_14 : decode cX12_gets 14 = .ok (.invokevirtual 484, 3) := dr9 dk9_dX12_gets_0_0.2.2 22 (14, .invokevirtual 484, 3) rfl
theorem dX12_gets_17 : decode cX12_gets 17 = .ok (.ireturn, 1) := dr9 dk9_dX12_gets_0_0.2.2 23 (17, .ireturn, 1) rfl
abbrev q_s_makes (D : va_G) (ks : KS) (ad : Nat → Nat) (kk : Nat → ClassId) (V : Vf) (L : Lf) (p0 : Int32) (p1 : Int32) (p2 : Int32) (A : Nat → Prop) : Array Value → State → Outcome → State → Prop := va_Qi (fun (r : Int32) (u : Vf × Lf) => rgd bM u.1 ∧ agr [(0, 60), (0, 65), (0, 68), (0, 69), (0, 73), (0, 76), (0, 90), (0, 91), (0, 92), (0, 93), (0, 95), (0, 96), (0, 98)] [59, 61, 62, 63, 64, 66, 67, 74, 75, 77, 78, 79, 80, 94, 97] V u.1 ∧ u.2 = L ∧ (0 ≤ r.toInt ∧ r.toInt ≤ 2) ∧ ((u.1 0 93).toInt = (V 0 93).toInt) ∧ ((u.1 0 98).toInt = (V 0 98).toInt) ∧ ((V 0 60).toInt ≤ (u.1 0 60).toInt) ∧ ((V 0 65).toInt ≤ (u.1 0 65).toInt) ∧ ((u.1 0 65).toInt - (V 0 65).toInt ≤ (u.1 0 60).toInt - (V 0 60).toInt) ∧ ((u.1 0 73).toInt + (u.1 0 95).toInt - (u.1 0 65).toInt ≤ (V 0 73).toInt + (V 0 95).toInt - (V 0 65).toInt) ∧ ((V 0 73).toInt ≤ (u.1 0 73).toInt) ∧ ((V 0 69).toInt ≤ (u.1 0 69).toInt) ∧ ((V 0 95).toInt ≤ (u.1 0 95).toInt) ∧ ((u.1 0 95).toInt - (V 0 95).toInt ≤ (u.1 0 65).toInt - (V 0 65).toInt) ∧ ((u.1 0 76).toInt - (u.1 0 69).toInt - (u.1 0 73).toInt ≤ (V 0 76).toInt - (V 0 69).toInt - (V 0 73).toInt) ∧ (Imp (r.toInt = 0) (0 ≤ (u.1 0 92).toInt ∧ (u.1 0 92).toInt < (u.1 0 60).toInt)) ∧ (RT u.1) ∧ (FRM V u.1 (-1))) (fun u t => gq D A (mw ad kk ks.1 u.1 u.2) (mty kk) t) A
def K_s_makes (l : Launch) (D : va_G) (ks : KS) (d1 d2 : Nat) : Prop := ∀ (sz : Nat) (ad : Nat → Nat) (kk : Nat → ClassId) (V : Vf) (L : Lf) (p0 : Int32) (p1 : Int32) (p2 : Int32) (hMV : rgd bM V) (rg_p0 : 0 ≤ p0.toInt ∧ p0.toInt ≤ 23) (rg_p1 : 0 ≤ p1.toInt ∧ p1.toInt ≤ 39) (rg_p2 : 0 ≤ p2.toInt ∧ p2.toInt ≤ 1) (rt : RT V) (n1 : (V 0 65).toInt ≤ (V 0 60).toInt) (n2 : (V 0 95).toInt ≤ (V 0 65).toInt) (n3 : (V 0 73).toInt + (V 0 95).toInt - (V 0 65).toInt ≤ 999000) (n4 : (V 0 76).toInt - (V 0 69).toInt - (V 0 73).toInt ≤ 1000000000) (n5 : 300 - (V 0 60).toInt ≤ (d1 : Int)) (n6 : 10 - (V 0 93).toInt ≤ (d2 : Int)) (n7 : (V 0 98).toInt + 400 * (d2 : Int) + 30 ≤ 19000) (tq : th V (Int32.toNatClampNeg p0)) , Met l yX12_makes (Cond.code yX12_makes cX12_makes 6 (some .int) :: GW) (rK2 (4 * d1 + 40 * d2 + 14) (100 * d1 + 1000 * d2 + 560)) (va_Pc [.ref (ad 0), .int p0, .int p1, .int p2] (gp D ks (mw ad kk ks.1 V L) (mty kk) sz)) (q_s_makes D ks ad kk V L p0 p1 p2 (va_A (mw ad kk ks.1 V L) sz)) 0 0 (va_A (mw ad kk ks.1 V L) sz)
abbrev q_s_gets (D : va_G) (ks : KS) (ad : Nat → Nat) (kk : Nat → ClassId) (V : Vf) (L : Lf) (p0 : Int32) (p1 : Int32) (A : Nat → Prop) : Array Value → State → Outcome → State → Prop := va_Qi (fun (r : Int32) (u : Vf × Lf) => rgd bM u.1 ∧ agr [(0, 60), (0, 65), (0, 68), (0, 69), (0, 73), (0, 76), (0, 90), (0, 91), (0, 92), (0, 93), (0, 95), (0, 96), (0, 98)] [59, 61, 62, 63, 64, 66, 67, 74, 75, 77, 78, 79, 80, 94, 97] V u.1 ∧ u.2 = L ∧ (0 ≤ r.toInt ∧ r.toInt ≤ 2) ∧ ((u.1 0 93).toInt = (V 0 93).toInt) ∧ ((u.1 0 98).toInt = (V 0 98).toInt) ∧ ((V 0 60).toInt ≤ (u.1 0 60).toInt) ∧ ((V 0 65).toInt ≤ (u.1 0 65).toInt) ∧ ((u.1 0 65).toInt - (V 0 65).toInt ≤ (u.1 0 60).toInt - (V 0 60).toInt) ∧ ((u.1 0 73).toInt + (u.1 0 95).toInt - (u.1 0 65).toInt ≤ (V 0 73).toInt + (V 0 95).toInt - (V 0 65).toInt) ∧ ((V 0 73).toInt ≤ (u.1 0 73).toInt) ∧ ((V 0 69).toInt ≤ (u.1 0 69).toInt) ∧ ((V 0 95).toInt ≤ (u.1 0 95).toInt) ∧ ((u.1 0 95).toInt - (V 0 95).toInt ≤ (u.1 0 65).toInt - (V 0 65).toInt) ∧ ((u.1 0 76).toInt - (u.1 0 69).toInt - (u.1 0 73).toInt ≤ (V 0 76).toInt - (V 0 69).toInt - (V 0 73).toInt) ∧ (Imp (r.toInt = 0) (0 ≤ (u.1 0 92).toInt ∧ (u.1 0 92).toInt < (u.1 0 60).toInt)) ∧ (RT u.1) ∧ (FRM V u.1 (-1))) (fun u t => gq D A (mw ad kk ks.1 u.1 u.2) (mty kk) t) A
def K_s_gets (l : Launch) (D : va_G) (ks : KS) (d1 d2 : Nat) : Prop := ∀ (sz : Nat) (ad : Nat → Nat) (kk : Nat → ClassId) (V : Vf) (L : Lf) (p0 : Int32) (p1 : Int32) (hMV : rgd bM V) (rg_p0 : 0 ≤ p0.toInt ∧ p0.toInt ≤ 23) (rg_p1 : 0 ≤ p1.toInt ∧ p1.toInt ≤ 39) (rt : RT V) (n1 : (V 0 65).toInt ≤ (V 0 60).toInt) (n2 : (V 0 95).toInt ≤ (V 0 65).toInt) (n3 : (V 0 73).toInt + (V 0 95).toInt - (V 0 65).toInt ≤ 999000) (n4 : (V 0 76).toInt - (V 0 69).toInt - (V 0 73).toInt ≤ 1000000000) (n5 : 300 - (V 0 60).toInt ≤ (d1 : Int)) (n6 : 10 - (V 0 93).toInt ≤ (d2 : Int)) (n7 : (V 0 98).toInt + 400 * (d2 : Int) + 30 ≤ 19000) (tq : th V (Int32.toNatClampNeg p0)) , Met l yX12_gets (Cond.code yX12_gets cX12_gets 6 (some .int) :: GW) (rK2 (4 * d1 + 40 * d2 + 15) (100 * d1 + 1000 * d2 + 590)) (va_Pc [.ref (ad 0), .int p0, .int p1] (gp D ks (mw ad kk ks.1 V L) (mty kk) sz)) (q_s_gets D ks ad kk V L p0 p1 (va_A (mw ad kk ks.1 V L) sz)) 0 0 (va_A (mw ad kk ks.1 V L) sz)