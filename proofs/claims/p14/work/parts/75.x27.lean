theorem w1358 : Cond.code yJ7_copyOf_59c91 cJ7_copyOf_59c91 3 (some (.array .int)) ∈ GW := gw_k tk9_6 3 (rfl) rfl
theorem w1356 : Cond.methodLink RX8 83 yJ7_copyOf_59c91 ∈ GW := gw_k tk9_6 1 (by decide +kernel) rfl
theorem w1357 : Cond.static yJ7_copyOf_59c91 ∈ GW := gw_k tk9_6 2 (by decide +kernel) rfl
theorem hdS_yJ7_copyOf_59c91 : yJ7_copyOf_59c91.cls ≠ "java/lang/invoke/MethodHandle" ∧ yJ7_copyOf_59c91.cls ≠ "java/lang/invoke/VarHandle" ∧ (parseMethodDescriptor yJ7_copyOf_59c91.desc).map (fun d => d.parameters.length) = some 2 := by decide +kernel
theorem dk9_dX8_join_0_0 : dOk cX8_join [(0, .aload_n 0, 1), (1, .getfield 69, 3), (4, .aload_n 0, 1), (5, .getfield 43, 3), (8, .arraylength, 1), (9, .if_icmp .lt 37, 3), (46, .aload_n 0, 1), (47, .getfield 43, 3), (50, .aload_n 0, 1), (51, .getfield 69, 3), (54, .iload_n 3, 1), (55, .iastore, 1), (56, .aload_n 0, 1), (57, .getfield 46, 3), (60, .aload_n 0, 1), (61, .getfield 69, 3), (64, .iconst (-1), 1), (65, .iastore, 1), (66, .aload_n 0, 1), (67, .getfield 40, 3), (70, .iload_n 1, 1), (71, .bipush 8, 2), (73, .imul, 1), (74, .iload_n 2, 1)] = true ∧ dOk cX8_join [(75, .iadd, 1), (76, .iaload, 1), (77, .istore 4, 2), (79, .iload 4, 2), (81, .iconst (-1), 1), (82, .if_icmp .ne 21, 3), (103, .iconst 0, 1), (104, .istore 5, 2), (106, .iload 5, 2), (108, .bipush 24, 2), (110, .if_icmp .ge 29, 3), (139, .aload_n 0, 1), (140, .getfield 46, 3), (143, .iload 4, 2), (145, .aload_n 0, 1), (146, .getfield 69, 3), (149, .iastore, 1), (150, .aload_n 0, 1), (151, .dup, 1), (152, .getfield 69, 3), (155, .iconst 1, 1), (156, .iadd, 1), (157, .putfield 69, 3), (160, .return_, 1)] = true ∧ dOk cX8_join [(113, .aload_n 0, 1), (114, .getfield 46, 3), (117, .iload 4, 2), (119, .iaload, 1), (120, .iconst (-1), 1), (121, .if_icmp .eq 18, 3), (124, .aload_n 0, 1), (125, .getfield 46, 3), (128, .iload 4, 2), (130, .iaload, 1), (131, .istore 4, 2), (133, .iinc 5 1, 3), (136, .goto (-30), 3), (85, .aload_n 0, 1), (86, .getfield 40, 3), (89, .iload_n 1, 1), (90, .bipush 8, 2), (92, .imul, 1), (93, .iload_n 2, 1), (94, .iadd, 1), (95, .aload_n 0, 1), (96, .getfield 69, 3), (99, .iastore, 1), (100, .goto 50, 3)] = true ∧ dOk cX8_join [(12, .aload_n 0, 1), (13, .aload_n 0, 1), (14, .getfield 43, 3), (17, .aload_n 0, 1), (18, .getfield 69, 3), (21, .iconst 2, 1), (22, .imul, 1), (23, .invokestatic 83, 3), (26, .putfield 43, 3), (29, .aload_n 0, 1), (30, .aload_n 0, 1), (31, .getfield 46, 3), (34, .aload_n 0, 1), (35, .getfield 69, 3), (38, .iconst 2, 1), (39, .imul, 1), (40, .invokestatic 83, 3), (43, .putfield 46, 3)] = true := by decide +kernel
theorem dX8_join_0 : decode cX8_join 0 = .ok (.aload_n 0, 1) := dr9 dk9_dX8_join_0_0.1 0 (0, .aload_n 0, 1) rfl
theorem dX8_join_1 : decode cX8_join 1 = .ok (.getfield 69, 3) := dr9 dk9_dX8_join_0_0.1 1 (1, .getfield 69, 3) rfl
theorem dX8_join_4 : decode cX8_join 4 = .ok (.aload_n 0, 1) := dr9 dk9_dX8_join_0_0.1 2 (4, .aload_n 0, 1) rfl
theorem dX8_join_5 : decode cX8_join 5 = .ok (.getfield 43, 3) := dr9 dk9_dX8_join_0_0.1 3 (5, .getfield 43, 3) rfl
theorem dX8_join_8 : decode cX8_join 8 = .ok (.arraylength, 1) := dr9 dk9_dX8_join_0_0.1 4 (8, .arraylength, 1) rfl
theorem dX8_join_9 : decode cX8_join 9 = .ok (.if_icmp .lt 37, 3) := dr9 dk9_dX8_join_0_0.1 5 (9, .if_icmp .lt 37, 3) rfl
theorem dX8_join_46 : decode cX8_join 46 = .ok (.aload_n 0, 1) := dr9 dk9_dX8_join_0_0.1 6 (46, .aload_n 0, 1) rfl
theorem dX8_join_47 : decode cX8_join 47 = .ok (.getfield 43, 3) := dr9 dk9_dX8_join_0_0.1 7 (47, .getfield 43, 3) rfl
theorem dX8_join_50 : decode cX8_join 50 = .ok (.aload_n 0, 1) := dr9 dk9_dX8_join_0_0.1 8 (50, .aload_n 0, 1) rfl
theorem dX8_join_51 : decode cX8_join 51 = .ok (.getfield 69, 3) := dr9 dk9_dX8_join_0_0.1 9 (51, .getfield 69, 3) rfl
theorem dX8_join_54 : decode cX8_join 54 = .ok (.iload_n 3, 1) := dr9 dk9_dX8_join_0_0.1 10 (54, .iload_n 3, 1) rfl
theorem dX8_join_55 : decode cX8_join 55 = .ok (.iastore, 1) := dr9 dk9_dX8_join_0_0.1 11 (55, .iastore, 1) rfl
theorem dX8_join_56 : decode cX8_join 56 = .ok (.aload_n 0, 1) := dr9 dk9_dX8_join_0_0.1 12 (56, .aload_n 0, 1) rfl
theorem dX8_join_57 : decode cX8_join 57 = .ok (.getfield 46, 3) := dr9 dk9_dX8_join_0_0.1 13 (57, .getfield 46, 3) rfl
theorem dX8_join_60 : decode cX8_join 60 = .ok (.aload_n 0, 1) := dr9 dk9_dX8_join_0_0.1 14 (60, .aload_n 0, 1) rfl
theorem dX8_join_61 : decode cX8_join 61 = .ok (.getfield 69, 3) := dr9 dk9_dX8_join_0_0.1 15 (61, .getfield 69, 3) rfl
theorem dX8_join_64 : decode cX8_join 64 = .ok (.iconst (-1), 1) := dr9 dk9_dX8_join_0_0.1 16 (64, .iconst (-1), 1) rfl
theorem dX8_join_65 : decode cX8_join 65 = .ok (.iastore, 1) := dr9 dk9_dX8_join_0_0.1 17 (65, .iastore, 1) rfl
theorem dX8_join_66 : decode cX8_join 66 = .ok (.aload_n 0, 1) := dr9 dk9_dX8_join_0_0.1 18 (66, .aload_n 0, 1) rfl
theorem dX8_join_67 : decode cX8_join 67 = .ok (.getfield 40, 3) := dr9 dk9_dX8_join_0_0.1 19 (67, .getfield 40, 3) rfl
theorem dX8_join_70 : decode cX8_join 70 = .ok (.iload_n 1, 1) := dr9 dk9_dX8_join_0_0.1 20 (70, .iload_n 1, 1) rfl
theorem dX8_join_71 : decode cX8_join 71 = .ok (.bipush 8, 2) := dr9 dk9_dX8_join_0_0.1 21 (71, .bipush 8, 2) rfl
theorem dX8_join_73 : decode cX8_join 73 = .ok (.imul, 1) := dr9 dk9_dX8_join_0_0.1 22 (73, .imul, 1) rfl
theorem dX8_join_74 : decode cX8_join 74 = .ok (.iload_n 2, 1) := dr9 dk9_dX8_join_0_0.1 23 (74, .iload_n 2, 1) rfl
theorem dX8_join_75 : decode cX8_join 75 = .ok (.iadd, 1) := dr9 dk9_dX8_join_0_0.2.1 0 (75, .iadd, 1) rfl
theorem dX8_join_76 : decode cX8_join 76 = .ok (.iaload, 1) := dr9 dk9_dX8_join_0_0.2.1 1 (76, .iaload, 1) rfl
theorem dX8_join_77 : decode cX8_join 77 = .ok (.istore 4, 2) := dr9 dk9_dX8_join_0_0.2.1 2 (77, .istore 4, 2) rfl
theorem dX8_join_79 : decode cX8_join 79 = .ok (.iload 4, 2) := dr9 dk9_dX8_join_0_0.2.1 3 (79, .iload 4, 2) rfl
theorem dX8_join_81 : decode cX8_join 81 = .ok (.iconst (-1), 1) := dr9 dk9_dX8_join_0_0.2.1 4 (81, .iconst (-1), 1) rfl
theorem dX8_join_82 : decode cX8_join 82 = .ok (.if_icmp .ne 21, 3) := dr9 dk9_dX8_join_0_0.2.1 5 (82, .if_icmp .ne 21, 3) rfl
theorem dX8_join_103 : decode cX8_join 103 = .ok (.iconst 0, 1) := dr9 dk9_dX8_join_0_0.2.1 6 (103, .iconst 0, 1) rfl
theorem dX8_join_104 : decode cX8_join 104 = .ok (.istore 5, 2) := dr9 dk9_dX8_join_0_0.2.1 7 (104, .istore 5, 2) rfl
theorem dX8_join_106 : decode cX8_join 106 = .ok (.iload 5, 2) := dr9 dk9_dX8_join_0_0.2.1 8 (106, .iload 5, 2) rfl
theorem dX8_join_108 : decode cX8_join 108 = .ok (.bipush 24, 2) := dr9 dk9_dX8_join_0_0.2.1 9 (108, .bipush 24, 2) rfl
theorem dX8_join_110 : decode cX8_join 110 = .ok (.if_icmp .ge 29, 3) := dr9 dk9_dX8_join_0_0.2.1 10 (110, .if_icmp .ge 29, 3) rfl
theorem dX8_join_139 : decode cX8_join 139 = .ok (.aload_n 0, 1) := dr9 dk9_dX8_join_0_0.2.1 11 (139, .aload_n 0, 1) rfl
theorem dX8_join_140 : decode cX8_join 140 = .ok (.getfield 46, 3) := dr9 dk9_dX8_join_0_0.2.1 12 (140, .getfield 46, 3) rfl
theorem dX8_join_143 : decode cX8_join 143 = .ok (.iload 4, 2) := dr9 dk9_dX8_join_0_0.2.1 13 (143, .iload 4, 2) rfl
theorem dX8_join_145 : decode cX8_join 145 = .ok (.aload_n 0, 1) := dr9 dk9_dX8_join_0_0.2.1 14 (145, .aload_n 0, 1) rfl
theorem dX8_join_146 : decode cX8_join 146 = .ok (.getfield 69, 3) := dr9 dk9_dX8_join_0_0.2.1 15 (146, .getfield 69, 3) rfl
theorem dX8_join_149 : decode cX8_join 149 = .ok (.iastore, 1) := dr9 dk9_dX8_join_0_0.2.1 16 (149, .iastore, 1) rfl
theorem dX8_join_150 : decode cX8_join 150 = .ok (.aload_n 0, 1) := dr9 dk9_dX8_join_0_0.2.1 17 (150, .aload_n 0, 1) rfl
theorem dX8_join_151 : decode cX8_join 151 = .ok (.dup, 1) := dr9 dk9_dX8_join_0_0.2.1 18 (151, .dup, 1) rfl
theorem dX8_join_152 : decode cX8_join 152 = .ok (.getfield 69, 3) := dr9 dk9_dX8_join_0_0.2.1 19 (152, .getfield 69, 3) rfl
theorem dX8_join_155 : decode cX8_join 155 = .ok (.iconst 1, 1) := dr9 dk9_dX8_join_0_0.2.1 20 (155, .iconst 1, 1) rfl
theorem dX8_join_156 : decode cX8_join 156 = .ok (.iadd, 1) := dr9 dk9_dX8_join_0_0.2.1 21 (156, .iadd, 1) rfl
theorem dX8_join_157 : decode cX8_join 157 = .ok (.putfield 69, 3) := dr9 dk9_dX8_join_0_0.2.1 22 (157, .putfield 69, 3) rfl
theorem dX8_join_160 : decode cX8_join 160 = .ok (.return_, 1) := dr9 dk9_dX8_join_0_0.2.1 23 (160, .return_, 1) rfl
theorem dX8_join_113 : decode cX8_join 113 = .ok (.aload_n 0, 1) := dr9 dk9_dX8_join_0_0.2.2.1 0 (113, .aload_n 0, 1) rfl
theorem dX8_join_114 : decode cX8_join 114 = .ok (.getfield 46, 3) := dr9 dk9_dX8_join_0_0.2.2.1 1 (114, .getfield 46, 3) rfl
theorem dX8_join_117 : decode cX8_join 117 = .ok (.iload 4, 2) := dr9 dk9_dX8_join_0_0.2.2.1 2 (117, .iload 4, 2) rfl
theorem dX8_join_119 : decode cX8_join 119 = .ok (.iaload, 1) := dr9 dk9_dX8_join_0_0.2.2.1 3 (119, .iaload, 1) rfl
theorem dX8_join_120 : decode cX8_join 120 = .ok (.iconst (-1), 1) := dr9 dk9_dX8_join_0_0.2.2.1 4 (120, .iconst (-1), 1) rfl
theorem dX8_join_121 : decode cX8_join 121 = .ok (.if_icmp .eq 18, 3) := dr9 dk9_dX8_join_0_0.2.2.1 5 (121, .if_icmp .eq 18, 3) rfl
theorem dX8_join_124 : decode cX8_join 124 = .ok (.aload_n 0, 1) := dr9 dk9_dX8_join_0_0.2.2.1 6 (124, .aload_n 0, 1) rfl
theorem dX8_join_125 : decode cX8_join 125 = .ok (.getfield 46, 3) := dr9 dk9_dX8_join_0_0.2.2.1 7 (125, .getfield 46, 3) rfl
theorem dX8_join_128 : decode cX8_join 128 = .ok (.iload 4, 2) := dr9 dk9_dX8_join_0_0.2.2.1 8 (128, .iload 4, 2) rfl
theorem dX8_join_130 : decode cX8_join 130 = .ok (.iaload, 1) := dr9 dk9_dX8_join_0_0.2.2.1 9 (130, .iaload, 1) rfl
theorem dX8_join_131 : decode cX8_join 131 = .ok (.istore 4, 2) := dr9 dk9_dX8_join_0_0.2.2.1 10 (131, .istore 4, 2) rfl
theorem dX8_join_133 : decode cX8_join 133 = .ok (.iinc 5 1, 3) := dr9 dk9_dX8_join_0_0.2.2.1 11 (133, .iinc 5 1, 3) rfl
theorem dX8_join_136 : decode cX8_join 136 = .ok (.goto (-30), 3) := dr9 dk9_dX8_join_0_0.2.2.1 12 (136, .goto (-30), 3) rfl
theorem dX8_join_85 : decode cX8_join 85 = .ok (.aload_n 0, 1) := dr9 dk9_dX8_join_0_0.2.2.1 13 (85, .aload_n 0, 1) rfl
theorem dX8_join_86 : decode cX8_join 86 = .ok (.getfield 40, 3) := dr9 dk9_dX8_join_0_0.2.2.1 14 (86, .getfield 40, 3) rfl
theorem dX8_join_89 : decode cX8_join 89 = .ok (.iload_n 1, 1) := dr9 dk9_dX8_join_0_0.2.2.1 15 (89, .iload_n 1, 1) rfl
theorem dX8_join_90 : decode cX8_join 90 = .ok (.bipush 8, 2) := dr9 dk9_dX8_join_0_0.2.2.1 16 (90, .bipush 8, 2) rfl
theorem dX8_join_92 : decode cX8_join 92 = .ok (.imul, 1) := dr9 dk9_dX8_join_0_0.2.2.1 17 (92, .imul, 1) rfl
theorem dX8_join_93 : decode cX8_join 93 = .ok (.iload_n 2, 1) := dr9 dk9_dX8_join_0_0.2.2.1 18 (93, .iload_n 2, 1) rfl
theorem dX8_join_94 : decode cX8_join 94 = .ok (.iadd, 1) := dr9 dk9_dX8_join_0_0.2.2.1 19 (94, .iadd, 1) rfl
theorem dX8_join_95 : decode cX8_join 95 = .ok (.aload_n 0, 1) := dr9 dk9_dX8_join_0_0.2.2.1 20 (95, .aload_n 0, 1) rfl
theorem dX8_join_96 : decode cX8_join 96 = .ok (.getfield 69, 3) := dr9 dk9_dX8_join_0_0.2.2.1 21 (96, .getfield 69, 3) rfl
theorem dX8_join_99 : decode cX8_join 99 = .ok (.iastore, 1) := dr9 dk9_dX8_join_0_0.2.2.1 22 (99, .iastore, 1) rfl
theorem dX8_join_100 : decode cX8_join 100 = .ok (.goto 50, 3) := dr9 dk9_dX8_join_0_0.2.2.1 23 (100, .goto 50, 3) rfl
theorem dX8_join_12 : decode cX8_join 12 = .ok (.aload_n 0, 1) := dr9 dk9_dX8_join_0_0.2.2.2 0 (12, .aload_n 0, 1) rfl
theorem dX8_join_13 : decode cX8_join 13 = .ok (.aload_n 0, 1) := dr9 dk9_dX8_join_0_0.2.2.2 1 (13, .aload_n 0, 1) rfl
theorem dX8_join_14 : decode cX8_join 14 = .ok (.getfield 43, 3) := dr9 dk9_dX8_join_0_0.2.2.2 2 (14, .getfield 43, 3) rfl
theorem dX8_join_17 : decode cX8_join 17 = .ok (.aload_n 0, 1) := dr9 dk9_dX8_join_0_0.2.2.2 3 (17, .aload_n 0, 1) rfl
theorem dX8_join_18 : decode cX8_join 18 = .ok (.getfield 69, 3) := dr9 dk9_dX8_join_0_0.2.2.2 4 (18, .getfield 69, 3) rfl
theorem dX8_join_21 : decode cX8_join 21 = .ok (.iconst 2, 1) := dr9 dk9_dX8_join_0_0.2.2.2 5 (21, .iconst 2, 1) rfl
theorem dX8_join_22 : decode cX8_join 22 = .ok (.imul, 1) := dr9 dk9_dX8_join_0_0.2.2.2 6 (22, .imul, 1) rfl
theorem dX8_join_23 : decode cX8_join 23 = .ok (.invokestatic 83, 3) := dr9 dk9_dX8_join_0_0.2.2.2 7 (23, .invokestatic 83, 3) rfl
theorem dX8_join_26 : decode cX8_join 26 = .ok (.putfield 43, 3) := dr9 dk9_dX8_join_0_0.2.2.2 8 (26, .putfield 43, 3) rfl
theorem dX8_join_29 : decode cX8_join 29 = .ok (.aload_n 0, 1) := dr9 dk9_dX8_join_0_0.2.2.2 9 (29, .aload_n 0, 1) rfl
theorem dX8_join_30 : decode cX8_join 30 = .ok (.aload_n 0, 1) := dr9 dk9_dX8_join_0_0.2.2.2 10 (30, .aload_n 0, 1) rfl
theorem dX8_join_31 : decode cX8_join 31 = .ok (.getfield 46, 3) := dr9 dk9_dX8_join_0_0.2.2.2 11 (31, .getfield 46, 3) rfl
theorem dX8_join_34 : decode cX8_join 34 = .ok (.aload_n 0, 1) := dr9 dk9_dX8_join_0_0.2.2.2 12 (34, .aload_n 0, 1) rfl
theorem dX8_join_35 : decode cX8_join 35 = .ok (.getfield 69, 3) := dr9 dk9_dX8_join_0_0.2.2.2 13 (35, .getfield 69, 3) rfl
theorem dX8_join_38 : decode cX8_join 38 = .ok (.iconst 2, 1) := dr9 dk9_dX8_join_0_0.2.2.2 14 (38, .iconst 2, 1) rfl
theorem dX8_join_39 : decode cX8_join 39 = .ok (.imul, 1) := dr9 dk9_dX8_join_0_0.2.2.2 15 (39, .imul, 1) rfl
theorem dX8_join_40 : decode cX8_join 40 = .ok (.invokestatic 83, 3) := dr9 dk9_dX8_join_0_0.2.2.2 16 (40, .invokestatic 83, 3) rfl
theorem dX8_join_43 : decode cX8_join 43 = .ok (.putfield 46, 3) := dr9 dk9_dX8_join_0_0.2.2.2 17 (43, .putfield 46, 3) rfl
abbrev r_x_join (Z : XZ) : Room := { frames := 2, cells := zcc Z, slots := zss Z, locals := 62 }
abbrev q_x_join (D : va_G) (ks : KS) (ad : Nat → Nat) (kk : Nat → ClassId) (V : Vf) (L : Lf) (Z : XZ) (p0 : Int32) (p1 : Int32) (p2 : Int32) (A : Nat → Prop) : Array Value → State → Outcome → State → Prop := qZv D (fun (u : Vf × Lf × XZ) => rgd bX u.1 ∧ agr [(3, 15)] [30, 31, 32] V u.1 ∧ u.2.1 = L ∧ ZL Z u.2.2 ∧ (JN V u.1 Z u.2.2 (8 * Int32.toNatClampNeg p0 + Int32.toNatClampNeg p1))) (fun u => xw ad kk u.1 u.2.1 u.2.2) (fun u => xty kk u.2.2) (fun u => zcc Z - zcc u.2.2) (fun u => zss Z - zss u.2.2) A
set_option maxHeartbeats 4000000 in
set_option maxRecDepth 100000 in
theorem x_join (l : Launch) (D : va_G) (ks : KS) (sz : Nat) (ad : Nat → Nat) (kk : Nat → ClassId) (V : Vf) (L : Lf) (Z : XZ) (p0 : Int32) (p1 : Int32) (p2 : Int32) (hMV : rgd bX V) (rg_p0 : 0 ≤ p0.toInt ∧ p0.toInt ≤ 299) (rg_p1 : 0 ≤ p1.toInt ∧ p1.toInt ≤ 7) (sl : SL V Z) (lnq : LN Z.ln) (hlc : (V 3 15).toInt ≤ 250000) (hob : p0.toInt < (V 3 13).toInt)  : Met l yX8_join (Cond.code yX8_join cX8_join 6 none :: GW) (r_x_join Z) (va_Pc [.ref (ad 3), .int p0, .int p1, .int p2] (gp D ks (xw ad kk V L Z) (xty kk Z) sz)) (q_x_join D ks ad kk V L Z p0 p1 p2 (va_A (xw ad kk V L Z) sz)) (zcc Z) (zss Z) (va_A (xw ad kk V L Z) sz) := by
  refine g_met (q_x_join D ks ad kk V L Z p0 p1 p2) (by decide) (Nat.le_of_ble_eq_true rfl) ?_
  intro p e s m below meth c A ls H locs hx hb hr hml hown hg hlocks hin hnw hgk hP hK hD hS hA hl
  have hown : s.vm.findClass RX8 = some m.cls := hown
  have hl : lv_has ls 6 [(0, .ref (ad 3)), (1, .int p0), (2, .int p1), (3, .int p2)] := hl
  have hP : va_P D vwCl (xw ad kk V L Z) H := hP
  have hD : va_D A (xw ad kk V L Z) := hD
  have hK : va_K D vwCl (xty kk Z) s := hK
  have agV : agr [(3, 15)] [30, 31, 32] V V := agr.rf
  have zoZ : ZL Z Z := ZL.rf
  refine W.know (fun ka kb => ?_)
  refine W.tight (k := zcc Z - zcc Z) (n := zss Z - zss Z) (by omega) (by omega) ?_
  have r1 : 0 ≤ ((V 3 15)).toInt ∧ ((V 3 15)).toInt ≤ 262144 := hMV 3 15
  have r2 : 0 ≤ ((V 3 13)).toInt ∧ ((V 3 13)).toInt ≤ 300 := hMV 3 13
  have hll := sl.2.1
  refine lv_aload_n hx hb dX8_join_0 rfl (lv_at hl 0 rfl) ?_
  refine va_get (D := D) (ci := 8) (v := .int (V 3 15)) (fs := (xfStock ad V L Z)) (C := RX8) (T := TX8) (N := 16) hx hb hg inX8 hown hK hP 3 xgStock rfl 15 (by decide) (hg _ w394) (fun _ h9 => h9) rfl dX8_join_1 ?_
  refine lv_aload_n hx hb dX8_join_4 rfl (lv_at hl 0 rfl) ?_
  refine va_get (D := D) (ci := 8) (v := .ref Z.l1) (fs := (xfStock ad V L Z)) (C := RX8) (T := TX8) (N := 16) hx hb hg inX8 hown hK hP 3 xgStock rfl 10 (by decide) (hg _ w388) (fun _ h9 => h9) rfl dX8_join_5 ?_
  refine va_alen (D := D) (v := nI (Z.ln)) hx hb hK hP 28 21 rfl rfl rfl dX8_join_8 ?_
  refine lv_topi (fun z4 ez4 => ?_)
  have r5 : z4.toInt = ((Z.ln : Nat) : Int) := by rw [ez4]; exact nI_toInt (by omega)
  refine lv_icmp_lt (tgt := 46) hx hb dX8_join_9 (by decide) (fun c6 => ?_) (fun c6 => ?_)
  · skip
    have f7 : ((V 3 15)).toInt < z4.toInt := b_lt rfl rfl c6
    have slx := sl
    have lnx := lnq
    have hltz : (V 3 15).toInt < (Z.ln : Int) := by (first | exact om_74393bacf057 r5 f7 | omega)
    have kl := i_clamp (x := V 3 15) rfl (by (first | exact om_eafa9039069c r1.1 | omega))
    have kp0 := i_clamp (x := p0) rfl (by (first | exact om_eafa9039069c rg_p0.1 | omega))
    have kp1 := i_clamp (x := p1) rfl (by (first | exact om_eafa9039069c rg_p1.1 | omega))
    have hch := slx.2.2.1 (Int32.toNatClampNeg p0) (Int32.toNatClampNeg p1) (by omega) (by omega)
    refine lv_aload_n hx hb dX8_join_46 rfl (lv_at hl 0 rfl) ?_
    refine va_get (D := D) (ci := 8) (v := .ref Z.l1) (fs := (xfStock ad V L Z)) (C := RX8) (T := TX8) (N := 16) hx hb hg inX8 hown hK hP 3 xgStock rfl 10 (by decide) (hg _ w388) (fun _ h9 => h9) rfl dX8_join_47 ?_
    refine lv_aload_n hx hb dX8_join_50 rfl (lv_at hl 0 rfl) ?_
    refine va_get (D := D) (ci := 8) (v := .int (V 3 15)) (fs := (xfStock ad V L Z)) (C := RX8) (T := TX8) (N := 16) hx hb hg inX8 hown hK hP 3 xgStock rfl 15 (by decide) (hg _ w394) (fun _ h9 => h9) rfl dX8_join_51 ?_
    refine lv_iload_n hx hb dX8_join_54 rfl (lv_at hl 3 rfl) ?_
    refine va_iast (D := D) (i := (V 3 15)) (x := p2) hx hb hK hP hD hS 28 21 rfl rfl (i_in (a := ((V 3 15)).toInt) rfl (by omega)) dX8_join_55 (fun H locs hP hD hS => ?_)
    obtain ⟨V8, hV8⟩ : ∃ z, z = up2 V 31 (Int32.toNatClampNeg (V 3 15)) p2 := ⟨_, rfl⟩
    have ew9 : (xw ad kk V L Z).set 28 (Z.l1, .inl (Z.k1, Z.ln, .inl (upd (V 31) (Int32.toNatClampNeg (V 3 15)) p2))) = xw ad kk V8 L Z := by rw [hV8]; exact xw_ss (by decide) rfl (xb_si (by decide))
    have hP : va_P D vwCl (xw ad kk V8 L Z) H := by rw [← ew9]; exact hP
    have hD : va_D A (xw ad kk V8 L Z) := by rw [← ew9]; exact hD
    have hMV8 : rgd bX V8 := hMV.put hV8 (i_full _)
    have agV8 : agr [(3, 15)] [30, 31, 32] V V8 := agV.up hV8 rfl
    refine lv_aload_n hx hb dX8_join_56 rfl (lv_at hl 0 rfl) ?_
    refine va_get (D := D) (ci := 8) (v := .ref Z.l2) (fs := (xfStock ad V8 L Z)) (C := RX8) (T := TX8) (N := 16) hx hb hg inX8 hown hK hP 3 xgStock rfl 11 (by decide) (hg _ w389) (fun _ h9 => h9) rfl dX8_join_57 ?_
    refine lv_aload_n hx hb dX8_join_60 rfl (lv_at hl 0 rfl) ?_
    refine va_get (D := D) (ci := 8) (v := .int (V8 3 15)) (fs := (xfStock ad V8 L Z)) (C := RX8) (T := TX8) (N := 16) hx hb hg inX8 hown hK hP 3 xgStock rfl 15 (by decide) (hg _ w394) (fun _ h9 => h9) rfl dX8_join_61 ?_
    refine g_top (v := (V 3 15)) (up2_o hV8 (by decide)) ?_
    refine lv_iconst (v := (-1)) hx hb dX8_join_64 (by decide) ?_
    refine va_iast (D := D) (i := (V 3 15)) (x := (-1)) hx hb hK hP hD hS 29 22 rfl rfl (i_in (a := ((V 3 15)).toInt) rfl (by omega)) dX8_join_65 (fun H locs hP hD hS => ?_)
    obtain ⟨V10, hV10⟩ : ∃ z, z = up2 V8 32 (Int32.toNatClampNeg (V 3 15)) (-1) := ⟨_, rfl⟩
    have ew11 : (xw ad kk V8 L Z).set 29 (Z.l2, .inl (Z.k2, Z.ln, .inl (upd (V8 32) (Int32.toNatClampNeg (V 3 15)) (-1)))) = xw ad kk V10 L Z := by rw [hV10]; exact xw_ss (by decide) rfl (xb_si (by decide))
    have hP : va_P D vwCl (xw ad kk V10 L Z) H := by rw [← ew11]; exact hP
    have hD : va_D A (xw ad kk V10 L Z) := by rw [← ew11]; exact hD
    have hMV10 : rgd bX V10 := hMV8.put hV10 (show (-1) ≤ Int32.toInt (-1) ∧ Int32.toInt (-1) ≤ 262143 from by decide)
    have agV10 : agr [(3, 15)] [30, 31, 32] V V10 := agV8.up hV10 rfl
    refine lv_aload_n hx hb dX8_join_66 rfl (lv_at hl 0 rfl) ?_
    refine va_get (D := D) (ci := 8) (v := .ref (ad 27)) (fs := (xfStock ad V10 L Z)) (C := RX8) (T := TX8) (N := 16) hx hb hg inX8 hown hK hP 3 xgStock rfl 9 (by decide) (hg _ w387) (fun _ h9 => h9) rfl dX8_join_67 ?_
    refine lv_iload_n hx hb dX8_join_70 rfl (lv_at hl 1 rfl) ?_
    refine lv_bipush (v := 8) hx hb dX8_join_71 (by decide) ?_
    refine lv_imul hx hb dX8_join_73 ?_
    refine lv_topi (fun z12 ez12 => ?_)
    have hz12 : z12.toInt = p0.toInt * 8 := i_mul ez12 rfl (by decide) (by (first | exact om_d8eca449dd89 rg_p0.1 rg_p0.2 | omega))
    refine lv_iload_n hx hb dX8_join_74 rfl (lv_at hl 2 rfl) ?_
    refine lv_iadd hx hb dX8_join_75 ?_
    refine lv_topi (fun z13 ez13 => ?_)
    have hz13 : z13.toInt = z12.toInt + p1.toInt := i_add ez13 rfl rfl (by (first | exact om_582758b7b1c9 rg_p0.1 rg_p0.2 rg_p1.1 rg_p1.2 hz12 | omega))
    refine va_iald (D := D) (i := z13) hx hb hK hP 27 20 rfl rfl (i_in (a := z13.toInt) rfl (by omega)) dX8_join_76 ?_
    refine g_top (v := (V 30 (Int32.toNatClampNeg z13))) ((up2_o hV10 (by decide)).trans (up2_o hV8 (by decide))) ?_
    have r14 : (-1) ≤ ((V 30 (Int32.toNatClampNeg z13))).toInt ∧ ((V 30 (Int32.toNatClampNeg z13))).toInt ≤ 262143 := hMV 30 (Int32.toNatClampNeg z13)
    refine lv_istore (lv' := [(4, .int (V 30 (Int32.toNatClampNeg z13))), (0, .ref (ad 3)), (1, .int p0), (2, .int p1), (3, .int p2)]) hx hb dX8_join_77 hl (by decide) rfl (fun ls hl => ?_)
    have kzz := i_clamp (x := z13) rfl (by (first | exact om_75abbf7b0b1b rg_p0.1 rg_p1.1 hz12 hz13 | omega))
    have hpl : Int32.toNatClampNeg z13 = 8 * Int32.toNatClampNeg p0 + Int32.toNatClampNeg p1 := by (first | exact om_19f77980e03c kp0 kp1 hz12 hz13 kzz | omega)
    have hch2 := hch
    rw [← hpl] at hch2
    refine lv_iload hx hb dX8_join_79 (lv_at hl 0 rfl) ?_
    refine lv_iconst (v := (-1)) hx hb dX8_join_81 (by decide) ?_
    refine lv_icmp_ne (tgt := 103) hx hb dX8_join_82 (by decide) (fun c15 => ?_) (fun c15 => ?_)
    · skip
      have f16 : ((V 30 (Int32.toNatClampNeg z13))).toInt ≠ (-1) := b_neq rfl (by decide) c15
      refine lv_iconst (v := 0) hx hb dX8_join_103 (by decide) ?_
      refine lv_istore (lv' := [(5, .int 0), (4, .int (V 30 (Int32.toNatClampNeg z13))), (0, .ref (ad 3)), (1, .int p0), (2, .int p1), (3, .int p2)]) hx hb dX8_join_104 hl (by decide) rfl (fun ls hl => ?_)
      have lp19 : ∀ (fulp19 : Nat) (y17 : Int32) (y18 : Int32) (H : Heap) (locs : List Loc) (ls : Array Slot), 0 ≤ y17.toInt ∧ y17.toInt ≤ 24 → 0 ≤ y18.toInt ∧ y18.toInt ≤ 262143 → y18.toInt < (V 3 15).toInt → 24 - y17.toInt < (fulp19 : Int) → va_P D vwCl (xw ad kk V10 L Z) H → va_D A (xw ad kk V10 L Z) → va_S A s.heap H locs → lv_has ls 6 [(5, .int y17), (4, .int y18), (0, .ref (ad 3)), (1, .int p0), (2, .int p1), (3, .int p2)] → W p l e (r_x_join Z) s m ([.ref (ad 3), .int p0, .int p1, .int p2] : List Value).toArray below meth c H locs (zcc Z - zcc Z) (zss Z - zss Z) (MQ below (q_x_join D ks ad kk V L Z p0 p1 p2 A) ([.ref (ad 3), .int p0, .int p1, .int p2] : List Value).toArray s (zcc Z) (zss Z) A) (F0 m 106 ls []) := by
        intro fulp19
        induction fulp19 with
        | zero =>
          intro y17 y18 H locs ls klp19_0 klp19_1 xlp19_0 hn  hP hD hS hl
          exfalso; omega
        | succ fulp19 ihlp19 =>
          intro y17 y18 H locs ls klp19_0 klp19_1 xlp19_0 hn  hP hD hS hl
          refine lv_iload hx hb dX8_join_106 (lv_at hl 0 rfl) ?_
          refine lv_bipush (v := 24) hx hb dX8_join_108 (by decide) ?_
          refine lv_icmp_ge (tgt := 139) hx hb dX8_join_110 (by decide) (fun c20 => ?_) (fun c20 => ?_)
          · skip
            have f21 : 24 ≤ y17.toInt := b_le (by decide) rfl c20
            refine lv_aload_n hx hb dX8_join_139 rfl (lv_at hl 2 rfl) ?_
            refine va_get (D := D) (ci := 8) (v := .ref Z.l2) (fs := (xfStock ad V10 L Z)) (C := RX8) (T := TX8) (N := 16) hx hb hg inX8 hown hK hP 3 xgStock rfl 11 (by decide) (hg _ w389) (fun _ h9 => h9) rfl dX8_join_140 ?_
            refine lv_iload hx hb dX8_join_143 (lv_at hl 1 rfl) ?_
            refine lv_aload_n hx hb dX8_join_145 rfl (lv_at hl 2 rfl) ?_
            refine va_get (D := D) (ci := 8) (v := .int (V10 3 15)) (fs := (xfStock ad V10 L Z)) (C := RX8) (T := TX8) (N := 16) hx hb hg inX8 hown hK hP 3 xgStock rfl 15 (by decide) (hg _ w394) (fun _ h9 => h9) rfl dX8_join_146 ?_
            refine g_top (v := (V 3 15)) ((up2_o hV10 (by decide)).trans (up2_o hV8 (by decide))) ?_
            refine va_iast (D := D) (i := y18) (x := (V 3 15)) hx hb hK hP hD hS 29 22 rfl rfl (i_in (a := y18.toInt) rfl (by omega)) dX8_join_149 (fun H locs hP hD hS => ?_)
            obtain ⟨V22, hV22⟩ : ∃ z, z = up2 V10 32 (Int32.toNatClampNeg y18) (V 3 15) := ⟨_, rfl⟩
            have ew23 : (xw ad kk V10 L Z).set 29 (Z.l2, .inl (Z.k2, Z.ln, .inl (upd (V10 32) (Int32.toNatClampNeg y18) (V 3 15)))) = xw ad kk V22 L Z := by rw [hV22]; exact xw_ss (by decide) rfl (xb_si (by decide))
            have hP : va_P D vwCl (xw ad kk V22 L Z) H := by rw [← ew23]; exact hP
            have hD : va_D A (xw ad kk V22 L Z) := by rw [← ew23]; exact hD
            have hMV22 : rgd bX V22 := hMV10.put hV22 (show (-1) ≤ ((V 3 15)).toInt ∧ ((V 3 15)).toInt ≤ 262143 from by (first | exact om_ca8123c7c681 hlc klp19_1.1 xlp19_0 | omega))
            have agV22 : agr [(3, 15)] [30, 31, 32] V V22 := agV10.up hV22 rfl
            refine lv_aload_n hx hb dX8_join_150 rfl (lv_at hl 2 rfl) ?_
            refine lv_dup hx hb dX8_join_151 rfl ?_
            refine va_get (D := D) (ci := 8) (v := .int (V22 3 15)) (fs := (xfStock ad V22 L Z)) (C := RX8) (T := TX8) (N := 16) hx hb hg inX8 hown hK hP 3 xgStock rfl 15 (by decide) (hg _ w394) (fun _ h9 => h9) rfl dX8_join_152 ?_
            refine g_top (v := (V 3 15)) ((up2_o hV22 (by decide)).trans ((up2_o hV10 (by decide)).trans (up2_o hV8 (by decide)))) ?_
            refine lv_iconst (v := 1) hx hb dX8_join_155 (by decide) ?_
            refine lv_iadd hx hb dX8_join_156 ?_
            refine lv_topi (fun z24 ez24 => ?_)
            have hz24 : z24.toInt = ((V 3 15)).toInt + 1 := i_add ez24 rfl (by decide) (by (first | exact om_f92aeb5a09ea hlc klp19_1.1 xlp19_0 | omega))
            refine va_put (D := D) (ci := 8) (v := .int z24) (ty := tyX8 15) (fs := (xfStock ad V22 L Z)) (C := RX8) (T := TX8) (N := 16) hx hb hg inX8 tyX8 tyX8_ok nmX8 hown hK hP hD hS 3 xgStock rfl 15 (by decide) (hg _ w394) (fun _ h9 => h9) rfl (tyX8_ok 15 (by decide)) rfl rfl (Nat.le_of_ble_eq_true rfl) dX8_join_157 (fun H locs hP hD hS => ?_)
            obtain ⟨V25, hV25⟩ : ∃ z, z = up2 V22 3 15 z24 := ⟨_, rfl⟩
            have ew26 : (xw ad kk V22 L Z).set 3 ((ad 3), .inr (8, (xfStock ad V22 L Z).set 15 (.int z24))) = xw ad kk V25 L Z := by rw [hV25]; exact xw_ss (by decide) rfl (xb_si (by decide))
            have hP : va_P D vwCl (xw ad kk V25 L Z) H := by rw [← ew26]; exact hP
            have hD : va_D A (xw ad kk V25 L Z) := by rw [← ew26]; exact hD
            have hMV25 : rgd bX V25 := hMV22.put hV25 (show 0 ≤ z24.toInt ∧ z24.toInt ≤ 262144 from by (first | exact om_58c2777555e7 hlc klp19_1.1 xlp19_0 hz24 | omega))
            have agV25 : agr [(3, 15)] [30, 31, 32] V V25 := agV22.up hV25 rfl
            have pq27 : (V25 3 15).toInt = z24.toInt := congrArg Int32.toInt (up2_s hV25)
            have kq28 := i_clamp (x := y18) rfl (by (first | exact om_eafa9039069c klp19_1.1 | omega))
            have jn29 : JN V V25 Z Z (8 * Int32.toNatClampNeg p0 + Int32.toNatClampNeg p1) := JN.mk (l := Int32.toNatClampNeg (V 3 15)) slx lnx (by omega) (by omega) hV8 hV10 hV22 (by omega) hV25 (by omega) (Or.inr ⟨rfl, by omega, by rw [← hpl]; omega⟩)
            refine W.know (fun kr1 kr2 => ?_)
            refine W.widen (k := zcc Z) (n := zss Z) (Nat.sub_le _ _) (Nat.sub_le _ _) ?_
            exact W.vret hx hb hr (fun t ht hW => ⟨⟨(V25, L, Z), rfl, ⟨hMV25, agV25, rfl, zoZ, jn29⟩, ⟨by rw [ht]; exact hP, va_K.moved hW.alike hK, hD⟩, by rw [ht]; exact kr1, by rw [ht]; exact kr2⟩, hS.F ht⟩) hS.2.2 dX8_join_160
          · skip
            have f30 : y17.toInt < 24 := b_nle (by decide) rfl c20
            refine lv_aload_n hx hb dX8_join_113 rfl (lv_at hl 2 rfl) ?_
            refine va_get (D := D) (ci := 8) (v := .ref Z.l2) (fs := (xfStock ad V10 L Z)) (C := RX8) (T := TX8) (N := 16) hx hb hg inX8 hown hK hP 3 xgStock rfl 11 (by decide) (hg _ w389) (fun _ h9 => h9) rfl dX8_join_114 ?_
            refine lv_iload hx hb dX8_join_117 (lv_at hl 1 rfl) ?_
            refine va_iald (D := D) (i := y18) hx hb hK hP 29 22 rfl rfl (i_in (a := y18.toInt) rfl (by omega)) dX8_join_119 ?_
            have r31 : (-1) ≤ ((V10 32 (Int32.toNatClampNeg y18))).toInt ∧ ((V10 32 (Int32.toNatClampNeg y18))).toInt ≤ 262143 := hMV10 32 (Int32.toNatClampNeg y18)
            have kq32 := i_clamp (x := y18) rfl (by (first | exact om_eafa9039069c klp19_1.1 | omega))
            have hq33 : (V10 32 (Int32.toNatClampNeg y18)).toInt < (V 3 15).toInt := by have q := slx.2.2.2 (Int32.toNatClampNeg y18) (by omega); rw [up2_k hV10 (by omega), up2_o hV8 (by decide)]; omega
            refine lv_iconst (v := (-1)) hx hb dX8_join_120 (by decide) ?_
            refine lv_icmp_eq (tgt := 139) hx hb dX8_join_121 (by decide) (fun c34 => ?_) (fun c34 => ?_)
            · skip
              have f35 : ((V10 32 (Int32.toNatClampNeg y18))).toInt = (-1) := b_eq rfl (by decide) c34
              refine lv_aload_n hx hb dX8_join_139 rfl (lv_at hl 2 rfl) ?_
              refine va_get (D := D) (ci := 8) (v := .ref Z.l2) (fs := (xfStock ad V10 L Z)) (C := RX8) (T := TX8) (N := 16) hx hb hg inX8 hown hK hP 3 xgStock rfl 11 (by decide) (hg _ w389) (fun _ h9 => h9) rfl dX8_join_140 ?_
              refine lv_iload hx hb dX8_join_143 (lv_at hl 1 rfl) ?_
              refine lv_aload_n hx hb dX8_join_145 rfl (lv_at hl 2 rfl) ?_
              refine va_get (D := D) (ci := 8) (v := .int (V10 3 15)) (fs := (xfStock ad V10 L Z)) (C := RX8) (T := TX8) (N := 16) hx hb hg inX8 hown hK hP 3 xgStock rfl 15 (by decide) (hg _ w394) (fun _ h9 => h9) rfl dX8_join_146 ?_
              refine g_top (v := (V 3 15)) ((up2_o hV10 (by decide)).trans (up2_o hV8 (by decide))) ?_
              refine va_iast (D := D) (i := y18) (x := (V 3 15)) hx hb hK hP hD hS 29 22 rfl rfl (i_in (a := y18.toInt) rfl (by omega)) dX8_join_149 (fun H locs hP hD hS => ?_)
              obtain ⟨V36, hV36⟩ : ∃ z, z = up2 V10 32 (Int32.toNatClampNeg y18) (V 3 15) := ⟨_, rfl⟩
              have ew37 : (xw ad kk V10 L Z).set 29 (Z.l2, .inl (Z.k2, Z.ln, .inl (upd (V10 32) (Int32.toNatClampNeg y18) (V 3 15)))) = xw ad kk V36 L Z := by rw [hV36]; exact xw_ss (by decide) rfl (xb_si (by decide))
              have hP : va_P D vwCl (xw ad kk V36 L Z) H := by rw [← ew37]; exact hP
              have hD : va_D A (xw ad kk V36 L Z) := by rw [← ew37]; exact hD
              have hMV36 : rgd bX V36 := hMV10.put hV36 (show (-1) ≤ ((V 3 15)).toInt ∧ ((V 3 15)).toInt ≤ 262143 from by (first | exact om_ca8123c7c681 hlc klp19_1.1 xlp19_0 | omega))
              have agV36 : agr [(3, 15)] [30, 31, 32] V V36 := agV10.up hV36 rfl
              refine lv_aload_n hx hb dX8_join_150 rfl (lv_at hl 2 rfl) ?_
              refine lv_dup hx hb dX8_join_151 rfl ?_
              refine va_get (D := D) (ci := 8) (v := .int (V36 3 15)) (fs := (xfStock ad V36 L Z)) (C := RX8) (T := TX8) (N := 16) hx hb hg inX8 hown hK hP 3 xgStock rfl 15 (by decide) (hg _ w394) (fun _ h9 => h9) rfl dX8_join_152 ?_
              refine g_top (v := (V 3 15)) ((up2_o hV36 (by decide)).trans ((up2_o hV10 (by decide)).trans (up2_o hV8 (by decide)))) ?_
              refine lv_iconst (v := 1) hx hb dX8_join_155 (by decide) ?_
              refine lv_iadd hx hb dX8_join_156 ?_
              refine lv_topi (fun z38 ez38 => ?_)
              have hz38 : z38.toInt = ((V 3 15)).toInt + 1 := i_add ez38 rfl (by decide) (by (first | exact om_f92aeb5a09ea hlc klp19_1.1 xlp19_0 | omega))
              refine va_put (D := D) (ci := 8) (v := .int z38) (ty := tyX8 15) (fs := (xfStock ad V36 L Z)) (C := RX8) (T := TX8) (N := 16) hx hb hg inX8 tyX8 tyX8_ok nmX8 hown hK hP hD hS 3 xgStock rfl 15 (by decide) (hg _ w394) (fun _ h9 => h9) rfl (tyX8_ok 15 (by decide)) rfl rfl (Nat.le_of_ble_eq_true rfl) dX8_join_157 (fun H locs hP hD hS => ?_)
              obtain ⟨V39, hV39⟩ : ∃ z, z = up2 V36 3 15 z38 := ⟨_, rfl⟩
              have ew40 : (xw ad kk V36 L Z).set 3 ((ad 3), .inr (8, (xfStock ad V36 L Z).set 15 (.int z38))) = xw ad kk V39 L Z := by rw [hV39]; exact xw_ss (by decide) rfl (xb_si (by decide))
              have hP : va_P D vwCl (xw ad kk V39 L Z) H := by rw [← ew40]; exact hP
              have hD : va_D A (xw ad kk V39 L Z) := by rw [← ew40]; exact hD
              have hMV39 : rgd bX V39 := hMV36.put hV39 (show 0 ≤ z38.toInt ∧ z38.toInt ≤ 262144 from by (first | exact om_58c2777555e7 hlc klp19_1.1 xlp19_0 hz38 | omega))
              have agV39 : agr [(3, 15)] [30, 31, 32] V V39 := agV36.up hV39 rfl
              have pq41 : (V39 3 15).toInt = z38.toInt := congrArg Int32.toInt (up2_s hV39)
              have kq42 := i_clamp (x := y18) rfl (by (first | exact om_eafa9039069c klp19_1.1 | omega))
              have jn43 : JN V V39 Z Z (8 * Int32.toNatClampNeg p0 + Int32.toNatClampNeg p1) := JN.mk (l := Int32.toNatClampNeg (V 3 15)) slx lnx (by omega) (by omega) hV8 hV10 hV36 (by omega) hV39 (by omega) (Or.inr ⟨rfl, by omega, by rw [← hpl]; omega⟩)
              refine W.know (fun kr1 kr2 => ?_)
              refine W.widen (k := zcc Z) (n := zss Z) (Nat.sub_le _ _) (Nat.sub_le _ _) ?_
              exact W.vret hx hb hr (fun t ht hW => ⟨⟨(V39, L, Z), rfl, ⟨hMV39, agV39, rfl, zoZ, jn43⟩, ⟨by rw [ht]; exact hP, va_K.moved hW.alike hK, hD⟩, by rw [ht]; exact kr1, by rw [ht]; exact kr2⟩, hS.F ht⟩) hS.2.2 dX8_join_160
            · skip
              have f44 : ((V10 32 (Int32.toNatClampNeg y18))).toInt ≠ (-1) := b_neq rfl (by decide) c34
              refine lv_aload_n hx hb dX8_join_124 rfl (lv_at hl 2 rfl) ?_
              refine va_get (D := D) (ci := 8) (v := .ref Z.l2) (fs := (xfStock ad V10 L Z)) (C := RX8) (T := TX8) (N := 16) hx hb hg inX8 hown hK hP 3 xgStock rfl 11 (by decide) (hg _ w389) (fun _ h9 => h9) rfl dX8_join_125 ?_
              refine lv_iload hx hb dX8_join_128 (lv_at hl 1 rfl) ?_
              refine va_iald (D := D) (i := y18) hx hb hK hP 29 22 rfl rfl (i_in (a := y18.toInt) rfl (by omega)) dX8_join_130 ?_
              have kq45 := i_clamp (x := y18) rfl (by (first | exact om_eafa9039069c klp19_1.1 | omega))
              have hq46 : (V10 32 (Int32.toNatClampNeg y18)).toInt < (V 3 15).toInt := by have q := slx.2.2.2 (Int32.toNatClampNeg y18) (by omega); rw [up2_k hV10 (by omega), up2_o hV8 (by decide)]; omega
              refine lv_istore (lv' := [(4, .int (V10 32 (Int32.toNatClampNeg y18))), (5, .int y17), (0, .ref (ad 3)), (1, .int p0), (2, .int p1), (3, .int p2)]) hx hb dX8_join_131 hl (by decide) rfl (fun ls hl => ?_)
              obtain ⟨z47, ez47⟩ : ∃ y : Int32, y = y17 + 1 := ⟨_, rfl⟩
              have hz47 : z47.toInt = y17.toInt + 1 := i_add ez47 rfl (by decide) (by (first | exact om_bc9106cf44c9 klp19_0.1 f30 | omega))
              refine lv_iinc (v := z47) (lv' := [(5, .int z47), (4, .int (V10 32 (Int32.toNatClampNeg y18))), (0, .ref (ad 3)), (1, .int p0), (2, .int p1), (3, .int p2)]) hx hb dX8_join_133 hl (k := 1) rfl (by rw [ez47]; rfl) (by decide) rfl (fun ls hl => ?_)
              refine lv_goto (tgt := 106) hx hb dX8_join_136 (by decide) ?_
              exact ihlp19 z47 (V10 32 (Int32.toNatClampNeg y18)) H locs ls (by (first | exact om_a5349b170263 klp19_0.1 f30 hz47 | omega)) (by (first | exact om_ed38d5d51a12 hlc r31.1 f44 hq46 | omega)) (show ((V10 32 (Int32.toNatClampNeg y18))).toInt < (V 3 15).toInt from by (first | exact om_0e9116797efb hq33 | omega)) (by (first | exact om_9592d9319ffa hn hz47 | omega)) hP hD hS (lv_sub hl [0, 1, 2, 3, 4, 5] rfl)
      have r48 : Int32.toInt 0 = 0 := by decide
      exact lp19 ((24 - (Int32.toInt 0) + 1 : Int).toNat) 0 (V 30 (Int32.toNatClampNeg z13)) H locs ls (by decide) (by (first | exact om_393feb9d3e2e r14.1 r14.2 f16 | omega)) (show ((V 30 (Int32.toNatClampNeg z13))).toInt < (V 3 15).toInt from by omega) (by omega) hP hD hS (lv_sub hl [0, 1, 2, 3, 4, 5] rfl)
    · skip
      have f49 : ((V 30 (Int32.toNatClampNeg z13))).toInt = (-1) := b_eq rfl (by decide) c15
      refine lv_aload_n hx hb dX8_join_85 rfl (lv_at hl 1 rfl) ?_
      refine va_get (D := D) (ci := 8) (v := .ref (ad 27)) (fs := (xfStock ad V10 L Z)) (C := RX8) (T := TX8) (N := 16) hx hb hg inX8 hown hK hP 3 xgStock rfl 9 (by decide) (hg _ w387) (fun _ h9 => h9) rfl dX8_join_86 ?_
      refine lv_iload_n hx hb dX8_join_89 rfl (lv_at hl 2 rfl) ?_
      refine lv_bipush (v := 8) hx hb dX8_join_90 (by decide) ?_
      refine lv_imul hx hb dX8_join_92 ?_
      refine lv_topi (fun z50 ez50 => ?_)
      have hz50 : z50.toInt = p0.toInt * 8 := i_mul ez50 rfl (by decide) (by (first | exact om_d8eca449dd89 rg_p0.1 rg_p0.2 | omega))
      refine lv_iload_n hx hb dX8_join_93 rfl (lv_at hl 3 rfl) ?_
      refine lv_iadd hx hb dX8_join_94 ?_
      refine lv_topi (fun z51 ez51 => ?_)
      have hz51 : z51.toInt = z50.toInt + p1.toInt := i_add ez51 rfl rfl (by (first | exact om_582758b7b1c9 rg_p0.1 rg_p0.2 rg_p1.1 rg_p1.2 hz50 | omega))
      refine lv_aload_n hx hb dX8_join_95 rfl (lv_at hl 1 rfl) ?_
      refine va_get (D := D) (ci := 8) (v := .int (V10 3 15)) (fs := (xfStock ad V10 L Z)) (C := RX8) (T := TX8) (N := 16) hx hb hg inX8 hown hK hP 3 xgStock rfl 15 (by decide) (hg _ w394) (fun _ h9 => h9) rfl dX8_join_96 ?_
      refine g_top (v := (V 3 15)) ((up2_o hV10 (by decide)).trans (up2_o hV8 (by decide))) ?_
      refine va_iast (D := D) (i := z51) (x := (V 3 15)) hx hb hK hP hD hS 27 20 rfl rfl (i_in (a := z51.toInt) rfl (by omega)) dX8_join_99 (fun H locs hP hD hS => ?_)
      obtain ⟨V52, hV52⟩ : ∃ z, z = up2 V10 30 (Int32.toNatClampNeg z51) (V 3 15) := ⟨_, rfl⟩
      have ew53 : (xw ad kk V10 L Z).set 27 ((ad 27), .inl ((kk 27), 2400, .inl (upd (V10 30) (Int32.toNatClampNeg z51) (V 3 15)))) = xw ad kk V52 L Z := by rw [hV52]; exact xw_ss (by decide) rfl (xb_si (by decide))
      have hP : va_P D vwCl (xw ad kk V52 L Z) H := by rw [← ew53]; exact hP
      have hD : va_D A (xw ad kk V52 L Z) := by rw [← ew53]; exact hD
      have hMV52 : rgd bX V52 := hMV10.put hV52 (show (-1) ≤ ((V 3 15)).toInt ∧ ((V 3 15)).toInt ≤ 262143 from by (first | exact om_d572aa9568fd hlc r1.1 | omega))
      have agV52 : agr [(3, 15)] [30, 31, 32] V V52 := agV10.up hV52 rfl
      refine lv_goto (tgt := 150) hx hb dX8_join_100 (by decide) ?_
      refine lv_aload_n hx hb dX8_join_150 rfl (lv_at hl 1 rfl) ?_
      refine lv_dup hx hb dX8_join_151 rfl ?_
      refine va_get (D := D) (ci := 8) (v := .int (V52 3 15)) (fs := (xfStock ad V52 L Z)) (C := RX8) (T := TX8) (N := 16) hx hb hg inX8 hown hK hP 3 xgStock rfl 15 (by decide) (hg _ w394) (fun _ h9 => h9) rfl dX8_join_152 ?_
      refine g_top (v := (V 3 15)) ((up2_o hV52 (by decide)).trans ((up2_o hV10 (by decide)).trans (up2_o hV8 (by decide)))) ?_
      refine lv_iconst (v := 1) hx hb dX8_join_155 (by decide) ?_
      refine lv_iadd hx hb dX8_join_156 ?_
      refine lv_topi (fun z54 ez54 => ?_)
      have hz54 : z54.toInt = ((V 3 15)).toInt + 1 := i_add ez54 rfl (by decide) (by (first | exact om_63516cd27ca0 hlc r1.1 | omega))
      refine va_put (D := D) (ci := 8) (v := .int z54) (ty := tyX8 15) (fs := (xfStock ad V52 L Z)) (C := RX8) (T := TX8) (N := 16) hx hb hg inX8 tyX8 tyX8_ok nmX8 hown hK hP hD hS 3 xgStock rfl 15 (by decide) (hg _ w394) (fun _ h9 => h9) rfl (tyX8_ok 15 (by decide)) rfl rfl (Nat.le_of_ble_eq_true rfl) dX8_join_157 (fun H locs hP hD hS => ?_)
      obtain ⟨V55, hV55⟩ : ∃ z, z = up2 V52 3 15 z54 := ⟨_, rfl⟩
      have ew56 : (xw ad kk V52 L Z).set 3 ((ad 3), .inr (8, (xfStock ad V52 L Z).set 15 (.int z54))) = xw ad kk V55 L Z := by rw [hV55]; exact xw_ss (by decide) rfl (xb_si (by decide))
      have hP : va_P D vwCl (xw ad kk V55 L Z) H := by rw [← ew56]; exact hP
      have hD : va_D A (xw ad kk V55 L Z) := by rw [← ew56]; exact hD
      have hMV55 : rgd bX V55 := hMV52.put hV55 (show 0 ≤ z54.toInt ∧ z54.toInt ≤ 262144 from by (first | exact om_cb7b7fc8349b hlc r1.1 hz54 | omega))
      have agV55 : agr [(3, 15)] [30, 31, 32] V V55 := agV52.up hV55 rfl
      have pq57 : (V55 3 15).toInt = z54.toInt := congrArg Int32.toInt (up2_s hV55)
      have kq58 := i_clamp (x := z51) rfl (by (first | exact om_75abbf7b0b1b rg_p0.1 rg_p1.1 hz50 hz51 | omega))
      have jn59 : JN V V55 Z Z (8 * Int32.toNatClampNeg p0 + Int32.toNatClampNeg p1) := JN.mk (l := Int32.toNatClampNeg (V 3 15)) slx lnx (by omega) (by omega) hV8 hV10 hV52 (by omega) hV55 (by omega) (Or.inl ⟨rfl, by omega⟩)
      refine W.know (fun kr1 kr2 => ?_)
      refine W.widen (k := zcc Z) (n := zss Z) (Nat.sub_le _ _) (Nat.sub_le _ _) ?_
      exact W.vret hx hb hr (fun t ht hW => ⟨⟨(V55, L, Z), rfl, ⟨hMV55, agV55, rfl, zoZ, jn59⟩, ⟨by rw [ht]; exact hP, va_K.moved hW.alike hK, hD⟩, by rw [ht]; exact kr1, by rw [ht]; exact kr2⟩, hS.F ht⟩) hS.2.2 dX8_join_160
  · skip
    have f60 : z4.toInt ≤ ((V 3 15)).toInt := b_nlt rfl rfl c6
    refine lv_aload_n hx hb dX8_join_12 rfl (lv_at hl 0 rfl) ?_
    refine lv_aload_n hx hb dX8_join_13 rfl (lv_at hl 0 rfl) ?_
    refine va_get (D := D) (ci := 8) (v := .ref Z.l1) (fs := (xfStock ad V L Z)) (C := RX8) (T := TX8) (N := 16) hx hb hg inX8 hown hK hP 3 xgStock rfl 10 (by decide) (hg _ w388) (fun _ h9 => h9) rfl dX8_join_14 ?_
    refine lv_aload_n hx hb dX8_join_17 rfl (lv_at hl 0 rfl) ?_
    refine va_get (D := D) (ci := 8) (v := .int (V 3 15)) (fs := (xfStock ad V L Z)) (C := RX8) (T := TX8) (N := 16) hx hb hg inX8 hown hK hP 3 xgStock rfl 15 (by decide) (hg _ w394) (fun _ h9 => h9) rfl dX8_join_18 ?_
    refine lv_iconst (v := 2) hx hb dX8_join_21 (by decide) ?_
    refine lv_imul hx hb dX8_join_22 ?_
    refine lv_topi (fun z61 ez61 => ?_)
    have hz61 : z61.toInt = ((V 3 15)).toInt * 2 := i_mul ez61 rfl (by decide) (by (first | exact om_58a7a3048726 hlc r1.1 | omega))
    have hlnl : (V 3 15).toInt = (Z.ln : Int) := by have := sl.1; omega
    have hg0 := zc_grow (Z := Z) (q1 := 0) (q2 := 0) (c1 := Z.k1) (c2 := Z.k2) lnq (by omega)
    refine gZ_ref (gA_runS (As := [.ref Z.l1, .int z61]) (rest := [.ref (ad 3)]) hx hb hml hown hg hP hD hK hS hA hnw hgk (c_copyOf l D ks H.size (xw ad kk V L Z) (xty kk Z) 28 21 Z.l1 Z.k1 Z.ln (2 * Z.ln) (V 31) z61 rfl rfl (by (first | exact om_7ceae82653b4 hz61 hlnl | omega)) (by omega) (by omega)) w1356 w1357 w165 w1358 hdS_yJ7_copyOf_59c91 ⟨Nat.le_of_ble_eq_true rfl, Nat.le_of_ble_eq_true rfl⟩ rfl hl.1 rfl (Nat.le_of_ble_eq_true rfl) dX8_join_23 ⟨(by show zcc Z - zcc Z + 1 ≤ zcc Z; omega), (by show zss Z - zss Z + 2 * Z.ln ≤ zss Z; omega)⟩) hD hS hA (fun u1 H locs _ hP hD hK hS _ _ => ?_)
    obtain ⟨q1, c1⟩ := u1
    have hP : va_P D vwCl (xw ad kk V L Z ++ [((q1, .inl (c1, 2 * Z.ln, .inl (va_cpy (V 31) (fun _ => 0) 0 0 Z.ln))) : Nat × va_E)]) H := hP
    have hD : va_D A (xw ad kk V L Z ++ [((q1, .inl (c1, 2 * Z.ln, .inl (va_cpy (V 31) (fun _ => 0) 0 0 Z.ln))) : Nat × va_E)]) := hD
    have hK : va_K D vwCl (xty kk Z ++ [(c1, .int)]) s := hK
    refine va_put (D := D) (ci := 8) (v := .ref q1) (ty := tyX8 10) (fs := (xfStock ad V L Z)) (C := RX8) (T := TX8) (N := 16) hx hb hg inX8 tyX8 tyX8_ok nmX8 hown hK hP hD hS 3 rfl rfl 10 (by decide) (hg _ w388) (fun _ h9 => h9) rfl (tyX8_ok 10 (by decide)) rfl rfl (Nat.le_of_ble_eq_true rfl) dX8_join_26 (fun H locs hP hD hS => ?_)
    have hP : va_P D vwCl ((xw ad kk V L Z ++ [((q1, .inl (c1, 2 * Z.ln, .inl (va_cpy (V 31) (fun _ => 0) 0 0 Z.ln))) : Nat × va_E)]).set 3 ((ad 3, .inr (8, (xfStock ad V L Z).set 10 (.ref q1))) : Nat × va_E)) H := hP
    have hD : va_D A ((xw ad kk V L Z ++ [((q1, .inl (c1, 2 * Z.ln, .inl (va_cpy (V 31) (fun _ => 0) 0 0 Z.ln))) : Nat × va_E)]).set 3 ((ad 3, .inr (8, (xfStock ad V L Z).set 10 (.ref q1))) : Nat × va_E)) := hD
    refine lv_aload_n hx hb dX8_join_29 rfl (lv_at hl 0 rfl) ?_
    refine lv_aload_n hx hb dX8_join_30 rfl (lv_at hl 0 rfl) ?_
    refine va_get (D := D) (ci := 8) (v := .ref Z.l2) (fs := ((xfStock ad V L Z).set 10 (.ref q1))) (C := RX8) (T := TX8) (N := 16) hx hb hg inX8 hown hK hP 3 rfl rfl 11 (by decide) (hg _ w389) (fun _ h9 => h9) rfl dX8_join_31 ?_
    refine lv_aload_n hx hb dX8_join_34 rfl (lv_at hl 0 rfl) ?_
    refine va_get (D := D) (ci := 8) (v := .int (V 3 15)) (fs := ((xfStock ad V L Z).set 10 (.ref q1))) (C := RX8) (T := TX8) (N := 16) hx hb hg inX8 hown hK hP 3 rfl rfl 15 (by decide) (hg _ w394) (fun _ h9 => h9) rfl dX8_join_35 ?_
    refine lv_iconst (v := 2) hx hb dX8_join_38 (by decide) ?_
    refine lv_imul hx hb dX8_join_39 ?_
    refine lv_topi (fun zj ezj => ?_)
    have hzj : zj.toInt = (V 3 15).toInt * 2 := i_mul ezj rfl (by decide) (by (first | exact om_58a7a3048726 hlc r1.1 | omega))
    refine gZ_ref (gA_runS (As := [.ref Z.l2, .int zj]) (rest := [.ref (ad 3)]) hx hb hml hown hg hP hD hK hS hA hnw hgk (c_copyOf l D ks H.size ((xw ad kk V L Z ++ [((q1, .inl (c1, 2 * Z.ln, .inl (va_cpy (V 31) (fun _ => 0) 0 0 Z.ln))) : Nat × va_E)]).set 3 ((ad 3, .inr (8, (xfStock ad V L Z).set 10 (.ref q1))) : Nat × va_E)) (xty kk Z ++ [(c1, .int)]) 29 22 Z.l2 Z.k2 Z.ln (2 * Z.ln) (V 32) zj rfl rfl (by (first | exact om_58b2497b5a91 hlnl hzj | omega)) (by omega) (by omega)) w1356 w1357 w165 w1358 hdS_yJ7_copyOf_59c91 ⟨Nat.le_of_ble_eq_true rfl, Nat.le_of_ble_eq_true rfl⟩ rfl hl.1 rfl (Nat.le_of_ble_eq_true rfl) dX8_join_40 ⟨(by show zcc Z - zcc Z + 1 + 1 ≤ zcc Z; omega), (by show zss Z - zss Z + 2 * Z.ln + 2 * Z.ln ≤ zss Z; omega)⟩) hD hS hA (fun u2 H locs _ hP hD hK hS _ _ => ?_)
    obtain ⟨q2, c2⟩ := u2
    have hP : va_P D vwCl ((xw ad kk V L Z ++ [((q1, .inl (c1, 2 * Z.ln, .inl (va_cpy (V 31) (fun _ => 0) 0 0 Z.ln))) : Nat × va_E)]).set 3 ((ad 3, .inr (8, (xfStock ad V L Z).set 10 (.ref q1))) : Nat × va_E) ++ [((q2, .inl (c2, 2 * Z.ln, .inl (va_cpy (V 32) (fun _ => 0) 0 0 Z.ln))) : Nat × va_E)]) H := hP
    have hD : va_D A ((xw ad kk V L Z ++ [((q1, .inl (c1, 2 * Z.ln, .inl (va_cpy (V 31) (fun _ => 0) 0 0 Z.ln))) : Nat × va_E)]).set 3 ((ad 3, .inr (8, (xfStock ad V L Z).set 10 (.ref q1))) : Nat × va_E) ++ [((q2, .inl (c2, 2 * Z.ln, .inl (va_cpy (V 32) (fun _ => 0) 0 0 Z.ln))) : Nat × va_E)]) := hD
    have hK : va_K D vwCl ((xty kk Z ++ [(c1, .int)]) ++ [(c2, .int)]) s := hK
    refine va_put (D := D) (ci := 8) (v := .ref q2) (ty := tyX8 11) (fs := ((xfStock ad V L Z).set 10 (.ref q1))) (C := RX8) (T := TX8) (N := 16) hx hb hg inX8 tyX8 tyX8_ok nmX8 hown hK hP hD hS 3 rfl rfl 11 (by decide) (hg _ w389) (fun _ h9 => h9) rfl (tyX8_ok 11 (by decide)) rfl rfl (Nat.le_of_ble_eq_true rfl) dX8_join_43 (fun H locs hP hD hS => ?_)
    have hP : va_P D vwCl (((xw ad kk V L Z ++ [((q1, .inl (c1, 2 * Z.ln, .inl (va_cpy (V 31) (fun _ => 0) 0 0 Z.ln))) : Nat × va_E)]).set 3 ((ad 3, .inr (8, (xfStock ad V L Z).set 10 (.ref q1))) : Nat × va_E) ++ [((q2, .inl (c2, 2 * Z.ln, .inl (va_cpy (V 32) (fun _ => 0) 0 0 Z.ln))) : Nat × va_E)]).set 3 ((ad 3, .inr (8, ((xfStock ad V L Z).set 10 (.ref q1)).set 11 (.ref q2))) : Nat × va_E)) H := hP
    have hD : va_D A (((xw ad kk V L Z ++ [((q1, .inl (c1, 2 * Z.ln, .inl (va_cpy (V 31) (fun _ => 0) 0 0 Z.ln))) : Nat × va_E)]).set 3 ((ad 3, .inr (8, (xfStock ad V L Z).set 10 (.ref q1))) : Nat × va_E) ++ [((q2, .inl (c2, 2 * Z.ln, .inl (va_cpy (V 32) (fun _ => 0) 0 0 Z.ln))) : Nat × va_E)]).set 3 ((ad 3, .inr (8, ((xfStock ad V L Z).set 10 (.ref q1)).set 11 (.ref q2))) : Nat × va_E)) := hD
    obtain ⟨Z63, hZ63⟩ : ∃ z, z = Z.grow q1 q2 c1 c2 := ⟨_, rfl⟩
    obtain ⟨V62, hV62⟩ : ∃ z, z = lnz V Z.ln := ⟨_, rfl⟩
    have hP : va_P D vwCl (xw ad kk V62 L Z63) H := by rw [hZ63, hV62, xw_lnz]; exact grow_P (by rw [xw_len]; omega) hP
    have hD : va_D A (xw ad kk V62 L Z63) := by rw [hZ63, hV62, xw_lnz]; exact grow_D (by rw [xw_len]; omega) hD
    have hK : va_K D vwCl (xty kk Z63) s := by rw [hZ63, xt_lnz]; exact grow_K (by rw [xt_len]; decide) hK
    have hMV62 : rgd bX V62 := by rw [hV62]; exact rgd_lnz hMV
    have ajV62 : agr [] [31, 32] V V62 := by rw [hV62]; exact lnz_ag
    have agV62 : agr [(3, 15)] [30, 31, 32] V V62 := agV.tr ajV62 (by decide) (by decide)
    have zgr := zc_grow (Z := Z) (q1 := q1) (q2 := q2) (c1 := c1) (c2 := c2) lnq (by omega)
    have zcZ63 : zcc Z63 + 2 ≤ zcc Z := by rw [hZ63]; exact zgr.1
    have zsZ63 : zss Z63 + 4 * Z.ln = zss Z := by rw [hZ63]; exact zgr.2.1
    have zoZ63 : ZL Z Z63 := by rw [hZ63]; exact ZL.grow lnq (by omega)
    have zkZ63 : Z63.nf = Z.nf := by rw [hZ63]; rfl
    have zgZ63 : Z63.ln = 2 * Z.ln := by rw [hZ63]; rfl
    have slx : SL V62 Z63 := by rw [hV62, hZ63]; exact sl.grow (by omega)
    have lnx : LN Z63.ln := by rw [zgZ63]; exact zgr.2.2.1
    refine W.know (fun kx1 kx2 => ?_)
    have kx1 : H.size ≤ s.heap.size + (zcc Z - zcc Z + 1 + 1) := kx1
    have kx2 : tot H ≤ tot s.heap + (zss Z - zss Z + 2 * Z.ln + 2 * Z.ln) := kx2
    refine W.tight (k := zcc Z - zcc Z63) (n := zss Z - zss Z63) (by omega) (by omega) ?_
    have pq64 : (V62 3 15).toInt = ((V 3 15)).toInt := congrArg Int32.toInt (ajV62 3 15 rfl)
    have pq65 : (V62 3 13).toInt = ((V 3 13)).toInt := congrArg Int32.toInt (ajV62 3 13 rfl)
    have hltz : (V 3 15).toInt < (Z63.ln : Int) := by omega
    have kl := i_clamp (x := V 3 15) rfl (by (first | exact om_3de61939a92f r5 f60 zgZ63 hltz | omega))
    have kp0 := i_clamp (x := p0) rfl (by (first | exact om_eafa9039069c rg_p0.1 | omega))
    have kp1 := i_clamp (x := p1) rfl (by (first | exact om_eafa9039069c rg_p1.1 | omega))
    have hch := slx.2.2.1 (Int32.toNatClampNeg p0) (Int32.toNatClampNeg p1) (by omega) (by omega)
    refine lv_aload_n hx hb dX8_join_46 rfl (lv_at hl 0 rfl) ?_
    refine va_get (D := D) (ci := 8) (v := .ref Z63.l1) (fs := (xfStock ad V62 L Z63)) (C := RX8) (T := TX8) (N := 16) hx hb hg inX8 hown hK hP 3 xgStock rfl 10 (by decide) (hg _ w388) (fun _ h9 => h9) rfl dX8_join_47 ?_
    refine lv_aload_n hx hb dX8_join_50 rfl (lv_at hl 0 rfl) ?_
    refine va_get (D := D) (ci := 8) (v := .int (V62 3 15)) (fs := (xfStock ad V62 L Z63)) (C := RX8) (T := TX8) (N := 16) hx hb hg inX8 hown hK hP 3 xgStock rfl 15 (by decide) (hg _ w394) (fun _ h9 => h9) rfl dX8_join_51 ?_
    refine g_top (v := (V 3 15)) (ajV62 3 15 rfl) ?_
    refine lv_iload_n hx hb dX8_join_54 rfl (lv_at hl 3 rfl) ?_
    refine va_iast (D := D) (i := (V 3 15)) (x := p2) hx hb hK hP hD hS 28 21 rfl rfl (i_in (a := ((V 3 15)).toInt) rfl (by omega)) dX8_join_55 (fun H locs hP hD hS => ?_)
    obtain ⟨V66, hV66⟩ : ∃ z, z = up2 V62 31 (Int32.toNatClampNeg (V 3 15)) p2 := ⟨_, rfl⟩
    have ew67 : (xw ad kk V62 L Z63).set 28 (Z63.l1, .inl (Z63.k1, Z63.ln, .inl (upd (V62 31) (Int32.toNatClampNeg (V 3 15)) p2))) = xw ad kk V66 L Z63 := by rw [hV66]; exact xw_ss (by decide) rfl (xb_si (by decide))
    have hP : va_P D vwCl (xw ad kk V66 L Z63) H := by rw [← ew67]; exact hP
    have hD : va_D A (xw ad kk V66 L Z63) := by rw [← ew67]; exact hD
    have hMV66 : rgd bX V66 := hMV62.put hV66 (i_full _)
    have agV66 : agr [(3, 15)] [30, 31, 32] V V66 := agV62.up hV66 rfl
    refine lv_aload_n hx hb dX8_join_56 rfl (lv_at hl 0 rfl) ?_
    refine va_get (D := D) (ci := 8) (v := .ref Z63.l2) (fs := (xfStock ad V66 L Z63)) (C := RX8) (T := TX8) (N := 16) hx hb hg inX8 hown hK hP 3 xgStock rfl 11 (by decide) (hg _ w389) (fun _ h9 => h9) rfl dX8_join_57 ?_
    refine lv_aload_n hx hb dX8_join_60 rfl (lv_at hl 0 rfl) ?_
    refine va_get (D := D) (ci := 8) (v := .int (V66 3 15)) (fs := (xfStock ad V66 L Z63)) (C := RX8) (T := TX8) (N := 16) hx hb hg inX8 hown hK hP 3 xgStock rfl 15 (by decide) (hg _ w394) (fun _ h9 => h9) rfl dX8_join_61 ?_
    refine g_top (v := (V 3 15)) ((up2_o hV66 (by decide)).trans (ajV62 3 15 rfl)) ?_
    refine lv_iconst (v := (-1)) hx hb dX8_join_64 (by decide) ?_
    refine va_iast (D := D) (i := (V 3 15)) (x := (-1)) hx hb hK hP hD hS 29 22 rfl rfl (i_in (a := ((V 3 15)).toInt) rfl (by omega)) dX8_join_65 (fun H locs hP hD hS => ?_)
    obtain ⟨V68, hV68⟩ : ∃ z, z = up2 V66 32 (Int32.toNatClampNeg (V 3 15)) (-1) := ⟨_, rfl⟩
    have ew69 : (xw ad kk V66 L Z63).set 29 (Z63.l2, .inl (Z63.k2, Z63.ln, .inl (upd (V66 32) (Int32.toNatClampNeg (V 3 15)) (-1)))) = xw ad kk V68 L Z63 := by rw [hV68]; exact xw_ss (by decide) rfl (xb_si (by decide))
    have hP : va_P D vwCl (xw ad kk V68 L Z63) H := by rw [← ew69]; exact hP
    have hD : va_D A (xw ad kk V68 L Z63) := by rw [← ew69]; exact hD
    have hMV68 : rgd bX V68 := hMV66.put hV68 (show (-1) ≤ Int32.toInt (-1) ∧ Int32.toInt (-1) ≤ 262143 from by decide)
    have agV68 : agr [(3, 15)] [30, 31, 32] V V68 := agV66.up hV68 rfl
    refine lv_aload_n hx hb dX8_join_66 rfl (lv_at hl 0 rfl) ?_
    refine va_get (D := D) (ci := 8) (v := .ref (ad 27)) (fs := (xfStock ad V68 L Z63)) (C := RX8) (T := TX8) (N := 16) hx hb hg inX8 hown hK hP 3 xgStock rfl 9 (by decide) (hg _ w387) (fun _ h9 => h9) rfl dX8_join_67 ?_
    refine lv_iload_n hx hb dX8_join_70 rfl (lv_at hl 1 rfl) ?_
    refine lv_bipush (v := 8) hx hb dX8_join_71 (by decide) ?_
    refine lv_imul hx hb dX8_join_73 ?_
    refine lv_topi (fun z70 ez70 => ?_)
    have hz70 : z70.toInt = p0.toInt * 8 := i_mul ez70 rfl (by decide) (by (first | exact om_d8eca449dd89 rg_p0.1 rg_p0.2 | omega))
    refine lv_iload_n hx hb dX8_join_74 rfl (lv_at hl 2 rfl) ?_
    refine lv_iadd hx hb dX8_join_75 ?_
    refine lv_topi (fun z71 ez71 => ?_)
    have hz71 : z71.toInt = z70.toInt + p1.toInt := i_add ez71 rfl rfl (by (first | exact om_582758b7b1c9 rg_p0.1 rg_p0.2 rg_p1.1 rg_p1.2 hz70 | omega))
    refine va_iald (D := D) (i := z71) hx hb hK hP 27 20 rfl rfl (i_in (a := z71.toInt) rfl (by omega)) dX8_join_76 ?_
    refine g_top (v := (V 30 (Int32.toNatClampNeg z71))) ((up2_o hV68 (by decide)).trans ((up2_o hV66 (by decide)).trans (ajV62 30 (Int32.toNatClampNeg z71) rfl))) ?_
    have r72 : (-1) ≤ ((V 30 (Int32.toNatClampNeg z71))).toInt ∧ ((V 30 (Int32.toNatClampNeg z71))).toInt ≤ 262143 := hMV 30 (Int32.toNatClampNeg z71)
    refine lv_istore (lv' := [(4, .int (V 30 (Int32.toNatClampNeg z71))), (0, .ref (ad 3)), (1, .int p0), (2, .int p1), (3, .int p2)]) hx hb dX8_join_77 hl (by decide) rfl (fun ls hl => ?_)
    have kzz := i_clamp (x := z71) rfl (by (first | exact om_75abbf7b0b1b rg_p0.1 rg_p1.1 hz70 hz71 | omega))
    have hpl : Int32.toNatClampNeg z71 = 8 * Int32.toNatClampNeg p0 + Int32.toNatClampNeg p1 := by (first | exact om_19f77980e03c kp0 kp1 hz70 hz71 kzz | omega)
    have hch2 := hch
    rw [← hpl] at hch2
    have pq73 : (V62 30 (Int32.toNatClampNeg z71)).toInt = ((V 30 (Int32.toNatClampNeg z71))).toInt := congrArg Int32.toInt (ajV62 30 (Int32.toNatClampNeg z71) rfl)
    refine lv_iload hx hb dX8_join_79 (lv_at hl 0 rfl) ?_
    refine lv_iconst (v := (-1)) hx hb dX8_join_81 (by decide) ?_
    refine lv_icmp_ne (tgt := 103) hx hb dX8_join_82 (by decide) (fun c74 => ?_) (fun c74 => ?_)
    · skip
      have f75 : ((V 30 (Int32.toNatClampNeg z71))).toInt ≠ (-1) := b_neq rfl (by decide) c74
      refine lv_iconst (v := 0) hx hb dX8_join_103 (by decide) ?_
      refine lv_istore (lv' := [(5, .int 0), (4, .int (V 30 (Int32.toNatClampNeg z71))), (0, .ref (ad 3)), (1, .int p0), (2, .int p1), (3, .int p2)]) hx hb dX8_join_104 hl (by decide) rfl (fun ls hl => ?_)
      have lp78 : ∀ (fulp78 : Nat) (y76 : Int32) (y77 : Int32) (H : Heap) (locs : List Loc) (ls : Array Slot), 0 ≤ y76.toInt ∧ y76.toInt ≤ 24 → 0 ≤ y77.toInt ∧ y77.toInt ≤ 262143 → y77.toInt < (V 3 15).toInt → 24 - y76.toInt < (fulp78 : Int) → va_P D vwCl (xw ad kk V68 L Z63) H → va_D A (xw ad kk V68 L Z63) → va_S A s.heap H locs → lv_has ls 6 [(5, .int y76), (4, .int y77), (0, .ref (ad 3)), (1, .int p0), (2, .int p1), (3, .int p2)] → W p l e (r_x_join Z) s m ([.ref (ad 3), .int p0, .int p1, .int p2] : List Value).toArray below meth c H locs (zcc Z - zcc Z63) (zss Z - zss Z63) (MQ below (q_x_join D ks ad kk V L Z p0 p1 p2 A) ([.ref (ad 3), .int p0, .int p1, .int p2] : List Value).toArray s (zcc Z) (zss Z) A) (F0 m 106 ls []) := by
        intro fulp78
        induction fulp78 with
        | zero =>
          intro y76 y77 H locs ls klp78_0 klp78_1 xlp78_0 hn  hP hD hS hl
          exfalso; omega
        | succ fulp78 ihlp78 =>
          intro y76 y77 H locs ls klp78_0 klp78_1 xlp78_0 hn  hP hD hS hl
          refine lv_iload hx hb dX8_join_106 (lv_at hl 0 rfl) ?_
          refine lv_bipush (v := 24) hx hb dX8_join_108 (by decide) ?_
          refine lv_icmp_ge (tgt := 139) hx hb dX8_join_110 (by decide) (fun c79 => ?_) (fun c79 => ?_)
          · skip
            have f80 : 24 ≤ y76.toInt := b_le (by decide) rfl c79
            refine lv_aload_n hx hb dX8_join_139 rfl (lv_at hl 2 rfl) ?_
            refine va_get (D := D) (ci := 8) (v := .ref Z63.l2) (fs := (xfStock ad V68 L Z63)) (C := RX8) (T := TX8) (N := 16) hx hb hg inX8 hown hK hP 3 xgStock rfl 11 (by decide) (hg _ w389) (fun _ h9 => h9) rfl dX8_join_140 ?_
            refine lv_iload hx hb dX8_join_143 (lv_at hl 1 rfl) ?_
            refine lv_aload_n hx hb dX8_join_145 rfl (lv_at hl 2 rfl) ?_
            refine va_get (D := D) (ci := 8) (v := .int (V68 3 15)) (fs := (xfStock ad V68 L Z63)) (C := RX8) (T := TX8) (N := 16) hx hb hg inX8 hown hK hP 3 xgStock rfl 15 (by decide) (hg _ w394) (fun _ h9 => h9) rfl dX8_join_146 ?_
            refine g_top (v := (V 3 15)) ((up2_o hV68 (by decide)).trans ((up2_o hV66 (by decide)).trans (ajV62 3 15 rfl))) ?_
            refine va_iast (D := D) (i := y77) (x := (V 3 15)) hx hb hK hP hD hS 29 22 rfl rfl (i_in (a := y77.toInt) rfl (by omega)) dX8_join_149 (fun H locs hP hD hS => ?_)
            obtain ⟨V81, hV81⟩ : ∃ z, z = up2 V68 32 (Int32.toNatClampNeg y77) (V 3 15) := ⟨_, rfl⟩
            have ew82 : (xw ad kk V68 L Z63).set 29 (Z63.l2, .inl (Z63.k2, Z63.ln, .inl (upd (V68 32) (Int32.toNatClampNeg y77) (V 3 15)))) = xw ad kk V81 L Z63 := by rw [hV81]; exact xw_ss (by decide) rfl (xb_si (by decide))
            have hP : va_P D vwCl (xw ad kk V81 L Z63) H := by rw [← ew82]; exact hP
            have hD : va_D A (xw ad kk V81 L Z63) := by rw [← ew82]; exact hD
            have hMV81 : rgd bX V81 := hMV68.put hV81 (show (-1) ≤ ((V 3 15)).toInt ∧ ((V 3 15)).toInt ≤ 262143 from by (first | exact om_ca8123c7c681 hlc klp78_1.1 xlp78_0 | omega))
            have agV81 : agr [(3, 15)] [30, 31, 32] V V81 := agV68.up hV81 rfl
            refine lv_aload_n hx hb dX8_join_150 rfl (lv_at hl 2 rfl) ?_
            refine lv_dup hx hb dX8_join_151 rfl ?_
            refine va_get (D := D) (ci := 8) (v := .int (V81 3 15)) (fs := (xfStock ad V81 L Z63)) (C := RX8) (T := TX8) (N := 16) hx hb hg inX8 hown hK hP 3 xgStock rfl 15 (by decide) (hg _ w394) (fun _ h9 => h9) rfl dX8_join_152 ?_
            refine g_top (v := (V 3 15)) ((up2_o hV81 (by decide)).trans ((up2_o hV68 (by decide)).trans ((up2_o hV66 (by decide)).trans (ajV62 3 15 rfl)))) ?_
            refine lv_iconst (v := 1) hx hb dX8_join_155 (by decide) ?_
            refine lv_iadd hx hb dX8_join_156 ?_
            refine lv_topi (fun z83 ez83 => ?_)
            have hz83 : z83.toInt = ((V 3 15)).toInt + 1 := i_add ez83 rfl (by decide) (by (first | exact om_f92aeb5a09ea hlc klp78_1.1 xlp78_0 | omega))
            refine va_put (D := D) (ci := 8) (v := .int z83) (ty := tyX8 15) (fs := (xfStock ad V81 L Z63)) (C := RX8) (T := TX8) (N := 16) hx hb hg inX8 tyX8 tyX8_ok nmX8 hown hK hP hD hS 3 xgStock rfl 15 (by decide) (hg _ w394) (fun _ h9 => h9) rfl (tyX8_ok 15 (by decide)) rfl rfl (Nat.le_of_ble_eq_true rfl) dX8_join_157 (fun H locs hP hD hS => ?_)
            obtain ⟨V84, hV84⟩ : ∃ z, z = up2 V81 3 15 z83 := ⟨_, rfl⟩
            have ew85 : (xw ad kk V81 L Z63).set 3 ((ad 3), .inr (8, (xfStock ad V81 L Z63).set 15 (.int z83))) = xw ad kk V84 L Z63 := by rw [hV84]; exact xw_ss (by decide) rfl (xb_si (by decide))
            have hP : va_P D vwCl (xw ad kk V84 L Z63) H := by rw [← ew85]; exact hP
            have hD : va_D A (xw ad kk V84 L Z63) := by rw [← ew85]; exact hD
            have hMV84 : rgd bX V84 := hMV81.put hV84 (show 0 ≤ z83.toInt ∧ z83.toInt ≤ 262144 from by (first | exact om_58c2777555e7 hlc klp78_1.1 xlp78_0 hz83 | omega))
            have agV84 : agr [(3, 15)] [30, 31, 32] V V84 := agV81.up hV84 rfl
            have pq86 : (V84 3 15).toInt = z83.toInt := congrArg Int32.toInt (up2_s hV84)
            have kq87 := i_clamp (x := y77) rfl (by (first | exact om_eafa9039069c klp78_1.1 | omega))
            have jn88 : JN V62 V84 Z63 Z63 (8 * Int32.toNatClampNeg p0 + Int32.toNatClampNeg p1) := JN.mk (l := Int32.toNatClampNeg (V 3 15)) slx lnx (by omega) (by omega) hV66 hV68 hV81 (by omega) hV84 (by omega) (Or.inr ⟨rfl, by omega, by rw [← hpl]; omega⟩)
            have jn89 : JN V V84 Z Z63 (8 * Int32.toNatClampNeg p0 + Int32.toNatClampNeg p1) := by rw [hV62, hZ63] at jn88; rw [hZ63]; exact JN.gr jn88
            refine W.know (fun kr1 kr2 => ?_)
            refine W.widen (k := zcc Z) (n := zss Z) (Nat.sub_le _ _) (Nat.sub_le _ _) ?_
            exact W.vret hx hb hr (fun t ht hW => ⟨⟨(V84, L, Z63), rfl, ⟨hMV84, agV84, rfl, zoZ63, jn89⟩, ⟨by rw [ht]; exact hP, va_K.moved hW.alike hK, hD⟩, by rw [ht]; exact kr1, by rw [ht]; exact kr2⟩, hS.F ht⟩) hS.2.2 dX8_join_160
          · skip
            have f90 : y76.toInt < 24 := b_nle (by decide) rfl c79
            refine lv_aload_n hx hb dX8_join_113 rfl (lv_at hl 2 rfl) ?_
            refine va_get (D := D) (ci := 8) (v := .ref Z63.l2) (fs := (xfStock ad V68 L Z63)) (C := RX8) (T := TX8) (N := 16) hx hb hg inX8 hown hK hP 3 xgStock rfl 11 (by decide) (hg _ w389) (fun _ h9 => h9) rfl dX8_join_114 ?_
            refine lv_iload hx hb dX8_join_117 (lv_at hl 1 rfl) ?_
            refine va_iald (D := D) (i := y77) hx hb hK hP 29 22 rfl rfl (i_in (a := y77.toInt) rfl (by omega)) dX8_join_119 ?_
            have r91 : (-1) ≤ ((V68 32 (Int32.toNatClampNeg y77))).toInt ∧ ((V68 32 (Int32.toNatClampNeg y77))).toInt ≤ 262143 := hMV68 32 (Int32.toNatClampNeg y77)
            have kq92 := i_clamp (x := y77) rfl (by (first | exact om_eafa9039069c klp78_1.1 | omega))
            have hq93 : (V68 32 (Int32.toNatClampNeg y77)).toInt < (V 3 15).toInt := by have q := slx.2.2.2 (Int32.toNatClampNeg y77) (by omega); rw [up2_k hV68 (by omega), up2_o hV66 (by decide)]; omega
            refine lv_iconst (v := (-1)) hx hb dX8_join_120 (by decide) ?_
            refine lv_icmp_eq (tgt := 139) hx hb dX8_join_121 (by decide) (fun c94 => ?_) (fun c94 => ?_)
            · skip
              have f95 : ((V68 32 (Int32.toNatClampNeg y77))).toInt = (-1) := b_eq rfl (by decide) c94
              refine lv_aload_n hx hb dX8_join_139 rfl (lv_at hl 2 rfl) ?_
              refine va_get (D := D) (ci := 8) (v := .ref Z63.l2) (fs := (xfStock ad V68 L Z63)) (C := RX8) (T := TX8) (N := 16) hx hb hg inX8 hown hK hP 3 xgStock rfl 11 (by decide) (hg _ w389) (fun _ h9 => h9) rfl dX8_join_140 ?_
              refine lv_iload hx hb dX8_join_143 (lv_at hl 1 rfl) ?_
              refine lv_aload_n hx hb dX8_join_145 rfl (lv_at hl 2 rfl) ?_
              refine va_get (D := D) (ci := 8) (v := .int (V68 3 15)) (fs := (xfStock ad V68 L Z63)) (C := RX8) (T := TX8) (N := 16) hx hb hg inX8 hown hK hP 3 xgStock rfl 15 (by decide) (hg _ w394) (fun _ h9 => h9) rfl dX8_join_146 ?_
              refine g_top (v := (V 3 15)) ((up2_o hV68 (by decide)).trans ((up2_o hV66 (by decide)).trans (ajV62 3 15 rfl))) ?_
              refine va_iast (D := D) (i := y77) (x := (V 3 15)) hx hb hK hP hD hS 29 22 rfl rfl (i_in (a := y77.toInt) rfl (by omega)) dX8_join_149 (fun H locs hP hD hS => ?_)
              obtain ⟨V96, hV96⟩ : ∃ z, z = up2 V68 32 (Int32.toNatClampNeg y77) (V 3 15) := ⟨_, rfl⟩
              have ew97 : (xw ad kk V68 L Z63).set 29 (Z63.l2, .inl (Z63.k2, Z63.ln, .inl (upd (V68 32) (Int32.toNatClampNeg y77) (V 3 15)))) = xw ad kk V96 L Z63 := by rw [hV96]; exact xw_ss (by decide) rfl (xb_si (by decide))
              have hP : va_P D vwCl (xw ad kk V96 L Z63) H := by rw [← ew97]; exact hP
              have hD : va_D A (xw ad kk V96 L Z63) := by rw [← ew97]; exact hD
              have hMV96 : rgd bX V96 := hMV68.put hV96 (show (-1) ≤ ((V 3 15)).toInt ∧ ((V 3 15)).toInt ≤ 262143 from by (first | exact om_ca8123c7c681 hlc klp78_1.1 xlp78_0 | omega))
              have agV96 : agr [(3, 15)] [30, 31, 32] V V96 := agV68.up hV96 rfl
              refine lv_aload_n hx hb dX8_join_150 rfl (lv_at hl 2 rfl) ?_
              refine lv_dup hx hb dX8_join_151 rfl ?_
              refine va_get (D := D) (ci := 8) (v := .int (V96 3 15)) (fs := (xfStock ad V96 L Z63)) (C := RX8) (T := TX8) (N := 16) hx hb hg inX8 hown hK hP 3 xgStock rfl 15 (by decide) (hg _ w394) (fun _ h9 => h9) rfl dX8_join_152 ?_
              refine g_top (v := (V 3 15)) ((up2_o hV96 (by decide)).trans ((up2_o hV68 (by decide)).trans ((up2_o hV66 (by decide)).trans (ajV62 3 15 rfl)))) ?_
              refine lv_iconst (v := 1) hx hb dX8_join_155 (by decide) ?_
              refine lv_iadd hx hb dX8_join_156 ?_
              refine lv_topi (fun z98 ez98 => ?_)
              have hz98 : z98.toInt = ((V 3 15)).toInt + 1 := i_add ez98 rfl (by decide) (by (first | exact om_f92aeb5a09ea hlc klp78_1.1 xlp78_0 | omega))
              refine va_put (D := D) (ci := 8) (v := .int z98) (ty := tyX8 15) (fs := (xfStock ad V96 L Z63)) (C := RX8) (T := TX8) (N := 16) hx hb hg inX8 tyX8 tyX8_ok nmX8 hown hK hP hD hS 3 xgStock rfl 15 (by decide) (hg _ w394) (fun _ h9 => h9) rfl (tyX8_ok 15 (by decide)) rfl rfl (Nat.le_of_ble_eq_true rfl) dX8_join_157 (fun H locs hP hD hS => ?_)
              obtain ⟨V99, hV99⟩ : ∃ z, z = up2 V96 3 15 z98 := ⟨_, rfl⟩
              have ew100 : (xw ad kk V96 L Z63).set 3 ((ad 3), .inr (8, (xfStock ad V96 L Z63).set 15 (.int z98))) = xw ad kk V99 L Z63 := by rw [hV99]; exact xw_ss (by decide) rfl (xb_si (by decide))
              have hP : va_P D vwCl (xw ad kk V99 L Z63) H := by rw [← ew100]; exact hP
              have hD : va_D A (xw ad kk V99 L Z63) := by rw [← ew100]; exact hD
              have hMV99 : rgd bX V99 := hMV96.put hV99 (show 0 ≤ z98.toInt ∧ z98.toInt ≤ 262144 from by (first | exact om_58c2777555e7 hlc klp78_1.1 xlp78_0 hz98 | omega))
              have agV99 : agr [(3, 15)] [30, 31, 32] V V99 := agV96.up hV99 rfl
              have pq101 : (V99 3 15).toInt = z98.toInt := congrArg Int32.toInt (up2_s hV99)
              have kq102 := i_clamp (x := y77) rfl (by (first | exact om_eafa9039069c klp78_1.1 | omega))
              have jn103 : JN V62 V99 Z63 Z63 (8 * Int32.toNatClampNeg p0 + Int32.toNatClampNeg p1) := JN.mk (l := Int32.toNatClampNeg (V 3 15)) slx lnx (by omega) (by omega) hV66 hV68 hV96 (by omega) hV99 (by omega) (Or.inr ⟨rfl, by omega, by rw [← hpl]; omega⟩)
              have jn104 : JN V V99 Z Z63 (8 * Int32.toNatClampNeg p0 + Int32.toNatClampNeg p1) := by rw [hV62, hZ63] at jn103; rw [hZ63]; exact JN.gr jn103
              refine W.know (fun kr1 kr2 => ?_)
              refine W.widen (k := zcc Z) (n := zss Z) (Nat.sub_le _ _) (Nat.sub_le _ _) ?_
              exact W.vret hx hb hr (fun t ht hW => ⟨⟨(V99, L, Z63), rfl, ⟨hMV99, agV99, rfl, zoZ63, jn104⟩, ⟨by rw [ht]; exact hP, va_K.moved hW.alike hK, hD⟩, by rw [ht]; exact kr1, by rw [ht]; exact kr2⟩, hS.F ht⟩) hS.2.2 dX8_join_160
            · skip
              have f105 : ((V68 32 (Int32.toNatClampNeg y77))).toInt ≠ (-1) := b_neq rfl (by decide) c94
              refine lv_aload_n hx hb dX8_join_124 rfl (lv_at hl 2 rfl) ?_
              refine va_get (D := D) (ci := 8) (v := .ref Z63.l2) (fs := (xfStock ad V68 L Z63)) (C := RX8) (T := TX8) (N := 16) hx hb hg inX8 hown hK hP 3 xgStock rfl 11 (by decide) (hg _ w389) (fun _ h9 => h9) rfl dX8_join_125 ?_
              refine lv_iload hx hb dX8_join_128 (lv_at hl 1 rfl) ?_
              refine va_iald (D := D) (i := y77) hx hb hK hP 29 22 rfl rfl (i_in (a := y77.toInt) rfl (by omega)) dX8_join_130 ?_
              have kq106 := i_clamp (x := y77) rfl (by (first | exact om_eafa9039069c klp78_1.1 | omega))
              have hq107 : (V68 32 (Int32.toNatClampNeg y77)).toInt < (V 3 15).toInt := by have q := slx.2.2.2 (Int32.toNatClampNeg y77) (by omega); rw [up2_k hV68 (by omega), up2_o hV66 (by decide)]; omega
              refine lv_istore (lv' := [(4, .int (V68 32 (Int32.toNatClampNeg y77))), (5, .int y76), (0, .ref (ad 3)), (1, .int p0), (2, .int p1), (3, .int p2)]) hx hb dX8_join_131 hl (by decide) rfl (fun ls hl => ?_)
              obtain ⟨z108, ez108⟩ : ∃ y : Int32, y = y76 + 1 := ⟨_, rfl⟩
              have hz108 : z108.toInt = y76.toInt + 1 := i_add ez108 rfl (by decide) (by (first | exact om_bc9106cf44c9 klp78_0.1 f90 | omega))
              refine lv_iinc (v := z108) (lv' := [(5, .int z108), (4, .int (V68 32 (Int32.toNatClampNeg y77))), (0, .ref (ad 3)), (1, .int p0), (2, .int p1), (3, .int p2)]) hx hb dX8_join_133 hl (k := 1) rfl (by rw [ez108]; rfl) (by decide) rfl (fun ls hl => ?_)
              refine lv_goto (tgt := 106) hx hb dX8_join_136 (by decide) ?_
              exact ihlp78 z108 (V68 32 (Int32.toNatClampNeg y77)) H locs ls (by (first | exact om_a5349b170263 klp78_0.1 f90 hz108 | omega)) (by (first | exact om_68f131c046bb hlc r91.1 hq93 f105 | omega)) (show ((V68 32 (Int32.toNatClampNeg y77))).toInt < (V 3 15).toInt from by (first | exact om_0e9116797efb hq93 | omega)) (by (first | exact om_9592d9319ffa hn hz108 | omega)) hP hD hS (lv_sub hl [0, 1, 2, 3, 4, 5] rfl)
      have r109 : Int32.toInt 0 = 0 := by decide
      exact lp78 ((24 - (Int32.toInt 0) + 1 : Int).toNat) 0 (V 30 (Int32.toNatClampNeg z71)) H locs ls (by decide) (by (first | exact om_393feb9d3e2e r72.1 r72.2 f75 | omega)) (show ((V 30 (Int32.toNatClampNeg z71))).toInt < (V 3 15).toInt from by omega) (by omega) hP hD hS (lv_sub hl [0, 1, 2, 3, 4, 5] rfl)
    · skip
      have f110 : ((V 30 (Int32.toNatClampNeg z71))).toInt = (-1) := b_eq rfl (by decide) c74
      refine lv_aload_n hx hb dX8_join_85 rfl (lv_at hl 1 rfl) ?_
      refine va_get (D := D) (ci := 8) (v := .ref (ad 27)) (fs := (xfStock ad V68 L Z63)) (C := RX8) (T := TX8) (N := 16) hx hb hg inX8 hown hK hP 3 xgStock rfl 9 (by decide) (hg _ w387) (fun _ h9 => h9) rfl dX8_join_86 ?_
      refine lv_iload_n hx hb dX8_join_89 rfl (lv_at hl 2 rfl) ?_
      refine lv_bipush (v := 8) hx hb dX8_join_90 (by decide) ?_
      refine lv_imul hx hb dX8_join_92 ?_
      refine lv_topi (fun z111 ez111 => ?_)
      have hz111 : z111.toInt = p0.toInt * 8 := i_mul ez111 rfl (by decide) (by (first | exact om_d8eca449dd89 rg_p0.1 rg_p0.2 | omega))
      refine lv_iload_n hx hb dX8_join_93 rfl (lv_at hl 3 rfl) ?_
      refine lv_iadd hx hb dX8_join_94 ?_
      refine lv_topi (fun z112 ez112 => ?_)
      have hz112 : z112.toInt = z111.toInt + p1.toInt := i_add ez112 rfl rfl (by (first | exact om_582758b7b1c9 rg_p0.1 rg_p0.2 rg_p1.1 rg_p1.2 hz111 | omega))
      refine lv_aload_n hx hb dX8_join_95 rfl (lv_at hl 1 rfl) ?_
      refine va_get (D := D) (ci := 8) (v := .int (V68 3 15)) (fs := (xfStock ad V68 L Z63)) (C := RX8) (T := TX8) (N := 16) hx hb hg inX8 hown hK hP 3 xgStock rfl 15 (by decide) (hg _ w394) (fun _ h9 => h9) rfl dX8_join_96 ?_
      refine g_top (v := (V 3 15)) ((up2_o hV68 (by decide)).trans ((up2_o hV66 (by decide)).trans (ajV62 3 15 rfl))) ?_
      refine va_iast (D := D) (i := z112) (x := (V 3 15)) hx hb hK hP hD hS 27 20 rfl rfl (i_in (a := z112.toInt) rfl (by omega)) dX8_join_99 (fun H locs hP hD hS => ?_)
      obtain ⟨V113, hV113⟩ : ∃ z, z = up2 V68 30 (Int32.toNatClampNeg z112) (V 3 15) := ⟨_, rfl⟩
      have ew114 : (xw ad kk V68 L Z63).set 27 ((ad 27), .inl ((kk 27), 2400, .inl (upd (V68 30) (Int32.toNatClampNeg z112) (V 3 15)))) = xw ad kk V113 L Z63 := by rw [hV113]; exact xw_ss (by decide) rfl (xb_si (by decide))
      have hP : va_P D vwCl (xw ad kk V113 L Z63) H := by rw [← ew114]; exact hP
      have hD : va_D A (xw ad kk V113 L Z63) := by rw [← ew114]; exact hD
      have hMV113 : rgd bX V113 := hMV68.put hV113 (show (-1) ≤ ((V 3 15)).toInt ∧ ((V 3 15)).toInt ≤ 262143 from by (first | exact om_ca44e42f4839 hlc r5 f60 zgZ63 hltz | omega))
      have agV113 : agr [(3, 15)] [30, 31, 32] V V113 := agV68.up hV113 rfl
      refine lv_goto (tgt := 150) hx hb dX8_join_100 (by decide) ?_
      refine lv_aload_n hx hb dX8_join_150 rfl (lv_at hl 1 rfl) ?_
      refine lv_dup hx hb dX8_join_151 rfl ?_
      refine va_get (D := D) (ci := 8) (v := .int (V113 3 15)) (fs := (xfStock ad V113 L Z63)) (C := RX8) (T := TX8) (N := 16) hx hb hg inX8 hown hK hP 3 xgStock rfl 15 (by decide) (hg _ w394) (fun _ h9 => h9) rfl dX8_join_152 ?_
      refine g_top (v := (V 3 15)) ((up2_o hV113 (by decide)).trans ((up2_o hV68 (by decide)).trans ((up2_o hV66 (by decide)).trans (ajV62 3 15 rfl)))) ?_
      refine lv_iconst (v := 1) hx hb dX8_join_155 (by decide) ?_
      refine lv_iadd hx hb dX8_join_156 ?_
      refine lv_topi (fun z115 ez115 => ?_)
      have hz115 : z115.toInt = ((V 3 15)).toInt + 1 := i_add ez115 rfl (by decide) (by (first | exact om_0fa10e9e3498 hlc r5 f60 zgZ63 hltz | omega))
      refine va_put (D := D) (ci := 8) (v := .int z115) (ty := tyX8 15) (fs := (xfStock ad V113 L Z63)) (C := RX8) (T := TX8) (N := 16) hx hb hg inX8 tyX8 tyX8_ok nmX8 hown hK hP hD hS 3 xgStock rfl 15 (by decide) (hg _ w394) (fun _ h9 => h9) rfl (tyX8_ok 15 (by decide)) rfl rfl (Nat.le_of_ble_eq_true rfl) dX8_join_157 (fun H locs hP hD hS => ?_)
      obtain ⟨V116, hV116⟩ : ∃ z, z = up2 V113 3 15 z115 := ⟨_, rfl⟩
      have ew117 : (xw ad kk V113 L Z63).set 3 ((ad 3), .inr (8, (xfStock ad V113 L Z63).set 15 (.int z115))) = xw ad kk V116 L Z63 := by rw [hV116]; exact xw_ss (by decide) rfl (xb_si (by decide))
      have hP : va_P D vwCl (xw ad kk V116 L Z63) H := by rw [← ew117]; exact hP
      have hD : va_D A (xw ad kk V116 L Z63) := by rw [← ew117]; exact hD
      have hMV116 : rgd bX V116 := hMV113.put hV116 (show 0 ≤ z115.toInt ∧ z115.toInt ≤ 262144 from by (first | exact om_03c6ea50aeb8 hlc r5 f60 zgZ63 hltz hz115 | omega))
      have agV116 : agr [(3, 15)] [30, 31, 32] V V116 := agV113.up hV116 rfl
      have pq118 : (V116 3 15).toInt = z115.toInt := congrArg Int32.toInt (up2_s hV116)
      have kq119 := i_clamp (x := z112) rfl (by (first | exact om_75abbf7b0b1b rg_p0.1 rg_p1.1 hz111 hz112 | omega))
      have jn120 : JN V62 V116 Z63 Z63 (8 * Int32.toNatClampNeg p0 + Int32.toNatClampNeg p1) := JN.mk (l := Int32.toNatClampNeg (V 3 15)) slx lnx (by omega) (by omega) hV66 hV68 hV113 (by omega) hV116 (by omega) (Or.inl ⟨rfl, by omega⟩)
      have jn121 : JN V V116 Z Z63 (8 * Int32.toNatClampNeg p0 + Int32.toNatClampNeg p1) := by rw [hV62, hZ63] at jn120; rw [hZ63]; exact JN.gr jn120
      refine W.know (fun kr1 kr2 => ?_)
      refine W.widen (k := zcc Z) (n := zss Z) (Nat.sub_le _ _) (Nat.sub_le _ _) ?_
      exact W.vret hx hb hr (fun t ht hW => ⟨⟨(V116, L, Z63), rfl, ⟨hMV116, agV116, rfl, zoZ63, jn121⟩, ⟨by rw [ht]; exact hP, va_K.moved hW.alike hK, hD⟩, by rw [ht]; exact kr1, by rw [ht]; exact kr2⟩, hS.F ht⟩) hS.2.2 dX8_join_160
