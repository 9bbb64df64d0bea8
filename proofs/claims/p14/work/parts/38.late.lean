theorem w2238 : Cond.code yX12_getsWhole cX12_getsWhole 8 (some .int) ∈ GW := gw_k tk9_9 163 (rfl) rfl
theorem w2235 : Cond.methodLink RX12 568 yX12_getsWhole ∈ GW := gw_k tk9_9 160 (by decide +kernel) rfl
theorem w2237 : Cond.instanceMethod yX12_getsWhole ∈ GW := gw_k tk9_9 162 (by decide +kernel) rfl
theorem w128 : Cond.selects RX12 yX12_getsWhole yX12_getsWhole ∈ GW := gw_mem 128 (by decide +kernel) rfl
theorem hdV_yX12_getsWhole : yX12_getsWhole.cls = RX12 ∧ yX12_getsWhole.cls ≠ "java/lang/invoke/MethodHandle" ∧ yX12_getsWhole.cls ≠ "java/lang/invoke/VarHandle" ∧ (parseMethodDescriptor yX12_getsWhole.desc).map (fun d => d.parameters.length) = some 2 := by decide +kernel
theorem dk9_dX12_ofLate_0_0 : dOk cX12_ofLate [(0, .aload_n 0, 1), (1, .iload_n 3, 1), (2, .invokevirtual 455, 3), (5, .istore 7, 2), (7, .aload_n 0, 1), (8, .getfield 198, 3), (11, .iconst 0, 1), (12, .iaload, 1), (13, .istore 8, 2), (15, .aload_n 0, 1), (16, .getfield 71, 3), (19, .bipush 24, 2), (21, .aload_n 0, 1), (22, .getfield 286, 3), (25, .imul, 1), (26, .iload 8, 2), (28, .iadd, 1), (29, .iaload, 1), (30, .iconst 3, 1), (31, .if_icmp .ne 7, 3), (38, .iconst 0, 1), (39, .istore 9, 2), (41, .iload 9, 2), (43, .ifCond .eq 17, 3)] = true ∧ dOk cX12_ofLate [(60, .aload_n 0, 1), (61, .getfield 520, 3), (64, .bipush 10, 2), (66, .if_icmp .ne 10, 3), (76, .aload_n 0, 1), (77, .dup, 1), (78, .getfield 520, 3), (81, .iconst 1, 1), (82, .iadd, 1), (83, .putfield 520, 3), (86, .aload_n 0, 1), (87, .iload 8, 2), (89, .iload 5, 2), (91, .invokevirtual 568, 3), (94, .istore 10, 2), (96, .aload_n 0, 1), (97, .dup, 1), (98, .getfield 520, 3), (101, .iconst 1, 1), (102, .isub, 1), (103, .putfield 520, 3), (106, .iload 10, 2), (108, .ifCond .le 6, 3), (114, .iload 9, 2)] = true ∧ dOk cX12_ofLate [(116, .ifCond .eq 47, 3), (163, .aload_n 0, 1), (164, .aload_n 0, 1), (165, .getfield 490, 3), (168, .iload 4, 2), (170, .iload 5, 2), (172, .iload 6, 2), (174, .invokevirtual 566, 3), (177, .ireturn, 1), (111, .iload 10, 2), (113, .ireturn, 1), (69, .aload_n 0, 1), (70, .bipush 13, 2), (72, .invokevirtual 484, 3), (75, .ireturn, 1), (34, .iconst 1, 1), (35, .goto 4, 3), (46, .aload_n 0, 1), (47, .getfield 176, 3), (50, .bipush 8, 2), (52, .iload_n 1, 1), (53, .imul, 1), (54, .iload_n 2, 1), (55, .iadd, 1)] = true ∧ dOk cX12_ofLate [(56, .iaload, 1), (57, .ifCond .ne 121, 3), (178, .aload_n 0, 1), (179, .aload_n 0, 1), (180, .getfield 180, 3), (183, .bipush 24, 2), (185, .bipush 8, 2), (187, .iload_n 1, 1), (188, .imul, 1), (189, .iload_n 2, 1), (190, .iadd, 1), (191, .imul, 1), (192, .iaload, 1), (193, .iload 4, 2), (195, .iload 5, 2), (197, .iload 6, 2), (199, .invokevirtual 566, 3), (202, .ireturn, 1), (119, .aload_n 0, 1), (120, .getfield 176, 3), (123, .bipush 8, 2), (125, .iload_n 1, 1), (126, .imul, 1), (127, .iload_n 2, 1)] = true ∧ dOk cX12_ofLate [(128, .iadd, 1), (129, .iaload, 1), (130, .ifCond .ne 33, 3), (133, .aload_n 0, 1), (134, .getfield 180, 3), (137, .bipush 24, 2), (139, .bipush 8, 2), (141, .iload_n 1, 1), (142, .imul, 1), (143, .iload_n 2, 1), (144, .iadd, 1), (145, .imul, 1), (146, .aload_n 0, 1), (147, .getfield 490, 3), (150, .iastore, 1), (151, .aload_n 0, 1), (152, .getfield 176, 3), (155, .bipush 8, 2), (157, .iload_n 1, 1), (158, .imul, 1), (159, .iload_n 2, 1), (160, .iadd, 1), (161, .iconst 1, 1), (162, .iastore, 1)] = true := by decide +kernel
theorem dX12_ofLate_0 : decode cX12_ofLate 0 = .ok (.aload_n 0, 1) := dr9 dk9_dX12_ofLate_0_0.1 0 (0, .aload_n 0, 1) rfl
theorem dX12_ofLate_1 : decode cX12_ofLate 1 = .ok (.iload_n 3, 1) := dr9 dk9_dX12_ofLate_0_0.1 1 (1, .iload_n 3, 1) rfl
theorem dX12_ofLate_2 : decode cX12_ofLate 2 = .ok (.invokevirtual 455, 3) := dr9 dk9_dX12_ofLate_0_0.1 2 (2, .invokevirtual 455, 3) rfl
theorem dX12_ofLate_5 : decode cX12_ofLate 5 = .ok (.istore 7, 2) := dr9 dk9_dX12_ofLate_0_0.1 3 (5, .istore 7, 2) rfl
theorem dX12_ofLate_7 : decode cX12_ofLate 7 = .ok (.aload_n 0, 1) := dr9 dk9_dX12_ofLate_0_0.1 4 (7, .aload_n 0, 1) rfl
theorem dX12_ofLate_8 : decode cX12_ofLate 8 = .ok (.getfield 198, 3) := dr9 dk9_dX12_ofLate_0_0.1 5 (8, .getfield 198, 3) rfl
theorem dX12_ofLate_11 : decode cX12_ofLate 11 = .ok (.iconst 0, 1) := dr9 dk9_dX12_ofLate_0_0.1 6 (11, .iconst 0, 1) rfl
theorem dX12_ofLate_12 : decode cX12_ofLate 12 = .ok (.iaload, 1) := dr9 dk9_dX12_ofLate_0_0.1 7 (12, .iaload, 1) rfl
theorem dX12_ofLate_13 : decode cX12_ofLate 13 = .ok (.istore 8, 2) := dr9 dk9_dX12_ofLate_0_0.1 8 (13, .istore 8, 2) rfl
theorem dX12_ofLate_15 : decode cX12_ofLate 15 = .ok (.aload_n 0, 1) := dr9 dk9_dX12_ofLate_0_0.1 9 (15, .aload_n 0, 1) rfl
theorem dX12_ofLate_16 : decode cX12_ofLate 16 = .ok (.getfield 71, 3) := dr9 dk9_dX12_ofLate_0_0.1 10 (16, .getfield 71, 3) rfl
theorem dX12_ofLate_19 : decode cX12_ofLate 19 = .ok (.bipush 24, 2) := dr9 dk9_dX12_ofLate_0_0.1 11 (19, .bipush 24, 2) rfl
theorem dX12_ofLate_21 : decode cX12_ofLate 21 = .ok (.aload_n 0, 1) := dr9 dk9_dX12_ofLate_0_0.1 12 (21, .aload_n 0, 1) rfl
theorem dX12_ofLate_22 : decode cX12_ofLate 22 = .ok (.getfield 286, 3) := dr9 dk9_dX12_ofLate_0_0.1 13 (22, .getfield 286, 3) rfl
theorem dX12_ofLate_25 : decode cX12_ofLate 25 = .ok (.imul, 1) := dr9 dk9_dX12_ofLate_0_0.1 14 (25, .imul, 1) rfl
theorem dX12_ofLate_26 : decode cX12_ofLate 26 = .ok (.iload 8, 2) := dr9 dk9_dX12_ofLate_0_0.1 15 (26, .iload 8, 2) rfl
theorem dX12_ofLate_28 : decode cX12_ofLate 28 = .ok (.iadd, 1) := dr9 dk9_dX12_ofLate_0_0.1 16 (28, .iadd, 1) rfl
theorem dX12_ofLate_29 : decode cX12_ofLate 29 = .ok (.iaload, 1) := dr9 dk9_dX12_ofLate_0_0.1 17 (29, .iaload, 1) rfl
theorem dX12_ofLate_30 : decode cX12_ofLate 30 = .ok (.iconst 3, 1) := dr9 dk9_dX12_ofLate_0_0.1 18 (30, .iconst 3, 1) rfl
theorem dX12_ofLate_31 : decode cX12_ofLate 31 = .ok (.if_icmp .ne 7, 3) := dr9 dk9_dX12_ofLate_0_0.1 19 (31, .if_icmp .ne 7, 3) rfl
theorem dX12_ofLate_38 : decode cX12_ofLate 38 = .ok (.iconst 0, 1) := dr9 dk9_dX12_ofLate_0_0.1 20 (38, .iconst 0, 1) rfl
theorem dX12_ofLate_39 : decode cX12_ofLate 39 = .ok (.istore 9, 2) := dr9 dk9_dX12_ofLate_0_0.1 21 (39, .istore 9, 2) rfl
theorem dX12_ofLate_41 : decode cX12_ofLate 41 = .ok (.iload 9, 2) := dr9 dk9_dX12_ofLate_0_0.1 22 (41, .iload 9, 2) rfl
theorem dX12_ofLate_43 : decode cX12_ofLate 43 = .ok (.ifCond .eq 17, 3) := dr9 dk9_dX12_ofLate_0_0.1 23 (43, .ifCond .eq 17, 3) rfl
theorem dX12_ofLate_60 : decode cX12_ofLate 60 = .ok (.aload_n 0, 1) := dr9 dk9_dX12_ofLate_0_0.2.1 0 (60, .aload_n 0, 1) rfl
theorem dX12_ofLate_61 : decode cX12_ofLate 61 = .ok (.getfield 520, 3) := dr9 dk9_dX12_ofLate_0_0.2.1 1 (61, .getfield 520, 3) rfl
theorem dX12_ofLate_64 : decode cX12_ofLate 64 = .ok (.bipush 10, 2) := dr9 dk9_dX12_ofLate_0_0.2.1 2 (64, .bipush 10, 2) rfl
theorem dX12_ofLate_66 : decode cX12_ofLate 66 = .ok (.if_icmp .ne 10, 3) := dr9 dk9_dX12_ofLate_0_0.2.1 3 (66, .if_icmp .ne 10, 3) rfl
theorem dX12_ofLate_76 : decode cX12_ofLate 76 = .ok (.aload_n 0, 1) := dr9 dk9_dX12_ofLate_0_0.2.1 4 (76, .aload_n 0, 1) rfl
theorem dX12_ofLate_77 : decode cX12_ofLate 77 = .ok (.dup, 1) := dr9 dk9_dX12_ofLate_0_0.2.1 5 (77, .dup, 1) rfl
theorem dX12_ofLate_78 : decode cX12_ofLate 78 = .ok (.getfield 520, 3) := dr9 dk9_dX12_ofLate_0_0.2.1 6 (78, .getfield 520, 3) rfl
theorem dX12_ofLate_81 : decode cX12_ofLate 81 = .ok (.iconst 1, 1) := dr9 dk9_dX12_ofLate_0_0.2.1 7 (81, .iconst 1, 1) rfl
theorem dX12_ofLate_82 : decode cX12_ofLate 82 = .ok (.iadd, 1) := dr9 dk9_dX12_ofLate_0_0.2.1 8 (82, .iadd, 1) rfl
theorem dX12_ofLate_83 : decode cX12_ofLate 83 = .ok (.putfield 520, 3) := dr9 dk9_dX12_ofLate_0_0.2.1 9 (83, .putfield 520, 3) rfl
theorem dX12_ofLate_86 : decode cX12_ofLate 86 = .ok (.aload_n 0, 1) := dr9 dk9_dX12_ofLate_0_0.2.1 10 (86, .aload_n 0, 1) rfl
theorem dX12_ofLate_87 : decode cX12_ofLate 87 = .ok (.iload 8, 2) := dr9 dk9_dX12_ofLate_0_0.2.1 11 (87, .iload 8, 2) rfl
theorem dX12_ofLate_89 : decode cX12_ofLate 89 = .ok (.iload 5, 2) := dr9 dk9_dX12_ofLate_0_0.2.1 12 (89, .iload 5, 2) rfl
theorem dX12_ofLate_91 : decode cX12_ofLate 91 = .ok (.invokevirtual 568, 3) := dr9 dk9_dX12_ofLate_0_0.2.1 13 (91, .invokevirtual 568, 3) rfl
theorem dX12_ofLate_94 : decode cX12_ofLate 94 = .ok (.istore 10, 2) := dr9 dk9_dX12_ofLate_0_0.2.1 14 (94, .istore 10, 2) rfl
theorem dX12_ofLate_96 : decode cX12_ofLate 96 = .ok (.aload_n 0, 1) := dr9 dk9_dX12_ofLate_0_0.2.1 15 (96, .aload_n 0, 1) rfl
theorem dX12_ofLate_97 : decode cX12_ofLate 97 = .ok (.dup, 1) := dr9 dk9_dX12_ofLate_0_0.2.1 16 (97, .dup, 1) rfl
theorem dX12_ofLate_98 : decode cX12_ofLate 98 = .ok (.getfield 520, 3) := dr9 dk9_dX12_ofLate_0_0.2.1 17 (98, .getfield 520, 3) rfl
theorem dX12_ofLate_101 : decode cX12_ofLate 101 = .ok (.iconst 1, 1) := dr9 dk9_dX12_ofLate_0_0.2.1 18 (101, .iconst 1, 1) rfl
theorem dX12_ofLate_102 : decode cX12_ofLate 102 = .ok (.isub, 1) := dr9 dk9_dX12_ofLate_0_0.2.1 19 (102, .isub, 1) rfl
theorem dX12_ofLate_103 : decode cX12_ofLate 103 = .ok (.putfield 520, 3) := dr9 dk9_dX12_ofLate_0_0.2.1 20 (103, .putfield 520, 3) rfl
theorem dX12_ofLate_106 : decode cX12_ofLate 106 = .ok (.iload 10, 2) := dr9 dk9_dX12_ofLate_0_0.2.1 21 (106, .iload 10, 2) rfl
theorem dX12_ofLate_108 : decode cX12_ofLate 108 = .ok (.ifCond .le 6, 3) := dr9 dk9_dX12_ofLate_0_0.2.1 22 (108, .ifCond .le 6, 3) rfl
theorem dX12_ofLate_114 : decode cX12_ofLate 114 = .ok (.iload 9, 2) := dr9 dk9_dX12_ofLate_0_0.2.1 23 (114, .iload 9, 2) rfl
theorem dX12_ofLate_116 : decode cX12_ofLate 116 = .ok (.ifCond .eq 47, 3) := dr9 dk9_dX12_ofLate_0_0.2.2.1 0 (116, .ifCond .eq 47, 3) rfl
theorem dX12_ofLate_163 : decode cX12_ofLate 163 = .ok (.aload_n 0, 1) := dr9 dk9_dX12_ofLate_0_0.2.2.1 1 (163, .aload_n 0, 1) rfl
theorem dX12_ofLate_164 : decode cX12_ofLate 164 = .ok (.aload_n 0, 1) := dr9 dk9_dX12_ofLate_0_0.2.2.1 2 (164, .aload_n 0, 1) rfl
theorem dX12_ofLate_165 : decode cX12_ofLate 165 = .ok (.getfield 490, 3) := dr9 dk9_dX12_ofLate_0_0.2.2.1 3 (165, .getfield 490, 3) rfl
theorem dX12_ofLate_168 : decode cX12_ofLate 168 = .ok (.iload 4, 2) := dr9 dk9_dX12_ofLate_0_0.2.2.1 4 (168, .iload 4, 2) rfl
theorem dX12_ofLate_170 : decode cX12_ofLate 170 = .ok (.iload 5, 2) := dr9 dk9_dX12_ofLate_0_0.2.2.1 5 (170, .iload 5, 2) rfl
theorem dX12_ofLate_172 : decode cX12_ofLate 172 = .ok (.iload 6, 2) := dr9 dk9_dX12_ofLate_0_0.2.2.1 6 (172, .iload 6, 2) rfl
theorem dX12_ofLate_174 : decode cX12_ofLate 174 = .ok (.invokevirtual 566, 3) := dr9 dk9_dX12_ofLate_0_0.2.2.1 7 (174, .invokevirtual 566, 3) rfl
theorem dX12_ofLate_177 : decode cX12_ofLate 177 = .ok (.ireturn, 1) := dr9 dk9_dX12_ofLate_0_0.2.2.1 8 (177, .ireturn, 1) rfl
theorem dX12_ofLate_111 : decode cX12_ofLate 111 = .ok (.iload 10, 2) := dr9 dk9_dX12_ofLate_0_0.2.2.1 9 (111, .iload 10, 2) rfl
theorem dX12_ofLate_113 : decode cX12_ofLate 113 = .ok (.ireturn, 1) := dr9 dk9_dX12_ofLate_0_0.2.2.1 10 (113, .ireturn, 1) rfl
theorem dX12_ofLate_69 : decode cX12_ofLate 69 = .ok (.aload_n 0, 1) := dr9 dk9_dX12_ofLate_0_0.2.2.1 11 (69, .aload_n 0, 1) rfl
theorem dX12_ofLate_70 : decode cX12_ofLate 70 = .ok (.bipush 13, 2) := dr9 dk9_dX12_ofLate_0_0.2.2.1 12 (70, .bipush 13, 2) rfl
theorem dX12_ofLate_72 : decode cX12_ofLate 72 = .ok (.invokevirtual 484, 3) := dr9 dk9_dX12_ofLate_0_0.2.2.1 13 (72, .invokevirtual 484, 3) rfl
theorem dX12_ofLate_75 : decode cX12_ofLate 75 = .ok (.ireturn, 1) := dr9 dk9_dX12_ofLate_0_0.2.2.1 14 (75, .ireturn, 1) rfl
theorem dX12_ofLate_34 : decode cX12_ofLate 34 = .ok (.iconst 1, 1) := dr9 dk9_dX12_ofLate_0_0.2.2.1 15 (34, .iconst 1, 1) rfl
theorem dX12_ofLate_35 : decode cX12_ofLate 35 = .ok (.goto 4, 3) := dr9 dk9_dX12_ofLate_0_0.2.2.1 16 (35, .goto 4, 3) rfl
theorem dX12_ofLate_46 : decode cX12_ofLate 46 = .ok (.aload_n 0, 1) := dr9 dk9_dX12_ofLate_0_0.2.2.1 17 (46, .aload_n 0, 1) rfl
theorem dX12_ofLate_47 : decode cX12_ofLate 47 = .ok (.getfield 176, 3) := dr9 dk9_dX12_ofLate_0_0.2.2.1 18 (47, .getfield 176, 3) rfl
theorem dX12_ofLate_50 : decode cX12_ofLate 50 = .ok (.bipush 8, 2) := dr9 dk9_dX12_ofLate_0_0.2.2.1 19 (50, .bipush 8, 2) rfl
theorem dX12_ofLate_52 : decode cX12_ofLate 52 = .ok (.iload_n 1, 1) := dr9 dk9_dX12_ofLate_0_0.2.2.1 20 (52, .iload_n 1, 1) rfl
theorem dX12_ofLate_53 : decode cX12_ofLate 53 = .ok (.imul, 1) := dr9 dk9_dX12_ofLate_0_0.2.2.1 21 (53, .imul, 1) rfl
theorem dX12_ofLate_54 : decode cX12_ofLate 54 = .ok (.iload_n 2, 1) := dr9 dk9_dX12_ofLate_0_0.2.2.1 22 (54, .iload_n 2, 1) rfl
theorem dX12_ofLate_55 : decode cX12_ofLate 55 = .ok (.iadd, 1) := dr9 dk9_dX12_ofLate_0_0.2.2.1 23 (55, .iadd, 1) rfl
theorem dX12_ofLate_56 : decode cX12_ofLate 56 = .ok (.iaload, 1) := dr9 dk9_dX12_ofLate_0_0.2.2.2.1 0 (56, .iaload, 1) rfl
theorem dX12_ofLate_57 : decode cX12_ofLate 57 = .ok (.ifCond .ne 121, 3) := dr9 dk9_dX12_ofLate_0_0.2.2.2.1 1 (57, .ifCond .ne 121, 3) rfl
theorem dX12_ofLate_178 : decode cX12_ofLate 178 = .ok (.aload_n 0, 1) := dr9 dk9_dX12_ofLate_0_0.2.2.2.1 2 (178, .aload_n 0, 1) rfl
theorem dX12_ofLate_179 : decode cX12_ofLate 179 = .ok (.aload_n 0, 1) := dr9 dk9_dX12_ofLate_0_0.2.2.2.1 3 (179, .aload_n 0, 1) rfl
theorem dX12_ofLate_180 : decode cX12_ofLate 180 = .ok (.getfield 180, 3) := dr9 dk9_dX12_ofLate_0_0.2.2.2.1 4 (180, .getfield 180, 3) rfl
theorem dX12_ofLate_183 : decode cX12_ofLate 183 = .ok (.bipush 24, 2) := dr9 dk9_dX12_ofLate_0_0.2.2.2.1 5 (183, .bipush 24, 2) rfl
theorem dX12_ofLate_185 : decode cX12_ofLate 185 = .ok (.bipush 8, 2) := dr9 dk9_dX12_ofLate_0_0.2.2.2.1 6 (185, .bipush 8, 2) rfl
theorem dX12_ofLate_187 : decode cX12_ofLate 187 = .ok (.iload_n 1, 1) := dr9 dk9_dX12_ofLate_0_0.2.2.2.1 7 (187, .iload_n 1, 1) rfl
theorem dX12_ofLate_188 : decode cX12_ofLate 188 = .ok (.imul, 1) := dr9 dk9_dX12_ofLate_0_0.2.2.2.1 8 (188, .imul, 1) rfl
theorem dX12_ofLate_189 : decode cX12_ofLate 189 = .ok (.iload_n 2, 1) := dr9 dk9_dX12_ofLate_0_0.2.2.2.1 9 (189, .iload_n 2, 1) rfl
theorem dX12_ofLate_190 : decode cX12_ofLate 190 = .ok (.iadd, 1) := dr9 dk9_dX12_ofLate_0_0.2.2.2.1 10 (190, .iadd, 1) rfl
theorem dX12_ofLate_191 : decode cX12_ofLate 191 = .ok (.imul, 1) := dr9 dk9_dX12_ofLate_0_0.2.2.2.1 11 (191, .imul, 1) rfl
theorem dX12_ofLate_192 : decode cX12_ofLate 192 = .ok (.iaload, 1) := dr9 dk9_dX12_ofLate_0_0.2.2.2.1 12 (192, .iaload, 1) rfl
theorem dX12_ofLate_193 : decode cX12_ofLate 193 = .ok (.iload 4, 2) := dr9 dk9_dX12_ofLate_0_0.2.2.2.1 13 (193, .iload 4, 2) rfl
theorem dX12_ofLate_195 : decode cX12_ofLate 195 = .ok (.iload 5, 2) := dr9 dk9_dX12_ofLate_0_0.2.2.2.1 14 (195, .iload 5, 2) rfl
theorem dX12_ofLate_197 : decode cX12_ofLate 197 = .ok (.iload 6, 2) := dr9 dk9_dX12_ofLate_0_0.2.2.2.1 15 (197, .iload 6, 2) rfl
theorem dX12_ofLate_199 : decode cX12_ofLate 199 = .ok (.invokevirtual 566, 3) := dr9 dk9_dX12_ofLate_0_0.2.2.2.1 16 (199, .invokevirtual 566, 3) rfl
theorem dX12_ofLate_202 : decode cX12_ofLate 202 = .ok (.ireturn, 1) := dr9 dk9_dX12_ofLate_0_0.2.2.2.1 17 (202, .ireturn, 1) rfl
theorem dX12_ofLate_119 : decode cX12_ofLate 119 = .ok (.aload_n 0, 1) := dr9 dk9_dX12_ofLate_0_0.2.2.2.1 18 (119, .aload_n 0, 1) rfl
theorem dX12_ofLate_120 : decode cX12_ofLate 120 = .ok (.getfield 176, 3) := dr9 dk9_dX12_ofLate_0_0.2.2.2.1 19 (120, .getfield 176, 3) rfl
theorem dX12_ofLate_123 : decode cX12_ofLate 123 = .ok (.bipush 8, 2) := dr9 dk9_dX12_ofLate_0_0.2.2.2.1 20 (123, .bipush 8, 2) rfl
theorem dX12_ofLate_125 : decode cX12_ofLate 125 = .ok (.iload_n 1, 1) := dr9 dk9_dX12_ofLate_0_0.2.2.2.1 21 (125, .iload_n 1, 1) rfl
theorem dX12_ofLate_126 : decode cX12_ofLate 126 = .ok (.imul, 1) := dr9 dk9_dX12_ofLate_0_0.2.2.2.1 22 (126, .imul, 1) rfl
theorem dX12_ofLate_127 : decode cX12_ofLate 127 = .ok (.iload_n 2, 1) := dr9 dk9_dX12_ofLate_0_0.2.2.2.1 23 (127, .iload_n 2, 1) rfl
theorem dX12_ofLate_128 : decode cX12_ofLate 128 = .ok (.iadd, 1) := dr9 dk9_dX12_ofLate_0_0.2.2.2.2 0 (128, .iadd, 1) rfl
theorem dX12_ofLate_129 : decode cX12_ofLate 129 = .ok (.iaload, 1) := dr9 dk9_dX12_ofLate_0_0.2.2.2.2 1 (129, .iaload, 1) rfl
theorem dX12_ofLate_130 : decode cX12_ofLate 130 = .ok (.ifCond .ne 33, 3) := dr9 dk9_dX12_ofLate_0_0.2.2.2.2 2 (130, .ifCond .ne 33, 3) rfl
theorem dX12_ofLate_133 : decode cX12_ofLate 133 = .ok (.aload_n 0, 1) := dr9 dk9_dX12_ofLate_0_0.2.2.2.2 3 (133, .aload_n 0, 1) rfl
theorem dX12_ofLate_134 : decode cX12_ofLate 134 = .ok (.getfield 180, 3) := dr9 dk9_dX12_ofLate_0_0.2.2.2.2 4 (134, .getfield 180, 3) rfl
theorem dX12_ofLate_137 : decode cX12_ofLate 137 = .ok (.bipush 24, 2) := dr9 dk9_dX12_ofLate_0_0.2.2.2.2 5 (137, .bipush 24, 2) rfl
theorem dX12_ofLate_139 : decode cX12_ofLate 139 = .ok (.bipush 8, 2) := dr9 dk9_dX12_ofLate_0_0.2.2.2.2 6 (139, .bipush 8, 2) rfl
theorem dX12_ofLate_141 : decode cX12_ofLate 141 = .ok (.iload_n 1, 1) := dr9 dk9_dX12_ofLate_0_0.2.2.2.2 7 (141, .iload_n 1, 1) rfl
theorem dX12_ofLate_142 : decode cX12_ofLate 142 = .ok (.imul, 1) := dr9 dk9_dX12_ofLate_0_0.2.2.2.2 8 (142, .imul, 1) rfl
theorem dX12_ofLate_143 : decode cX12_ofLate 143 = .ok (.iload_n 2, 1) := dr9 dk9_dX12_ofLate_0_0.2.2.2.2 9 (143, .iload_n 2, 1) rfl
theorem dX12_ofLate_144 : decode cX12_ofLate 144 = .ok (.iadd, 1) := dr9 dk9_dX12_ofLate_0_0.2.2.2.2 10 (144, .iadd, 1) rfl
theorem dX12_ofLate_145 : decode cX12_ofLate 145 = .ok (.imul, 1) := dr9 dk9_dX12_ofLate_0_0.2.2.2.2 11 (145, .imul, 1) rfl
theorem dX12_ofLate_146 : decode cX12_ofLate 146 = .ok (.aload_n 0, 1) := dr9 dk9_dX12_ofLate_0_0.2.2.2.2 12 (146, .aload_n 0, 1) rfl
theorem dX12_ofLate_147 : decode cX12_ofLate 147 = .ok (.getfield 490, 3) := dr9 dk9_dX12_ofLate_0_0.2.2.2.2 13 (147, .getfield 490, 3) rfl
theorem dX12_ofLate_150 : decode cX12_ofLate 150 = .ok (.iastore, 1) := dr9 dk9_dX12_ofLate_0_0.2.2.2.2 14 (150, .iastore, 1) rfl
theorem dX12_ofLate_151 : decode cX12_ofLate 151 = .ok (.aload_n 0, 1) := dr9 dk9_dX12_ofLate_0_0.2.2.2.2 15 (151, .aload_n 0, 1) rfl
theorem dX12_ofLate_152 : decode cX12_ofLate 152 = .ok (.getfield 176, 3) := dr9 dk9_dX12_ofLate_0_0.2.2.2.2 16 (152, .getfield 176, 3) rfl
theorem dX12_ofLate_155 : decode cX12_ofLate 155 = .ok (.bipush 8, 2) := dr9 dk9_dX12_ofLate_0_0.2.2.2.2 17 (155, .bipush 8, 2) rfl
theorem dX12_ofLate_157 : decode cX12_ofLate 157 = .ok (.iload_n 1, 1) := dr9 dk9_dX12_ofLate_0_0.2.2.2.2 18 (157, .iload_n 1, 1) rfl
theorem dX12_ofLate_158 : decode cX12_ofLate 158 = .ok (.imul, 1) := dr9 dk9_dX12_ofLate_0_0.2.2.2.2 19 (158, .imul, 1) rfl
theorem dX12_ofLate_159 : decode cX12_ofLate 159 = .ok (.iload_n 2, 1) := dr9 dk9_dX12_ofLate_0_0.2.2.2.2 20 (159, .iload_n 2, 1) rfl
theorem dX12_ofLate_160 : decode cX12_ofLate 160 = .ok (.iadd, 1) := dr9 dk9_dX12_ofLate_0_0.2.2.2.2 21 (160, .iadd, 1) rfl
theorem dX12_ofLate_161 : decode cX12_ofLate 161 = .ok (.iconst 1, 1) := dr9 dk9_dX12_ofLate_0_0.2.2.2.2 22 (161, .iconst 1, 1) rfl
theorem dX12_ofLate_162 : decode cX12_ofLate 162 = .ok (.iastore, 1) := dr9 dk9_dX12_ofLate_0_0.2.2.2.2 23 (162, .iastore, 1) rfl