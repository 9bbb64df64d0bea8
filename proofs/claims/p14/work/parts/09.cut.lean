theorem w1709 : Cond.fieldLink RX12 251 "WiringHouseModel" "size" "I" ∈ GW := gw_k tk9_7 114 (by decide +kernel) rfl
theorem w1707 : Cond.fieldLink RX12 14 "WiringHouseModel" "tape" "[I" ∈ GW := gw_k tk9_7 112 (by decide +kernel) rfl
theorem w1699 : Cond.constantLong RX12 238 37 ∈ GW := gw_k tk9_7 104 (by decide +kernel) rfl
theorem w1702 : Cond.code yX12_rank cX12_rank 1 (some .int) ∈ GW := gw_k tk9_7 107 (rfl) rfl
theorem w1700 : Cond.methodLink RX12 240 yX12_rank ∈ GW := gw_k tk9_7 105 (by decide +kernel) rfl
theorem w1701 : Cond.static yX12_rank ∈ GW := gw_k tk9_7 106 (by decide +kernel) rfl
theorem hdS_yX12_rank : yX12_rank.cls ≠ "java/lang/invoke/MethodHandle" ∧ yX12_rank.cls ≠ "java/lang/invoke/VarHandle" ∧ (parseMethodDescriptor yX12_rank.desc).map (fun d => d.parameters.length) = some 1 := by decide +kernel
theorem w2017 : Cond.code yX12_isDigit cX12_isDigit 1 (some .boolean) ∈ GW := gw_k tk9_8 182 (rfl) rfl
theorem w2015 : Cond.methodLink RX12 254 yX12_isDigit ∈ GW := gw_k tk9_8 180 (by decide +kernel) rfl
theorem w2016 : Cond.static yX12_isDigit ∈ GW := gw_k tk9_8 181 (by decide +kernel) rfl
theorem hdS_yX12_isDigit : yX12_isDigit.cls ≠ "java/lang/invoke/MethodHandle" ∧ yX12_isDigit.cls ≠ "java/lang/invoke/VarHandle" ∧ (parseMethodDescriptor yX12_isDigit.desc).map (fun d => d.parameters.length) = some 1 := by decide +kernel
theorem w2022 : Cond.code yX12_isSignOf cX12_isSignOf 1 (some .boolean) ∈ GW := gw_k tk9_8 187 (rfl) rfl
theorem w2020 : Cond.methodLink RX12 261 yX12_isSignOf ∈ GW := gw_k tk9_8 185 (by decide +kernel) rfl
theorem w2021 : Cond.static yX12_isSignOf ∈ GW := gw_k tk9_8 186 (by decide +kernel) rfl
theorem hdS_yX12_isSignOf : yX12_isSignOf.cls ≠ "java/lang/invoke/MethodHandle" ∧ yX12_isSignOf.cls ≠ "java/lang/invoke/VarHandle" ∧ (parseMethodDescriptor yX12_isSignOf.desc).map (fun d => d.parameters.length) = some 1 := by decide +kernel
theorem w2018 : Cond.constantLong RX12 257 10 ∈ GW := gw_k tk9_8 183 (by decide +kernel) rfl
theorem w2019 : Cond.constantLong RX12 259 48 ∈ GW := gw_k tk9_8 184 (by decide +kernel) rfl
theorem dk9_dX12_cutAll_0_0 : dOk cX12_cutAll [(0, .aload_n 0, 1), (1, .aload_n 0, 1), (2, .getfield 11, 3), (5, .putfield 251, 3), (8, .aload_n 0, 1), (9, .iconst 0, 1), (10, .putfield 11, 3), (13, .iconst 0, 1), (14, .istore_n 1, 1), (15, .iconst 0, 1), (16, .istore_n 2, 1), (17, .iload_n 2, 1), (18, .aload_n 0, 1), (19, .getfield 251, 3), (22, .if_icmp .ge 271, 3), (25, .aload_n 0, 1), (26, .getfield 14, 3), (29, .iload_n 2, 1), (30, .iaload, 1), (31, .istore_n 3, 1), (32, .iload_n 3, 1), (33, .bipush 10, 2), (35, .if_icmp .eq 9, 3), (44, .iinc 2 1, 3)] = true ∧ dOk cX12_cutAll [(47, .goto (-30), 3), (38, .iload_n 3, 1), (39, .bipush 32, 2), (41, .if_icmp .ne 9, 3), (50, .iload_n 2, 1), (51, .istore 4, 2), (53, .lconst 0, 1), (54, .lstore 5, 2), (56, .aload_n 0, 1), (57, .getfield 27, 3), (60, .iload_n 1, 1), (61, .iload_n 2, 1), (62, .iastore, 1), (63, .iload_n 3, 1), (64, .invokestatic 247, 3), (67, .ifCond .eq 97, 3), (70, .iload_n 2, 1), (71, .aload_n 0, 1), (72, .getfield 251, 3), (75, .if_icmp .ge 66, 3), (78, .aload_n 0, 1), (79, .getfield 14, 3), (82, .iload_n 2, 1), (83, .iaload, 1)] = true ∧ dOk cX12_cutAll [(84, .invokestatic 247, 3), (87, .ifCond .ne 15, 3), (102, .iload_n 2, 1), (103, .iload 4, 2), (105, .isub, 1), (106, .bipush 12, 2), (108, .if_icmp .ge 23, 3), (131, .lload 5, 2), (133, .lstore 5, 2), (135, .iinc 2 1, 3), (138, .goto (-68), 3), (111, .ldc2_w 238, 3), (114, .lload 5, 2), (116, .lmul, 1), (117, .aload_n 0, 1), (118, .getfield 14, 3), (121, .iload_n 2, 1), (122, .iaload, 1), (123, .invokestatic 240, 3), (126, .i2l, 1), (127, .ladd, 1), (128, .goto 5, 3), (90, .aload_n 0, 1), (91, .getfield 14, 3)] = true ∧ dOk cX12_cutAll [(94, .iload_n 2, 1), (95, .iaload, 1), (96, .invokestatic 254, 3), (99, .ifCond .eq 42, 3), (141, .aload_n 0, 1), (142, .getfield 24, 3), (145, .iload_n 1, 1), (146, .iload_n 2, 1), (147, .iload 4, 2), (149, .isub, 1), (150, .bipush 12, 2), (152, .if_icmp .le 7, 3), (155, .iconst 4, 1), (156, .goto 4, 3), (159, .iconst 1, 1), (160, .iastore, 1), (161, .goto 118, 3), (164, .iload_n 3, 1), (165, .invokestatic 254, 3), (168, .ifCond .eq 86, 3), (254, .iload_n 3, 1), (255, .i2l, 1), (256, .lstore 5, 2), (258, .aload_n 0, 1)] = true ∧ dOk cX12_cutAll [(259, .getfield 24, 3), (262, .iload_n 1, 1), (263, .iload_n 3, 1), (264, .invokestatic 261, 3), (267, .ifCond .eq 7, 3), (270, .iconst 3, 1), (271, .goto 4, 3), (274, .iconst 4, 1), (275, .iastore, 1), (276, .iinc 2 1, 3), (171, .iload_n 2, 1), (172, .aload_n 0, 1), (173, .getfield 251, 3), (176, .if_icmp .ge 55, 3), (179, .aload_n 0, 1), (180, .getfield 14, 3), (183, .iload_n 2, 1), (184, .iaload, 1), (185, .invokestatic 254, 3), (188, .ifCond .eq 43, 3), (191, .iload_n 2, 1), (192, .iload 4, 2), (194, .isub, 1), (195, .bipush 9, 2)] = true ∧ dOk cX12_cutAll [(197, .if_icmp .ge 24, 3), (221, .lload 5, 2), (223, .lstore 5, 2), (225, .iinc 2 1, 3), (228, .goto (-57), 3), (200, .ldc2_w 257, 3), (203, .lload 5, 2), (205, .lmul, 1), (206, .aload_n 0, 1), (207, .getfield 14, 3), (210, .iload_n 2, 1), (211, .iaload, 1), (212, .i2l, 1), (213, .ladd, 1), (214, .ldc2_w 259, 3), (217, .lsub, 1), (218, .goto 5, 3), (231, .aload_n 0, 1), (232, .getfield 24, 3), (235, .iload_n 1, 1), (236, .iload_n 2, 1), (237, .iload 4, 2), (239, .isub, 1), (240, .bipush 9, 2)] = true ∧ dOk cX12_cutAll [(242, .if_icmp .le 7, 3), (245, .iconst 4, 1), (246, .goto 4, 3), (249, .iconst 2, 1), (250, .iastore, 1), (251, .goto 28, 3), (279, .aload_n 0, 1), (280, .getfield 30, 3), (283, .iload_n 1, 1), (284, .lload 5, 2), (286, .lastore, 1), (287, .iinc 1 1, 3), (290, .goto (-273), 3), (293, .aload_n 0, 1), (294, .getfield 24, 3), (297, .iload_n 1, 1), (298, .iconst 0, 1), (299, .iastore, 1), (300, .aload_n 0, 1), (301, .getfield 27, 3), (304, .iload_n 1, 1), (305, .aload_n 0, 1), (306, .getfield 251, 3), (309, .iastore, 1)] = true ∧ dOk cX12_cutAll [(310, .aload_n 0, 1), (311, .iconst 0, 1), (312, .putfield 264, 3), (315, .aload_n 0, 1), (316, .iconst 0, 1), (317, .putfield 267, 3), (320, .return_, 1)] = true := by decide +kernel
theorem dX12_cutAll_0 : decode cX12_cutAll 0 = .ok (.aload_n 0, 1) := dr9 dk9_dX12_cutAll_0_0.1 0 (0, .aload_n 0, 1) rfl
theorem dX12_cutAll_1 : decode cX12_cutAll 1 = .ok (.aload_n 0, 1) := dr9 dk9_dX12_cutAll_0_0.1 1 (1, .aload_n 0, 1) rfl
theorem dX12_cutAll_2 : decode cX12_cutAll 2 = .ok (.getfield 11, 3) := dr9 dk9_dX12_cutAll_0_0.1 2 (2, .getfield 11, 3) rfl
theorem dX12_cutAll_5 : decode cX12_cutAll 5 = .ok (.putfield 251, 3) := dr9 dk9_dX12_cutAll_0_0.1 3 (5, .putfield 251, 3) rfl
theorem dX12_cutAll_8 : decode cX12_cutAll 8 = .ok (.aload_n 0, 1) := dr9 dk9_dX12_cutAll_0_0.1 4 (8, .aload_n 0, 1) rfl
theorem dX12_cutAll_9 : decode cX12_cutAll 9 = .ok (.iconst 0, 1) := dr9 dk9_dX12_cutAll_0_0.1 5 (9, .iconst 0, 1) rfl
theorem dX12_cutAll_10 : decode cX12_cutAll 10 = .ok (.putfield 11, 3) := dr9 dk9_dX12_cutAll_0_0.1 6 (10, .putfield 11, 3) rfl
theorem dX12_cutAll_13 : decode cX12_cutAll 13 = .ok (.iconst 0, 1) := dr9 dk9_dX12_cutAll_0_0.1 7 (13, .iconst 0, 1) rfl
theorem dX12_cutAll_14 : decode cX12_cutAll 14 = .ok (.istore_n 1, 1) := dr9 dk9_dX12_cutAll_0_0.1 8 (14, .istore_n 1, 1) rfl
theorem dX12_cutAll_15 : decode cX12_cutAll 15 = .ok (.iconst 0, 1) := dr9 dk9_dX12_cutAll_0_0.1 9 (15, .iconst 0, 1) rfl
theorem dX12_cutAll_16 : decode cX12_cutAll 16 = .ok (.istore_n 2, 1) := dr9 dk9_dX12_cutAll_0_0.1 10 (16, .istore_n 2, 1) rfl
theorem dX12_cutAll_17 : decode cX12_cutAll 17 = .ok (.iload_n 2, 1) := dr9 dk9_dX12_cutAll_0_0.1 11 (17, .iload_n 2, 1) rfl
theorem dX12_cutAll_18 : decode cX12_cutAll 18 = .ok (.aload_n 0, 1) := dr9 dk9_dX12_cutAll_0_0.1 12 (18, .aload_n 0, 1) rfl
theorem dX12_cutAll_19 : decode cX12_cutAll 19 = .ok (.getfield 251, 3) := dr9 dk9_dX12_cutAll_0_0.1 13 (19, .getfield 251, 3) rfl
theorem dX12_cutAll_22 : decode cX12_cutAll 22 = .ok (.if_icmp .ge 271, 3) := dr9 dk9_dX12_cutAll_0_0.1 14 (22, .if_icmp .ge 271, 3) rfl
theorem dX12_cutAll_25 : decode cX12_cutAll 25 = .ok (.aload_n 0, 1) := dr9 dk9_dX12_cutAll_0_0.1 15 (25, .aload_n 0, 1) rfl
theorem dX12_cutAll_26 : decode cX12_cutAll 26 = .ok (.getfield 14, 3) := dr9 dk9_dX12_cutAll_0_0.1 16 (26, .getfield 14, 3) rfl
theorem dX12_cutAll_29 : decode cX12_cutAll 29 = .ok (.iload_n 2, 1) := dr9 dk9_dX12_cutAll_0_0.1 17 (29, .iload_n 2, 1) rfl
theorem dX12_cutAll_30 : decode cX12_cutAll 30 = .ok (.iaload, 1) := dr9 dk9_dX12_cutAll_0_0.1 18 (30, .iaload, 1) rfl
theorem dX12_cutAll_31 : decode cX12_cutAll 31 = .ok (.istore_n 3, 1) := dr9 dk9_dX12_cutAll_0_0.1 19 (31, .istore_n 3, 1) rfl
theorem dX12_cutAll_32 : decode cX12_cutAll 32 = .ok (.iload_n 3, 1) := dr9 dk9_dX12_cutAll_0_0.1 20 (32, .iload_n 3, 1) rfl
theorem dX12_cutAll_33 : decode cX12_cutAll 33 = .ok (.bipush 10, 2) := dr9 dk9_dX12_cutAll_0_0.1 21 (33, .bipush 10, 2) rfl
theorem dX12_cutAll_35 : decode cX12_cutAll 35 = .ok (.if_icmp .eq 9, 3) := dr9 dk9_dX12_cutAll_0_0.1 22 (35, .if_icmp .eq 9, 3) rfl
theorem dX12_cutAll_44 : decode cX12_cutAll 44 = .ok (.iinc 2 1, 3) := dr9 dk9_dX12_cutAll_0_0.1 23 (44, .iinc 2 1, 3) rfl
theorem dX12_cutAll_47 : decode cX12_cutAll 47 = .ok (.goto (-30), 3) := dr9 dk9_dX12_cutAll_0_0.2.1 0 (47, .goto (-30), 3) rfl
theorem dX12_cutAll_38 : decode cX12_cutAll 38 = .ok (.iload_n 3, 1) := dr9 dk9_dX12_cutAll_0_0.2.1 1 (38, .iload_n 3, 1) rfl
theorem dX12_cutAll_39 : decode cX12_cutAll 39 = .ok (.bipush 32, 2) := dr9 dk9_dX12_cutAll_0_0.2.1 2 (39, .bipush 32, 2) rfl
theorem dX12_cutAll_41 : decode cX12_cutAll 41 = .ok (.if_icmp .ne 9, 3) := dr9 dk9_dX12_cutAll_0_0.2.1 3 (41, .if_icmp .ne 9, 3) rfl
theorem dX12_cutAll_50 : decode cX12_cutAll 50 = .ok (.iload_n 2, 1) := dr9 dk9_dX12_cutAll_0_0.2.1 4 (50, .iload_n 2, 1) rfl
theorem dX12_cutAll_51 : decode cX12_cutAll 51 = .ok (.istore 4, 2) := dr9 dk9_dX12_cutAll_0_0.2.1 5 (51, .istore 4, 2) rfl
theorem dX12_cutAll_53 : decode cX12_cutAll 53 = .ok (.lconst 0, 1) := dr9 dk9_dX12_cutAll_0_0.2.1 6 (53, .lconst 0, 1) rfl
theorem dX12_cutAll_54 : decode cX12_cutAll 54 = .ok (.lstore 5, 2) := dr9 dk9_dX12_cutAll_0_0.2.1 7 (54, .lstore 5, 2) rfl
theorem dX12_cutAll_56 : decode cX12_cutAll 56 = .ok (.aload_n 0, 1) := dr9 dk9_dX12_cutAll_0_0.2.1 8 (56, .aload_n 0, 1) rfl
theorem dX12_cutAll_57 : decode cX12_cutAll 57 = .ok (.getfield 27, 3) := dr9 dk9_dX12_cutAll_0_0.2.1 9 (57, .getfield 27, 3) rfl
theorem dX12_cutAll_60 : decode cX12_cutAll 60 = .ok (.iload_n 1, 1) := dr9 dk9_dX12_cutAll_0_0.2.1 10 (60, .iload_n 1, 1) rfl
theorem dX12_cutAll_61 : decode cX12_cutAll 61 = .ok (.iload_n 2, 1) := dr9 dk9_dX12_cutAll_0_0.2.1 11 (61, .iload_n 2, 1) rfl
theorem dX12_cutAll_62 : decode cX12_cutAll 62 = .ok (.iastore, 1) := dr9 dk9_dX12_cutAll_0_0.2.1 12 (62, .iastore, 1) rfl
theorem dX12_cutAll_63 : decode cX12_cutAll 63 = .ok (.iload_n 3, 1) := dr9 dk9_dX12_cutAll_0_0.2.1 13 (63, .iload_n 3, 1) rfl
theorem dX12_cutAll_64 : decode cX12_cutAll 64 = .ok (.invokestatic 247, 3) := dr9 dk9_dX12_cutAll_0_0.2.1 14 (64, .invokestatic 247, 3) rfl
theorem dX12_cutAll_67 : decode cX12_cutAll 67 = .ok (.ifCond .eq 97, 3) := dr9 dk9_dX12_cutAll_0_0.2.1 15 (67, .ifCond .eq 97, 3) rfl
theorem dX12_cutAll_70 : decode cX12_cutAll 70 = .ok (.iload_n 2, 1) := dr9 dk9_dX12_cutAll_0_0.2.1 16 (70, .iload_n 2, 1) rfl
theorem dX12_cutAll_71 : decode cX12_cutAll 71 = .ok (.aload_n 0, 1) := dr9 dk9_dX12_cutAll_0_0.2.1 17 (71, .aload_n 0, 1) rfl
theorem dX12_cutAll_72 : decode cX12_cutAll 72 = .ok (.getfield 251, 3) := dr9 dk9_dX12_cutAll_0_0.2.1 18 (72, .getfield 251, 3) rfl
theorem dX12_cutAll_75 : decode cX12_cutAll 75 = .ok (.if_icmp .ge 66, 3) := dr9 dk9_dX12_cutAll_0_0.2.1 19 (75, .if_icmp .ge 66, 3) rfl
theorem dX12_cutAll_78 : decode cX12_cutAll 78 = .ok (.aload_n 0, 1) := dr9 dk9_dX12_cutAll_0_0.2.1 20 (78, .aload_n 0, 1) rfl
theorem dX12_cutAll_79 : decode cX12_cutAll 79 = .ok (.getfield 14, 3) := dr9 dk9_dX12_cutAll_0_0.2.1 21 (79, .getfield 14, 3) rfl
theorem dX12_cutAll_82 : decode cX12_cutAll 82 = .ok (.iload_n 2, 1) := dr9 dk9_dX12_cutAll_0_0.2.1 22 (82, .iload_n 2, 1) rfl
theorem dX12_cutAll_83 : decode cX12_cutAll 83 = .ok (.iaload, 1) := dr9 dk9_dX12_cutAll_0_0.2.1 23 (83, .iaload, 1) rfl
theorem dX12_cutAll_84 : decode cX12_cutAll 84 = .ok (.invokestatic 247, 3) := dr9 dk9_dX12_cutAll_0_0.2.2.1 0 (84, .invokestatic 247, 3) rfl
theorem dX12_cutAll_87 : decode cX12_cutAll 87 = .ok (.ifCond .ne 15, 3) := dr9 dk9_dX12_cutAll_0_0.2.2.1 1 (87, .ifCond .ne 15, 3) rfl
theorem dX12_cutAll_102 : decode cX12_cutAll 102 = .ok (.iload_n 2, 1) := dr9 dk9_dX12_cutAll_0_0.2.2.1 2 (102, .iload_n 2, 1) rfl
theorem dX12_cutAll_103 : decode cX12_cutAll 103 = .ok (.iload 4, 2) := dr9 dk9_dX12_cutAll_0_0.2.2.1 3 (103, .iload 4, 2) rfl
theorem dX12_cutAll_105 : decode cX12_cutAll 105 = .ok (.isub, 1) := dr9 dk9_dX12_cutAll_0_0.2.2.1 4 (105, .isub, 1) rfl
theorem dX12_cutAll_106 : decode cX12_cutAll 106 = .ok (.bipush 12, 2) := dr9 dk9_dX12_cutAll_0_0.2.2.1 5 (106, .bipush 12, 2) rfl
theorem dX12_cutAll_108 : decode cX12_cutAll 108 = .ok (.if_icmp .ge 23, 3) := dr9 dk9_dX12_cutAll_0_0.2.2.1 6 (108, .if_icmp .ge 23, 3) rfl
theorem dX12_cutAll_131 : decode cX12_cutAll 131 = .ok (.lload 5, 2) := dr9 dk9_dX12_cutAll_0_0.2.2.1 7 (131, .lload 5, 2) rfl
theorem dX12_cutAll_133 : decode cX12_cutAll 133 = .ok (.lstore 5, 2) := dr9 dk9_dX12_cutAll_0_0.2.2.1 8 (133, .lstore 5, 2) rfl
theorem dX12_cutAll_135 : decode cX12_cutAll 135 = .ok (.iinc 2 1, 3) := dr9 dk9_dX12_cutAll_0_0.2.2.1 9 (135, .iinc 2 1, 3) rfl
theorem dX12_cutAll_138 : decode cX12_cutAll 138 = .ok (.goto (-68), 3) := dr9 dk9_dX12_cutAll_0_0.2.2.1 10 (138, .goto (-68), 3) rfl
theorem dX12_cutAll_111 : decode cX12_cutAll 111 = .ok (.ldc2_w 238, 3) := dr9 dk9_dX12_cutAll_0_0.2.2.1 11 (111, .ldc2_w 238, 3) rfl
theorem dX12_cutAll_114 : decode cX12_cutAll 114 = .ok (.lload 5, 2) := dr9 dk9_dX12_cutAll_0_0.2.2.1 12 (114, .lload 5, 2) rfl
theorem dX12_cutAll_116 : decode cX12_cutAll 116 = .ok (.lmul, 1) := dr9 dk9_dX12_cutAll_0_0.2.2.1 13 (116, .lmul, 1) rfl
theorem dX12_cutAll_117 : decode cX12_cutAll 117 = .ok (.aload_n 0, 1) := dr9 dk9_dX12_cutAll_0_0.2.2.1 14 (117, .aload_n 0, 1) rfl
theorem dX12_cutAll_118 : decode cX12_cutAll 118 = .ok (.getfield 14, 3) := dr9 dk9_dX12_cutAll_0_0.2.2.1 15 (118, .getfield 14, 3) rfl
theorem dX12_cutAll_121 : decode cX12_cutAll 121 = .ok (.iload_n 2, 1) := dr9 dk9_dX12_cutAll_0_0.2.2.1 16 (121, .iload_n 2, 1) rfl
theorem dX12_cutAll_122 : decode cX12_cutAll 122 = .ok (.iaload, 1) := dr9 dk9_dX12_cutAll_0_0.2.2.1 17 (122, .iaload, 1) rfl
theorem dX12_cutAll_123 : decode cX12_cutAll 123 = .ok (.invokestatic 240, 3) := dr9 dk9_dX12_cutAll_0_0.2.2.1 18 (123, .invokestatic 240, 3) rfl
theorem dX12_cutAll_126 : decode cX12_cutAll 126 = .ok (.i2l, 1) := dr9 dk9_dX12_cutAll_0_0.2.2.1 19 (126, .i2l, 1) rfl
theorem dX12_cutAll_127 : decode cX12_cutAll 127 = .ok (.ladd, 1) := dr9 dk9_dX12_cutAll_0_0.2.2.1 20 (127, .ladd, 1) rfl
theorem dX12_cutAll_128 : decode cX12_cutAll 128 = .ok (.goto 5, 3) := dr9 dk9_dX12_cutAll_0_0.2.2.1 21 (128, .goto 5, 3) rfl
theorem dX12_cutAll_90 : decode cX12_cutAll 90 = .ok (.aload_n 0, 1) := dr9 dk9_dX12_cutAll_0_0.2.2.1 22 (90, .aload_n 0, 1) rfl
theorem dX12_cutAll_91 : decode cX12_cutAll 91 = .ok (.getfield 14, 3) := dr9 dk9_dX12_cutAll_0_0.2.2.1 23 (91, .getfield 14, 3) rfl
theorem dX12_cutAll_94 : decode cX12_cutAll 94 = .ok (.iload_n 2, 1) := dr9 dk9_dX12_cutAll_0_0.2.2.2.1 0 (94, .iload_n 2, 1) rfl
theorem dX12_cutAll_95 : decode cX12_cutAll 95 = .ok (.iaload, 1) := dr9 dk9_dX12_cutAll_0_0.2.2.2.1 1 (95, .iaload, 1) rfl
theorem dX12_cutAll_96 : decode cX12_cutAll 96 = .ok (.invokestatic 254, 3) := dr9 dk9_dX12_cutAll_0_0.2.2.2.1 2 (96, .invokestatic 254, 3) rfl
theorem dX12_cutAll_99 : decode cX12_cutAll 99 = .ok (.ifCond .eq 42, 3) := dr9 dk9_dX12_cutAll_0_0.2.2.2.1 3 (99, .ifCond .eq 42, 3) rfl
theorem dX12_cutAll_141 : decode cX12_cutAll 141 = .ok (.aload_n 0, 1) := dr9 dk9_dX12_cutAll_0_0.2.2.2.1 4 (141, .aload_n 0, 1) rfl
theorem dX12_cutAll_142 : decode cX12_cutAll 142 = .ok (.getfield 24, 3) := dr9 dk9_dX12_cutAll_0_0.2.2.2.1 5 (142, .getfield 24, 3) rfl
theorem dX12_cutAll_145 : decode cX12_cutAll 145 = .ok (.iload_n 1, 1) := dr9 dk9_dX12_cutAll_0_0.2.2.2.1 6 (145, .iload_n 1, 1) rfl
theorem dX12_cutAll_146 : decode cX12_cutAll 146 = .ok (.iload_n 2, 1) := dr9 dk9_dX12_cutAll_0_0.2.2.2.1 7 (146, .iload_n 2, 1) rfl
theorem dX12_cutAll_147 : decode cX12_cutAll 147 = .ok (.iload 4, 2) := dr9 dk9_dX12_cutAll_0_0.2.2.2.1 8 (147, .iload 4, 2) rfl
theorem dX12_cutAll_149 : decode cX12_cutAll 149 = .ok (.isub, 1) := dr9 dk9_dX12_cutAll_0_0.2.2.2.1 9 (149, .isub, 1) rfl
theorem dX12_cutAll_150 : decode cX12_cutAll 150 = .ok (.bipush 12, 2) := dr9 dk9_dX12_cutAll_0_0.2.2.2.1 10 (150, .bipush 12, 2) rfl
theorem dX12_cutAll_152 : decode cX12_cutAll 152 = .ok (.if_icmp .le 7, 3) := dr9 dk9_dX12_cutAll_0_0.2.2.2.1 11 (152, .if_icmp .le 7, 3) rfl
theorem dX12_cutAll_155 : decode cX12_cutAll 155 = .ok (.iconst 4, 1) := dr9 dk9_dX12_cutAll_0_0.2.2.2.1 12 (155, .iconst 4, 1) rfl
theorem dX12_cutAll_156 : decode cX12_cutAll 156 = .ok (.goto 4, 3) := dr9 dk9_dX12_cutAll_0_0.2.2.2.1 13 (156, .goto 4, 3) rfl
theorem dX12_cutAll_159 : decode cX12_cutAll 159 = .ok (.iconst 1, 1) := dr9 dk9_dX12_cutAll_0_0.2.2.2.1 14 (159, .iconst 1, 1) rfl
theorem dX12_cutAll_160 : decode cX12_cutAll 160 = .ok (.iastore, 1) := dr9 dk9_dX12_cutAll_0_0.2.2.2.1 15 (160, .iastore, 1) rfl
theorem dX12_cutAll_161 : decode cX12_cutAll 161 = .ok (.goto 118, 3) := dr9 dk9_dX12_cutAll_0_0.2.2.2.1 16 (161, .goto 118, 3) rfl
theorem dX12_cutAll_164 : decode cX12_cutAll 164 = .ok (.iload_n 3, 1) := dr9 dk9_dX12_cutAll_0_0.2.2.2.1 17 (164, .iload_n 3, 1) rfl
theorem dX12_cutAll_165 : decode cX12_cutAll 165 = .ok (.invokestatic 254, 3) := dr9 dk9_dX12_cutAll_0_0.2.2.2.1 18 (165, .invokestatic 254, 3) rfl
theorem dX12_cutAll_168 : decode cX12_cutAll 168 = .ok (.ifCond .eq 86, 3) := dr9 dk9_dX12_cutAll_0_0.2.2.2.1 19 (168, .ifCond .eq 86, 3) rfl
theorem dX12_cutAll_254 : decode cX12_cutAll 254 = .ok (.iload_n 3, 1) := dr9 dk9_dX12_cutAll_0_0.2.2.2.1 20 (254, .iload_n 3, 1) rfl
theorem dX12_cutAll_255 : decode cX12_cutAll 255 = .ok (.i2l, 1) := dr9 dk9_dX12_cutAll_0_0.2.2.2.1 21 (255, .i2l, 1) rfl
theorem dX12_cutAll_256 : decode cX12_cutAll 256 = .ok (.lstore 5, 2) := dr9 dk9_dX12_cutAll_0_0.2.2.2.1 22 (256, .lstore 5, 2) rfl
theorem dX12_cutAll_258 : decode cX12_cutAll 258 = .ok (.aload_n 0, 1) := dr9 dk9_dX12_cutAll_0_0.2.2.2.1 23 (258, .aload_n 0, 1) rfl
theorem dX12_cutAll_259 : decode cX12_cutAll 259 = .ok (.getfield 24, 3) := dr9 dk9_dX12_cutAll_0_0.2.2.2.2.1 0 (259, .getfield 24, 3) rfl
theorem dX12_cutAll_262 : decode cX12_cutAll 262 = .ok (.iload_n 1, 1) := dr9 dk9_dX12_cutAll_0_0.2.2.2.2.1 1 (262, .iload_n 1, 1) rfl
theorem dX12_cutAll_263 : decode cX12_cutAll 263 = .ok (.iload_n 3, 1) := dr9 dk9_dX12_cutAll_0_0.2.2.2.2.1 2 (263, .iload_n 3, 1) rfl
theorem dX12_cutAll_264 : decode cX12_cutAll 264 = .ok (.invokestatic 261, 3) := dr9 dk9_dX12_cutAll_0_0.2.2.2.2.1 3 (264, .invokestatic 261, 3) rfl
theorem dX12_cutAll_267 : decode cX12_cutAll 267 = .ok (.ifCond .eq 7, 3) := dr9 dk9_dX12_cutAll_0_0.2.2.2.2.1 4 (267, .ifCond .eq 7, 3) rfl
theorem dX12_cutAll_270 : decode cX12_cutAll 270 = .ok (.iconst 3, 1) := dr9 dk9_dX12_cutAll_0_0.2.2.2.2.1 5 (270, .iconst 3, 1) rfl
theorem dX12_cutAll_271 : decode cX12_cutAll 271 = .ok (.goto 4, 3) := dr9 dk9_dX12_cutAll_0_0.2.2.2.2.1 6 (271, .goto 4, 3) rfl
theorem dX12_cutAll_274 : decode cX12_cutAll 274 = .ok (.iconst 4, 1) := dr9 dk9_dX12_cutAll_0_0.2.2.2.2.1 7 (274, .iconst 4, 1) rfl
theorem dX12_cutAll_275 : decode cX12_cutAll 275 = .ok (.iastore, 1) := dr9 dk9_dX12_cutAll_0_0.2.2.2.2.1 8 (275, .iastore, 1) rfl
theorem dX12_cutAll_276 : decode cX12_cutAll 276 = .ok (.iinc 2 1, 3) := dr9 dk9_dX12_cutAll_0_0.2.2.2.2.1 9 (276, .iinc 2 1, 3) rfl
theorem dX12_cutAll_171 : decode cX12_cutAll 171 = .ok (.iload_n 2, 1) := dr9 dk9_dX12_cutAll_0_0.2.2.2.2.1 10 (171, .iload_n 2, 1) rfl
theorem dX12_cutAll_172 : decode cX12_cutAll 172 = .ok (.aload_n 0, 1) := dr9 dk9_dX12_cutAll_0_0.2.2.2.2.1 11 (172, .aload_n 0, 1) rfl
theorem dX12_cutAll_173 : decode cX12_cutAll 173 = .ok (.getfield 251, 3) := dr9 dk9_dX12_cutAll_0_0.2.2.2.2.1 12 (173, .getfield 251, 3) rfl
theorem dX12_cutAll_176 : decode cX12_cutAll 176 = .ok (.if_icmp .ge 55, 3) := dr9 dk9_dX12_cutAll_0_0.2.2.2.2.1 13 (176, .if_icmp .ge 55, 3) rfl
theorem dX12_cutAll_179 : decode cX12_cutAll 179 = .ok (.aload_n 0, 1) := dr9 dk9_dX12_cutAll_0_0.2.2.2.2.1 14 (179, .aload_n 0, 1) rfl
theorem dX12_cutAll_180 : decode cX12_cutAll 180 = .ok (.getfield 14, 3) := dr9 dk9_dX12_cutAll_0_0.2.2.2.2.1 15 (180, .getfield 14, 3) rfl
theorem dX12_cutAll_183 : decode cX12_cutAll 183 = .ok (.iload_n 2, 1) := dr9 dk9_dX12_cutAll_0_0.2.2.2.2.1 16 (183, .iload_n 2, 1) rfl
theorem dX12_cutAll_184 : decode cX12_cutAll 184 = .ok (.iaload, 1) := dr9 dk9_dX12_cutAll_0_0.2.2.2.2.1 17 (184, .iaload, 1) rfl
theorem dX12_cutAll_185 : decode cX12_cutAll 185 = .ok (.invokestatic 254, 3) := dr9 dk9_dX12_cutAll_0_0.2.2.2.2.1 18 (185, .invokestatic 254, 3) rfl
theorem dX12_cutAll_188 : decode cX12_cutAll 188 = .ok (.ifCond .eq 43, 3) := dr9 dk9_dX12_cutAll_0_0.2.2.2.2.1 19 (188, .ifCond .eq 43, 3) rfl
theorem dX12_cutAll_191 : decode cX12_cutAll 191 = .ok (.iload_n 2, 1) := dr9 dk9_dX12_cutAll_0_0.2.2.2.2.1 20 (191, .iload_n 2, 1) rfl
theorem dX12_cutAll_192 : decode cX12_cutAll 192 = .ok (.iload 4, 2) := dr9 dk9_dX12_cutAll_0_0.2.2.2.2.1 21 (192, .iload 4, 2) rfl
theorem dX12_cutAll_194 : decode cX12_cutAll 194 = .ok (.isub, 1) := dr9 dk9_dX12_cutAll_0_0.2.2.2.2.1 22 (194, .isub, 1) rfl
theorem dX12_cutAll_195 : decode cX12_cutAll 195 = .ok (.bipush 9, 2) := dr9 dk9_dX12_cutAll_0_0.2.2.2.2.1 23 (195, .bipush 9, 2) rfl
theorem dX12_cutAll_197 : decode cX12_cutAll 197 = .ok (.if_icmp .ge 24, 3) := dr9 dk9_dX12_cutAll_0_0.2.2.2.2.2.1 0 (197, .if_icmp .ge 24, 3) rfl
theorem dX12_cutAll_221 : decode cX12_cutAll 221 = .ok (.lload 5, 2) := dr9 dk9_dX12_cutAll_0_0.2.2.2.2.2.1 1 (221, .lload 5, 2) rfl
theorem dX12_cutAll_223 : decode cX12_cutAll 223 = .ok (.lstore 5, 2) := dr9 dk9_dX12_cutAll_0_0.2.2.2.2.2.1 2 (223, .lstore 5, 2) rfl
theorem dX12_cutAll_225 : decode cX12_cutAll 225 = .ok (.iinc 2 1, 3) := dr9 dk9_dX12_cutAll_0_0.2.2.2.2.2.1 3 (225, .iinc 2 1, 3) rfl
theorem dX12_cutAll_228 : decode cX12_cutAll 228 = .ok (.goto (-57), 3) := dr9 dk9_dX12_cutAll_0_0.2.2.2.2.2.1 4 (228, .goto (-57), 3) rfl
theorem dX12_cutAll_200 : decode cX12_cutAll 200 = .ok (.ldc2_w 257, 3) := dr9 dk9_dX12_cutAll_0_0.2.2.2.2.2.1 5 (200, .ldc2_w 257, 3) rfl
theorem dX12_cutAll_203 : decode cX12_cutAll 203 = .ok (.lload 5, 2) := dr9 dk9_dX12_cutAll_0_0.2.2.2.2.2.1 6 (203, .lload 5, 2) rfl
theorem dX12_cutAll_205 : decode cX12_cutAll 205 = .ok (.lmul, 1) := dr9 dk9_dX12_cutAll_0_0.2.2.2.2.2.1 7 (205, .lmul, 1) rfl
theorem dX12_cutAll_206 : decode cX12_cutAll 206 = .ok (.aload_n 0, 1) := dr9 dk9_dX12_cutAll_0_0.2.2.2.2.2.1 8 (206, .aload_n 0, 1) rfl
theorem dX12_cutAll_207 : decode cX12_cutAll 207 = .ok (.getfield 14, 3) := dr9 dk9_dX12_cutAll_0_0.2.2.2.2.2.1 9 (207, .getfield 14, 3) rfl
theorem dX12_cutAll_210 : decode cX12_cutAll 210 = .ok (.iload_n 2, 1) := dr9 dk9_dX12_cutAll_0_0.2.2.2.2.2.1 10 (210, .iload_n 2, 1) rfl
theorem dX12_cutAll_211 : decode cX12_cutAll 211 = .ok (.iaload, 1) := dr9 dk9_dX12_cutAll_0_0.2.2.2.2.2.1 11 (211, .iaload, 1) rfl
theorem dX12_cutAll_212 : decode cX12_cutAll 212 = .ok (.i2l, 1) := dr9 dk9_dX12_cutAll_0_0.2.2.2.2.2.1 12 (212, .i2l, 1) rfl
theorem dX12_cutAll_213 : decode cX12_cutAll 213 = .ok (.ladd, 1) := dr9 dk9_dX12_cutAll_0_0.2.2.2.2.2.1 13 (213, .ladd, 1) rfl
theorem dX12_cutAll_214 : decode cX12_cutAll 214 = .ok (.ldc2_w 259, 3) := dr9 dk9_dX12_cutAll_0_0.2.2.2.2.2.1 14 (214, .ldc2_w 259, 3) rfl
theorem dX12_cutAll_217 : decode cX12_cutAll 217 = .ok (.lsub, 1) := dr9 dk9_dX12_cutAll_0_0.2.2.2.2.2.1 15 (217, .lsub, 1) rfl
theorem dX12_cutAll_218 : decode cX12_cutAll 218 = .ok (.goto 5, 3) := dr9 dk9_dX12_cutAll_0_0.2.2.2.2.2.1 16 (218, .goto 5, 3) rfl
theorem dX12_cutAll_231 : decode cX12_cutAll 231 = .ok (.aload_n 0, 1) := dr9 dk9_dX12_cutAll_0_0.2.2.2.2.2.1 17 (231, .aload_n 0, 1) rfl
theorem dX12_cutAll_232 : decode cX12_cutAll 232 = .ok (.getfield 24, 3) := dr9 dk9_dX12_cutAll_0_0.2.2.2.2.2.1 18 (232, .getfield 24, 3) rfl
theorem dX12_cutAll_235 : decode cX12_cutAll 235 = .ok (.iload_n 1, 1) := dr9 dk9_dX12_cutAll_0_0.2.2.2.2.2.1 19 (235, .iload_n 1, 1) rfl
theorem dX12_cutAll_236 : decode cX12_cutAll 236 = .ok (.iload_n 2, 1) := dr9 dk9_dX12_cutAll_0_0.2.2.2.2.2.1 20 (236, .iload_n 2, 1) rfl
theorem dX12_cutAll_237 : decode cX12_cutAll 237 = .ok (.iload 4, 2) := dr9 dk9_dX12_cutAll_0_0.2.2.2.2.2.1 21 (237, .iload 4, 2) rfl
theorem dX12_cutAll_239 : decode cX12_cutAll 239 = .ok (.isub, 1) := dr9 dk9_dX12_cutAll_0_0.2.2.2.2.2.1 22 (239, .isub, 1) rfl
theorem dX12_cutAll_240 : decode cX12_cutAll 240 = .ok (.bipush 9, 2) := dr9 dk9_dX12_cutAll_0_0.2.2.2.2.2.1 23 (240, .bipush 9, 2) rfl
theorem dX12_cutAll_242 : decode cX12_cutAll 242 = .ok (.if_icmp .le 7, 3) := dr9 dk9_dX12_cutAll_0_0.2.2.2.2.2.2.1 0 (242, .if_icmp .le 7, 3) rfl
theorem dX12_cutAll_245 : decode cX12_cutAll 245 = .ok (.iconst 4, 1) := dr9 dk9_dX12_cutAll_0_0.2.2.2.2.2.2.1 1 (245, .iconst 4, 1) rfl
theorem dX12_cutAll_246 : decode cX12_cutAll 246 = .ok (.goto 4, 3) := dr9 dk9_dX12_cutAll_0_0.2.2.2.2.2.2.1 2 (246, .goto 4, 3) rfl
theorem dX12_cutAll_249 : decode cX12_cutAll 249 = .ok (.iconst 2, 1) := dr9 dk9_dX12_cutAll_0_0.2.2.2.2.2.2.1 3 (249, .iconst 2, 1) rfl
theorem dX12_cutAll_250 : decode cX12_cutAll 250 = .ok (.iastore, 1) := dr9 dk9_dX12_cutAll_0_0.2.2.2.2.2.2.1 4 (250, .iastore, 1) rfl
theorem dX12_cutAll_251 : decode cX12_cutAll 251 = .ok (.goto 28, 3) := dr9 dk9_dX12_cutAll_0_0.2.2.2.2.2.2.1 5 (251, .goto 28, 3) rfl
theorem dX12_cutAll_279 : decode cX12_cutAll 279 = .ok (.aload_n 0, 1) := dr9 dk9_dX12_cutAll_0_0.2.2.2.2.2.2.1 6 (279, .aload_n 0, 1) rfl
theorem dX12_cutAll_280 : decode cX12_cutAll 280 = .ok (.getfield 30, 3) := dr9 dk9_dX12_cutAll_0_0.2.2.2.2.2.2.1 7 (280, .getfield 30, 3) rfl
theorem dX12_cutAll_283 : decode cX12_cutAll 283 = .ok (.iload_n 1, 1) := dr9 dk9_dX12_cutAll_0_0.2.2.2.2.2.2.1 8 (283, .iload_n 1, 1) rfl
theorem dX12_cutAll_284 : decode cX12_cutAll 284 = .ok (.lload 5, 2) := dr9 dk9_dX12_cutAll_0_0.2.2.2.2.2.2.1 9 (284, .lload 5, 2) rfl
theorem dX12_cutAll_286 : decode cX12_cutAll 286 = .ok (.lastore, 1) := dr9 dk9_dX12_cutAll_0_0.2.2.2.2.2.2.1 10 (286, .lastore, 1) rfl
theorem dX12_cutAll_287 : decode cX12_cutAll 287 = .ok (.iinc 1 1, 3) := dr9 dk9_dX12_cutAll_0_0.2.2.2.2.2.2.1 11 (287, .iinc 1 1, 3) rfl
theorem dX12_cutAll_290 : decode cX12_cutAll 290 = .ok (.goto (-273), 3) := dr9 dk9_dX12_cutAll_0_0.2.2.2.2.2.2.1 12 (290, .goto (-273), 3) rfl
theorem dX12_cutAll_293 : decode cX12_cutAll 293 = .ok (.aload_n 0, 1) := dr9 dk9_dX12_cutAll_0_0.2.2.2.2.2.2.1 13 (293, .aload_n 0, 1) rfl
theorem dX12_cutAll_294 : decode cX12_cutAll 294 = .ok (.getfield 24, 3) := dr9 dk9_dX12_cutAll_0_0.2.2.2.2.2.2.1 14 (294, .getfield 24, 3) rfl
theorem dX12_cutAll_297 : decode cX12_cutAll 297 = .ok (.iload_n 1, 1) := dr9 dk9_dX12_cutAll_0_0.2.2.2.2.2.2.1 15 (297, .iload_n 1, 1) rfl
theorem dX12_cutAll_298 : decode cX12_cutAll 298 = .ok (.iconst 0, 1) := dr9 dk9_dX12_cutAll_0_0.2.2.2.2.2.2.1 16 (298, .iconst 0, 1) rfl
theorem dX12_cutAll_299 : decode cX12_cutAll 299 = .ok (.iastore, 1) := dr9 dk9_dX12_cutAll_0_0.2.2.2.2.2.2.1 17 (299, .iastore, 1) rfl
theorem dX12_cutAll_300 : decode cX12_cutAll 300 = .ok (.aload_n 0, 1) := dr9 dk9_dX12_cutAll_0_0.2.2.2.2.2.2.1 18 (300, .aload_n 0, 1) rfl
theorem dX12_cutAll_301 : decode cX12_cutAll 301 = .ok (.getfield 27, 3) := dr9 dk9_dX12_cutAll_0_0.2.2.2.2.2.2.1 19 (301, .getfield 27, 3) rfl
theorem dX12_cutAll_304 : decode cX12_cutAll 304 = .ok (.iload_n 1, 1) := dr9 dk9_dX12_cutAll_0_0.2.2.2.2.2.2.1 20 (304, .iload_n 1, 1) rfl
theorem dX12_cutAll_305 : decode cX12_cutAll 305 = .ok (.aload_n 0, 1) := dr9 dk9_dX12_cutAll_0_0.2.2.2.2.2.2.1 21 (305, .aload_n 0, 1) rfl
theorem dX12_cutAll_306 : decode cX12_cutAll 306 = .ok (.getfield 251, 3) := dr9 dk9_dX12_cutAll_0_0.2.2.2.2.2.2.1 22 (306, .getfield 251, 3) rfl
theorem dX12_cutAll_309 : decode cX12_cutAll 309 = .ok (.iastore, 1) := dr9 dk9_dX12_cutAll_0_0.2.2.2.2.2.2.1 23 (309, .iastore, 1) rfl
theorem dX12_cutAll_310 : decode cX12_cutAll 310 = .ok (.aload_n 0, 1) := dr9 dk9_dX12_cutAll_0_0.2.2.2.2.2.2.2 0 (310, .aload_n 0, 1) rfl
theorem dX12_cutAll_311 : decode cX12_cutAll 311 = .ok (.iconst 0, 1) := dr9 dk9_dX12_cutAll_0_0.2.2.2.2.2.2.2 1 (311, .iconst 0, 1) rfl
theorem dX12_cutAll_312 : decode cX12_cutAll 312 = .ok (.putfield 264, 3) := dr9 dk9_dX12_cutAll_0_0.2.2.2.2.2.2.2 2 (312, .putfield 264, 3) rfl
theorem dX12_cutAll_315 : decode cX12_cutAll 315 = .ok (.aload_n 0, 1) := dr9 dk9_dX12_cutAll_0_0.2.2.2.2.2.2.2 3 (315, .aload_n 0, 1) rfl
theorem dX12_cutAll_316 : decode cX12_cutAll 316 = .ok (.iconst 0, 1) := dr9 dk9_dX12_cutAll_0_0.2.2.2.2.2.2.2 4 (316, .iconst 0, 1) rfl
theorem dX12_cutAll_317 : decode cX12_cutAll 317 = .ok (.putfield 267, 3) := dr9 dk9_dX12_cutAll_0_0.2.2.2.2.2.2.2 5 (317, .putfield 267, 3) rfl
theorem dX12_cutAll_320 : decode cX12_cutAll 320 = .ok (.return_, 1) := dr9 dk9_dX12_cutAll_0_0.2.2.2.2.2.2.2 6 (320, .return_, 1) rfl
abbrev r_s_cutAll : Room := { frames := 2, cells := 0, slots := 0, locals := 40 }
abbrev q_s_cutAll (D : va_G) (ks : KS) (ad : Nat → Nat) (kk : Nat → ClassId) (V : Vf) (L : Lf) (A : Nat → Prop) : Array Value → State → Outcome → State → Prop := va_Qv (fun (u : Vf × Lf) => rgd bM u.1 ∧ agr [(0, 2), (0, 3), (0, 7), (0, 8)] [4, 5, 6] V u.1 ∧ agL [4, 5, 6] L u.2 ∧ ((u.1 0 8).toInt = 0) ∧ ((u.1 0 7).toInt = 0) ∧ ((u.1 0 2).toInt = 0) ∧ (∃ n : Nat, n ≤ 4000 ∧ (u.1 4 n).toInt = 0)) (fun u t => gq D A (mw ad kk ks.1 u.1 u.2) (mty kk) t) A
set_option maxHeartbeats 4000000 in
set_option maxRecDepth 100000 in
theorem s_cutAll (l : Launch) (D : va_G) (ks : KS) (sz : Nat) (ad : Nat → Nat) (kk : Nat → ClassId) (V : Vf) (L : Lf)  (hMV : rgd bM V)  : Met l yX12_cutAll (Cond.code yX12_cutAll cX12_cutAll 7 none :: GW) r_s_cutAll (va_Pc [.ref (ad 0)] (gp D ks (mw ad kk ks.1 V L) (mty kk) sz)) (q_s_cutAll D ks ad kk V L  (va_A (mw ad kk ks.1 V L) sz)) 0 0 (va_A (mw ad kk ks.1 V L) sz) := by
  refine g_met (q_s_cutAll D ks ad kk V L) (by decide) (Nat.le_of_ble_eq_true rfl) ?_
  intro p e s m below meth c A ls H locs hx hb hr hml hown hg hlocks hin hnw hgk hP hK hD hS hA hl
  replace hown : s.vm.findClass RX12 = some m.cls := hown
  replace hl : lv_has ls 7 [(0, .ref (ad 0))] := hl
  replace hP : va_P D vwCl (mw ad kk ks.1 V L) H := hP
  replace hD : va_D A (mw ad kk ks.1 V L) := hD
  replace hK : va_K D vwCl (mty kk) s := hK
  have agV : agr [(0, 2), (0, 3), (0, 7), (0, 8)] [4, 5, 6] V V := agr.rf
  have alL : agL [4, 5, 6] L L := agL.rf
  refine lv_aload_n hx hb dX12_cutAll_0 rfl (lv_at hl 0 rfl) ?_
  refine lv_aload_n hx hb dX12_cutAll_1 rfl (lv_at hl 0 rfl) ?_
  refine va_get (D := D) (ci := 12) (v := .int (V 0 2)) (C := RX12) (T := TX12) (N := 100) hx hb hg inX12 hown hK hP 0 rfl rfl 2 (by decide) (hg _ w1708) (fun _ h9 => h9) rfl dX12_cutAll_2 ?_
  have r1 : 0 ≤ ((V 0 2)).toInt ∧ ((V 0 2)).toInt ≤ 4000 := hMV 0 2
  refine va_put (D := D) (ci := 12) (v := .int (V 0 2)) (ty := tyX12 3) (C := RX12) (T := TX12) (N := 100) hx hb hg inX12 tyX12 tyX12_ok nmX12 hown hK hP hD hS 0 rfl rfl 3 (by decide) (hg _ w1709) (fun _ h9 => h9) rfl (tyX12_ok 3 (by decide)) rfl rfl (Nat.le_of_ble_eq_true rfl) dX12_cutAll_5 (fun H locs hP hD hS => ?_)
  obtain ⟨V2, hV2⟩ : ∃ z, z = up2 V 0 3 (V 0 2) := ⟨_, rfl⟩
  have hP : va_P D vwCl (mw ad kk ks.1 V2 L) H := by rw [hV2]; exact hP
  have hD : va_D A (mw ad kk ks.1 V2 L) := by rw [hV2]; exact hD
  have hMV2 : rgd bM V2 := hMV.put hV2 (show 0 ≤ ((V 0 2)).toInt ∧ ((V 0 2)).toInt ≤ 4000 from by omega)
  have agV2 : agr [(0, 2), (0, 3), (0, 7), (0, 8)] [4, 5, 6] V V2 := agV.up hV2 rfl
  refine lv_aload_n hx hb dX12_cutAll_8 rfl (lv_at hl 0 rfl) ?_
  refine lv_iconst (v := 0) hx hb dX12_cutAll_9 (by decide) ?_
  refine va_put (D := D) (ci := 12) (v := .int 0) (ty := tyX12 2) (C := RX12) (T := TX12) (N := 100) hx hb hg inX12 tyX12 tyX12_ok nmX12 hown hK hP hD hS 0 rfl rfl 2 (by decide) (hg _ w1708) (fun _ h9 => h9) rfl (tyX12_ok 2 (by decide)) rfl rfl (Nat.le_of_ble_eq_true rfl) dX12_cutAll_10 (fun H locs hP hD hS => ?_)
  obtain ⟨V3, hV3⟩ : ∃ z, z = up2 V2 0 2 0 := ⟨_, rfl⟩
  have hP : va_P D vwCl (mw ad kk ks.1 V3 L) H := by rw [hV3]; exact hP
  have hD : va_D A (mw ad kk ks.1 V3 L) := by rw [hV3]; exact hD
  have hMV3 : rgd bM V3 := hMV2.put hV3 (by decide)
  have agV3 : agr [(0, 2), (0, 3), (0, 7), (0, 8)] [4, 5, 6] V V3 := agV2.up hV3 rfl
  refine lv_iconst (v := 0) hx hb dX12_cutAll_13 (by decide) ?_
  refine lv_istore_n (lv' := [(1, .int 0), (0, .ref (ad 0))]) hx hb dX12_cutAll_14 rfl hl (by decide) rfl (fun ls hl => ?_)
  refine lv_iconst (v := 0) hx hb dX12_cutAll_15 (by decide) ?_
  refine lv_istore_n (lv' := [(2, .int 0), (1, .int 0), (0, .ref (ad 0))]) hx hb dX12_cutAll_16 rfl hl (by decide) rfl (fun ls hl => ?_)
  have lp8 : ∀ (fulp8 : Nat) (y4 : Int32) (y5 : Int32) (V6 : Vf) (L7 : Lf) (H : Heap) (locs : List Loc) (ls : Array Slot), 0 ≤ y4.toInt ∧ y4.toInt ≤ 4000 → 0 ≤ y5.toInt ∧ y5.toInt ≤ 4000 → y5.toInt ≤ y4.toInt → y4.toInt ≤ (V6 0 3).toInt → (V6 0 3).toInt - y4.toInt < (fulp8 : Int) → agL [4, 5, 6] L L7 → agr [] [4, 5, 6] V3 V6 → rgd bM V6 → va_P D vwCl (mw ad kk ks.1 V6 L7) H → va_D A (mw ad kk ks.1 V6 L7) → va_S A s.heap H locs → lv_has ls 7 [(2, .int y4), (1, .int y5), (0, .ref (ad 0))] → W p l e r_s_cutAll s m ([.ref (ad 0)] : List Value).toArray below meth c H locs 0 0 (MQ below (q_s_cutAll D ks ad kk V L  A) ([.ref (ad 0)] : List Value).toArray s 0 0 A) (F0 m 17 ls []) := by
    intro fulp8
    induction fulp8 with
    | zero =>
      intro y4 y5 V6 L7 H locs ls klp8_0 klp8_1 xlp8_0 xlp8_1 hn alL7 ajV6 hMV6 hP hD hS hl
      exfalso; omega
    | succ fulp8 ihlp8 =>
      intro y4 y5 V6 L7 H locs ls klp8_0 klp8_1 xlp8_0 xlp8_1 hn alL7 ajV6 hMV6 hP hD hS hl
      have agV6 : agr [(0, 2), (0, 3), (0, 7), (0, 8)] [4, 5, 6] V V6 := agV3.tr ajV6 (by decide) (by decide)
      have pq9 : (V6 0 3).toInt = ((V 0 2)).toInt := congrArg Int32.toInt ((ajV6 0 3 rfl).trans ((up2_k hV3 (by decide)).trans (up2_s hV2)))
      refine lv_iload_n hx hb dX12_cutAll_17 rfl (lv_at hl 0 rfl) ?_
      refine lv_aload_n hx hb dX12_cutAll_18 rfl (lv_at hl 2 rfl) ?_
      refine va_get (D := D) (ci := 12) (v := .int (V6 0 3)) (C := RX12) (T := TX12) (N := 100) hx hb hg inX12 hown hK hP 0 rfl rfl 3 (by decide) (hg _ w1709) (fun _ h9 => h9) rfl dX12_cutAll_19 ?_
      refine g_top (v := (V 0 2)) ((ajV6 0 3 rfl).trans ((up2_k hV3 (by decide)).trans (up2_s hV2))) ?_
      refine lv_icmp_ge (tgt := 293) hx hb dX12_cutAll_22 (by decide) (fun c10 => ?_) (fun c10 => ?_)
      · skip
        have f11 : ((V 0 2)).toInt ≤ y4.toInt := b_le rfl rfl c10
        refine lv_aload_n hx hb dX12_cutAll_293 rfl (lv_at hl 2 rfl) ?_
        refine va_get (D := D) (ci := 12) (v := .ref (ad 4)) (C := RX12) (T := TX12) (N := 100) hx hb hg inX12 hown hK hP 0 rfl rfl 4 (by decide) (hg _ w1710) (fun _ h9 => h9) rfl dX12_cutAll_294 ?_
        refine lv_iload_n hx hb dX12_cutAll_297 rfl (lv_at hl 1 rfl) ?_
        refine lv_iconst (v := 0) hx hb dX12_cutAll_298 (by decide) ?_
        refine va_iast (D := D) (i := y5) (x := 0) hx hb hK hP hD hS 2 1 rfl rfl (i_in (a := y5.toInt) rfl (by omega)) dX12_cutAll_299 (fun H locs hP hD hS => ?_)
        obtain ⟨V12, hV12⟩ : ∃ z, z = up2 V6 4 (Int32.toNatClampNeg y5) 0 := ⟨_, rfl⟩
        have hP : va_P D vwCl (mw ad kk ks.1 V12 L7) H := by rw [hV12]; exact hP
        have hD : va_D A (mw ad kk ks.1 V12 L7) := by rw [hV12]; exact hD
        have hMV12 : rgd bM V12 := hMV6.put hV12 (i_full _)
        have agV12 : agr [(0, 2), (0, 3), (0, 7), (0, 8)] [4, 5, 6] V V12 := agV6.up hV12 rfl
        refine lv_aload_n hx hb dX12_cutAll_300 rfl (lv_at hl 2 rfl) ?_
        refine va_get (D := D) (ci := 12) (v := .ref (ad 5)) (C := RX12) (T := TX12) (N := 100) hx hb hg inX12 hown hK hP 0 rfl rfl 5 (by decide) (hg _ w1711) (fun _ h9 => h9) rfl dX12_cutAll_301 ?_
        refine lv_iload_n hx hb dX12_cutAll_304 rfl (lv_at hl 1 rfl) ?_
        refine lv_aload_n hx hb dX12_cutAll_305 rfl (lv_at hl 2 rfl) ?_
        refine va_get (D := D) (ci := 12) (v := .int (V12 0 3)) (C := RX12) (T := TX12) (N := 100) hx hb hg inX12 hown hK hP 0 rfl rfl 3 (by decide) (hg _ w1709) (fun _ h9 => h9) rfl dX12_cutAll_306 ?_
        refine g_top (v := (V 0 2)) ((up2_o hV12 (by decide)).trans ((ajV6 0 3 rfl).trans ((up2_k hV3 (by decide)).trans (up2_s hV2)))) ?_
        refine va_iast (D := D) (i := y5) (x := (V 0 2)) hx hb hK hP hD hS 3 2 rfl rfl (i_in (a := y5.toInt) rfl (by omega)) dX12_cutAll_309 (fun H locs hP hD hS => ?_)
        obtain ⟨V13, hV13⟩ : ∃ z, z = up2 V12 5 (Int32.toNatClampNeg y5) (V 0 2) := ⟨_, rfl⟩
        have hP : va_P D vwCl (mw ad kk ks.1 V13 L7) H := by rw [hV13]; exact hP
        have hD : va_D A (mw ad kk ks.1 V13 L7) := by rw [hV13]; exact hD
        have hMV13 : rgd bM V13 := hMV12.put hV13 (show 0 ≤ ((V 0 2)).toInt ∧ ((V 0 2)).toInt ≤ 4000 from by omega)
        have agV13 : agr [(0, 2), (0, 3), (0, 7), (0, 8)] [4, 5, 6] V V13 := agV12.up hV13 rfl
        refine lv_aload_n hx hb dX12_cutAll_310 rfl (lv_at hl 2 rfl) ?_
        refine lv_iconst (v := 0) hx hb dX12_cutAll_311 (by decide) ?_
        refine va_put (D := D) (ci := 12) (v := .int 0) (ty := tyX12 7) (C := RX12) (T := TX12) (N := 100) hx hb hg inX12 tyX12 tyX12_ok nmX12 hown hK hP hD hS 0 rfl rfl 7 (by decide) (hg _ w1713) (fun _ h9 => h9) rfl (tyX12_ok 7 (by decide)) rfl rfl (Nat.le_of_ble_eq_true rfl) dX12_cutAll_312 (fun H locs hP hD hS => ?_)
        obtain ⟨V14, hV14⟩ : ∃ z, z = up2 V13 0 7 0 := ⟨_, rfl⟩
        have hP : va_P D vwCl (mw ad kk ks.1 V14 L7) H := by rw [hV14]; exact hP
        have hD : va_D A (mw ad kk ks.1 V14 L7) := by rw [hV14]; exact hD
        have hMV14 : rgd bM V14 := hMV13.put hV14 (i_full _)
        have agV14 : agr [(0, 2), (0, 3), (0, 7), (0, 8)] [4, 5, 6] V V14 := agV13.up hV14 rfl
        refine lv_aload_n hx hb dX12_cutAll_315 rfl (lv_at hl 2 rfl) ?_
        refine lv_iconst (v := 0) hx hb dX12_cutAll_316 (by decide) ?_
        refine va_put (D := D) (ci := 12) (v := .int 0) (ty := tyX12 8) (C := RX12) (T := TX12) (N := 100) hx hb hg inX12 tyX12 tyX12_ok nmX12 hown hK hP hD hS 0 rfl rfl 8 (by decide) (hg _ w1714) (fun _ h9 => h9) rfl (tyX12_ok 8 (by decide)) rfl rfl (Nat.le_of_ble_eq_true rfl) dX12_cutAll_317 (fun H locs hP hD hS => ?_)
        obtain ⟨V15, hV15⟩ : ∃ z, z = up2 V14 0 8 0 := ⟨_, rfl⟩
        have hP : va_P D vwCl (mw ad kk ks.1 V15 L7) H := by rw [hV15]; exact hP
        have hD : va_D A (mw ad kk ks.1 V15 L7) := by rw [hV15]; exact hD
        have hMV15 : rgd bM V15 := hMV14.put hV15 (by decide)
        have agV15 : agr [(0, 2), (0, 3), (0, 7), (0, 8)] [4, 5, 6] V V15 := agV14.up hV15 rfl
        have pq16 : (V15 0 8).toInt = 0 := (congrArg Int32.toInt (up2_s hV15)).trans (by decide)
        have pq17 : (V15 0 7).toInt = 0 := (congrArg Int32.toInt ((up2_k hV15 (by decide)).trans (up2_s hV14))).trans (by decide)
        have pq18 : (V15 0 2).toInt = 0 := (congrArg Int32.toInt ((up2_k hV15 (by decide)).trans ((up2_k hV14 (by decide)).trans ((up2_o hV13 (by decide)).trans ((up2_o hV12 (by decide)).trans ((ajV6 0 2 rfl).trans (up2_s hV3))))))).trans (by decide)
        have e19 : V15 4 (Int32.toNatClampNeg y5) = 0 := ((up2_o hV15 (by decide)).trans ((up2_o hV14 (by decide)).trans ((up2_o hV13 (by decide)).trans (up2_s hV12))))
        exact W.vret hx hb hr (fun t ht hW => ⟨⟨(V15, L7), rfl, ⟨hMV15, agV15, alL7, (show (V15 0 8).toInt = 0 from by omega), (show (V15 0 7).toInt = 0 from by omega), (show (V15 0 2).toInt = 0 from by omega), ⟨(Int32.toNatClampNeg y5), (by have h9 := i_clamp (x := y5) rfl (by omega); omega), (by show (V15 4 _).toInt = 0; rw [e19]; rfl)⟩⟩, by rw [ht]; exact hP, va_K.moved hW.alike hK, hD⟩, hS.F ht⟩) hS.2.2 dX12_cutAll_320
      · skip
        have f20 : y4.toInt < ((V 0 2)).toInt := b_nle rfl rfl c10
        refine lv_aload_n hx hb dX12_cutAll_25 rfl (lv_at hl 2 rfl) ?_
        refine va_get (D := D) (ci := 12) (v := .ref (ad 1)) (C := RX12) (T := TX12) (N := 100) hx hb hg inX12 hown hK hP 0 rfl rfl 1 (by decide) (hg _ w1707) (fun _ h9 => h9) rfl dX12_cutAll_26 ?_
        refine lv_iload_n hx hb dX12_cutAll_29 rfl (lv_at hl 0 rfl) ?_
        refine va_iald (D := D) (i := y4) hx hb hK hP 1 0 rfl rfl (i_in (a := y4.toInt) rfl (by omega)) dX12_cutAll_30 ?_
        refine g_top (v := (V 1 (Int32.toNatClampNeg y4))) ((ajV6 1 (Int32.toNatClampNeg y4) rfl).trans ((up2_o hV3 (by decide)).trans (up2_o hV2 (by decide)))) ?_
        refine lv_istore_n (lv' := [(3, .int (V 1 (Int32.toNatClampNeg y4))), (2, .int y4), (1, .int y5), (0, .ref (ad 0))]) hx hb dX12_cutAll_31 rfl hl (by decide) rfl (fun ls hl => ?_)
        refine lv_iload_n hx hb dX12_cutAll_32 rfl (lv_at hl 0 rfl) ?_
        refine lv_bipush (v := 10) hx hb dX12_cutAll_33 (by decide) ?_
        refine lv_icmp_eq (tgt := 44) hx hb dX12_cutAll_35 (by decide) (fun c21 => ?_) (fun c21 => ?_)
        · skip
          have f22 : ((V 1 (Int32.toNatClampNeg y4))).toInt = 10 := b_eq rfl (by decide) c21
          obtain ⟨z23, ez23⟩ : ∃ y : Int32, y = y4 + 1 := ⟨_, rfl⟩
          have hz23 : z23.toInt = y4.toInt + 1 := i_add ez23 rfl (by decide) (by omega)
          refine lv_iinc (v := z23) (lv' := [(2, .int z23), (3, .int (V 1 (Int32.toNatClampNeg y4))), (1, .int y5), (0, .ref (ad 0))]) hx hb dX12_cutAll_44 hl (k := 1) rfl (by rw [ez23]; rfl) (by decide) rfl (fun ls hl => ?_)
          refine lv_goto (tgt := 17) hx hb dX12_cutAll_47 (by decide) ?_
          exact ihlp8 z23 y5 V6 L7 H locs ls (by omega) (by omega) (show y5.toInt ≤ z23.toInt from by omega) (show z23.toInt ≤ (V6 0 3).toInt from by omega) (by omega) alL7 (agr.tr agr.rf ajV6 (by decide) (by decide)) hMV6 hP hD hS (lv_sub hl [0, 2, 3] rfl)
        · skip
          have f24 : ((V 1 (Int32.toNatClampNeg y4))).toInt ≠ 10 := b_neq rfl (by decide) c21
          refine lv_iload_n hx hb dX12_cutAll_38 rfl (lv_at hl 0 rfl) ?_
          refine lv_bipush (v := 32) hx hb dX12_cutAll_39 (by decide) ?_
          refine lv_icmp_ne (tgt := 50) hx hb dX12_cutAll_41 (by decide) (fun c25 => ?_) (fun c25 => ?_)
          · skip
            have f26 : ((V 1 (Int32.toNatClampNeg y4))).toInt ≠ 32 := b_neq rfl (by decide) c25
            refine lv_iload_n hx hb dX12_cutAll_50 rfl (lv_at hl 1 rfl) ?_
            refine lv_istore (lv' := [(4, .int y4), (3, .int (V 1 (Int32.toNatClampNeg y4))), (2, .int y4), (1, .int y5), (0, .ref (ad 0))]) hx hb dX12_cutAll_51 hl (by decide) rfl (fun ls hl => ?_)
            refine lv_lconst (v := 0) hx hb dX12_cutAll_53 (by decide) ?_
            refine lv_lstore (lv' := [(5, .long 0), (4, .int y4), (3, .int (V 1 (Int32.toNatClampNeg y4))), (2, .int y4), (1, .int y5), (0, .ref (ad 0))]) hx hb dX12_cutAll_54 hl (by decide) rfl (fun ls hl => ?_)
            refine lv_aload_n hx hb dX12_cutAll_56 rfl (lv_at hl 5 rfl) ?_
            refine va_get (D := D) (ci := 12) (v := .ref (ad 5)) (C := RX12) (T := TX12) (N := 100) hx hb hg inX12 hown hK hP 0 rfl rfl 5 (by decide) (hg _ w1711) (fun _ h9 => h9) rfl dX12_cutAll_57 ?_
            refine lv_iload_n hx hb dX12_cutAll_60 rfl (lv_at hl 4 rfl) ?_
            refine lv_iload_n hx hb dX12_cutAll_61 rfl (lv_at hl 3 rfl) ?_
            refine va_iast (D := D) (i := y5) (x := y4) hx hb hK hP hD hS 3 2 rfl rfl (i_in (a := y5.toInt) rfl (by omega)) dX12_cutAll_62 (fun H locs hP hD hS => ?_)
            obtain ⟨V27, hV27⟩ : ∃ z, z = up2 V6 5 (Int32.toNatClampNeg y5) y4 := ⟨_, rfl⟩
            have hP : va_P D vwCl (mw ad kk ks.1 V27 L7) H := by rw [hV27]; exact hP
            have hD : va_D A (mw ad kk ks.1 V27 L7) := by rw [hV27]; exact hD
            have hMV27 : rgd bM V27 := hMV6.put hV27 (show 0 ≤ y4.toInt ∧ y4.toInt ≤ 4000 from by omega)
            have agV27 : agr [(0, 2), (0, 3), (0, 7), (0, 8)] [4, 5, 6] V V27 := agV6.up hV27 rfl
            refine lv_iload_n hx hb dX12_cutAll_63 rfl (lv_at hl 2 rfl) ?_
            refine gE_int (g_runS (As := [.int (V 1 (Int32.toNatClampNeg y4))]) (rest := []) (wc := []) (tc := []) hx hb hml hown hg gw_self hP hD hK hS hA hnw hgk [] [] (by decide) rfl rfl (s_isLetter l D ks H.size (V 1 (Int32.toNatClampNeg y4)) ) w1703 w1704 w172 w1705 hdS_yX12_isLetter ⟨Nat.le_of_ble_eq_true rfl, Nat.le_of_ble_eq_true rfl⟩ rfl hl.1 rfl (Nat.le_of_ble_eq_true rfl) dX12_cutAll_64 ⟨Nat.le_of_ble_eq_true rfl, Nat.le_of_ble_eq_true rfl⟩) hP hD hK hS hA (fun z28 u29 H locs w30 hP hD hK hS => ?_)
            obtain ⟨rgz28, t31, t32⟩ := w30
            replace rgz28 : 0 ≤ z28.toInt ∧ z28.toInt ≤ 1 := rgz28
            replace t31 : Imp (z28.toInt = 1) (97 ≤ ((V 1 (Int32.toNatClampNeg y4))).toInt ∧ ((V 1 (Int32.toNatClampNeg y4))).toInt ≤ 122) := t31
            replace t32 : Imp (z28.toInt = 0) (((V 1 (Int32.toNatClampNeg y4))).toInt < 97 ∨ 122 < ((V 1 (Int32.toNatClampNeg y4))).toInt) := t32
            have J33 : ∀ (y34 : Int64) (y35 : Int32) (V36 : Vf) (H : Heap) (locs : List Loc) (ls : Array Slot), 0 ≤ y35.toInt ∧ y35.toInt ≤ 4000 → agr [] [4] V27 V36 → rgd bM V36 → y4.toInt + 1 ≤ y35.toInt → y35.toInt ≤ (V36 0 3).toInt → va_P D vwCl (mw ad kk ks.1 V36 L7) H → va_D A (mw ad kk ks.1 V36 L7) → va_S A s.heap H locs → lv_has ls 7 [(5, .long y34), (4, .int y4), (3, .int (V 1 (Int32.toNatClampNeg y4))), (2, .int y35), (1, .int y5), (0, .ref (ad 0))] → W p l e r_s_cutAll s m ([.ref (ad 0)] : List Value).toArray below meth c H locs 0 0 (MQ below (q_s_cutAll D ks ad kk V L  A) ([.ref (ad 0)] : List Value).toArray s 0 0 A) (F0 m 279 ls []) := by
              intro y34 y35 V36 H locs ls kJ33_0 ajV36 hMV36 xJ33_0 xJ33_1 hP hD hS hl
              have agV36 : agr [(0, 2), (0, 3), (0, 7), (0, 8)] [4, 5, 6] V V36 := agV27.tr ajV36 (by decide) (by decide)
              have pq37 : (V36 0 3).toInt = ((V 0 2)).toInt := congrArg Int32.toInt ((ajV36 0 3 rfl).trans ((up2_o hV27 (by decide)).trans ((ajV6 0 3 rfl).trans ((up2_k hV3 (by decide)).trans (up2_s hV2)))))
              refine lv_aload_n hx hb dX12_cutAll_279 rfl (lv_at hl 5 rfl) ?_
              refine va_get (D := D) (ci := 12) (v := .ref (ad 6)) (C := RX12) (T := TX12) (N := 100) hx hb hg inX12 hown hK hP 0 rfl rfl 6 (by decide) (hg _ w1712) (fun _ h9 => h9) rfl dX12_cutAll_280 ?_
              refine lv_iload_n hx hb dX12_cutAll_283 rfl (lv_at hl 4 rfl) ?_
              refine lv_lload hx hb dX12_cutAll_284 (lv_at hl 0 rfl) ?_
              refine va_last (D := D) (i := y5) (x := y34) hx hb hK hP hD hS 4 3 rfl rfl (i_in (a := y5.toInt) rfl (by first | omega | ((try (have i_t32 := Imp.go t32 (by omega))); (try (have i_t31 := Imp.go t31 (by omega))); (try (have i_t31 := Imp.go t31 (by omega))); (try (have i_t32 := Imp.go t32 (by omega))); omega))) dX12_cutAll_286 (fun H locs hP hD hS => ?_)
              obtain ⟨L38, hL38⟩ : ∃ z, z = upL L7 6 (Int32.toNatClampNeg y5) y34 := ⟨_, rfl⟩
              have hP : va_P D vwCl (mw ad kk ks.1 V36 L38) H := by rw [hL38]; exact hP
              have hD : va_D A (mw ad kk ks.1 V36 L38) := by rw [hL38]; exact hD
              have alL38 : agL [4, 5, 6] L L38 := agL.up alL7 hL38 rfl
              obtain ⟨z39, ez39⟩ : ∃ y : Int32, y = y5 + 1 := ⟨_, rfl⟩
              have hz39 : z39.toInt = y5.toInt + 1 := i_add ez39 rfl (by decide) (by omega)
              refine lv_iinc (v := z39) (lv' := [(1, .int z39), (5, .long y34), (4, .int y4), (3, .int (V 1 (Int32.toNatClampNeg y4))), (2, .int y35), (0, .ref (ad 0))]) hx hb dX12_cutAll_287 hl (k := 4) rfl (by rw [ez39]; rfl) (by decide) rfl (fun ls hl => ?_)
              refine lv_goto (tgt := 17) hx hb dX12_cutAll_290 (by decide) ?_
              exact ihlp8 y35 z39 V36 L38 H locs ls (by first | omega | ((try (have i_t32 := Imp.go t32 (by omega))); (try (have i_t31 := Imp.go t31 (by omega))); (try (have i_t31 := Imp.go t31 (by omega))); (try (have i_t32 := Imp.go t32 (by omega))); omega)) (by first | omega | ((try (have i_t32 := Imp.go t32 (by omega))); (try (have i_t31 := Imp.go t31 (by omega))); (try (have i_t31 := Imp.go t31 (by omega))); (try (have i_t32 := Imp.go t32 (by omega))); omega)) (show z39.toInt ≤ y35.toInt from by first | omega | ((try (have i_t32 := Imp.go t32 (by omega))); (try (have i_t31 := Imp.go t31 (by omega))); (try (have i_t31 := Imp.go t31 (by omega))); (try (have i_t32 := Imp.go t32 (by omega))); omega)) (show y35.toInt ≤ (V36 0 3).toInt from by first | omega | ((try (have i_t32 := Imp.go t32 (by omega))); (try (have i_t31 := Imp.go t31 (by omega))); (try (have i_t31 := Imp.go t31 (by omega))); (try (have i_t32 := Imp.go t32 (by omega))); omega)) (by first | omega | ((try (have i_t32 := Imp.go t32 (by omega))); (try (have i_t31 := Imp.go t31 (by omega))); (try (have i_t31 := Imp.go t31 (by omega))); (try (have i_t32 := Imp.go t32 (by omega))); omega)) alL38 (agr.tr (agr.up (agr.tr agr.rf ajV6 (by decide) (by decide)) hV27 rfl) ajV36 (by decide) (by decide)) hMV36 hP hD hS (lv_sub hl [4, 0, 5] rfl)
            refine lv_if_eq (tgt := 164) hx hb dX12_cutAll_67 (by decide) (fun c40 => ?_) (fun c40 => ?_)
            · skip
              have f41 : z28.toInt = 0 := b_eq rfl (by decide) c40
              refine lv_iload_n hx hb dX12_cutAll_164 rfl (lv_at hl 2 rfl) ?_
              refine gE_int (g_runS (As := [.int (V 1 (Int32.toNatClampNeg y4))]) (rest := []) (wc := []) (tc := []) hx hb hml hown hg gw_self hP hD hK hS hA hnw hgk [] [] (by decide) rfl rfl (s_isDigit l D ks H.size (V 1 (Int32.toNatClampNeg y4)) ) w2015 w2016 w172 w2017 hdS_yX12_isDigit ⟨Nat.le_of_ble_eq_true rfl, Nat.le_of_ble_eq_true rfl⟩ rfl hl.1 rfl (Nat.le_of_ble_eq_true rfl) dX12_cutAll_165 ⟨Nat.le_of_ble_eq_true rfl, Nat.le_of_ble_eq_true rfl⟩) hP hD hK hS hA (fun z42 u43 H locs w44 hP hD hK hS => ?_)
              obtain ⟨rgz42, t45, t46⟩ := w44
              replace rgz42 : 0 ≤ z42.toInt ∧ z42.toInt ≤ 1 := rgz42
              replace t45 : Imp (z42.toInt = 1) (48 ≤ ((V 1 (Int32.toNatClampNeg y4))).toInt ∧ ((V 1 (Int32.toNatClampNeg y4))).toInt ≤ 57) := t45
              replace t46 : Imp (z42.toInt = 0) (((V 1 (Int32.toNatClampNeg y4))).toInt < 48 ∨ 57 < ((V 1 (Int32.toNatClampNeg y4))).toInt) := t46
              refine lv_if_eq (tgt := 254) hx hb dX12_cutAll_168 (by decide) (fun c47 => ?_) (fun c47 => ?_)
              · skip
                have f48 : z42.toInt = 0 := b_eq rfl (by decide) c47
                refine lv_iload_n hx hb dX12_cutAll_254 rfl (lv_at hl 2 rfl) ?_
                refine lv_i2l hx hb dX12_cutAll_255 rfl ?_
                refine lv_topl (fun w49 ew49 => ?_)
                refine lv_lstore (lv' := [(5, .long w49), (4, .int y4), (3, .int (V 1 (Int32.toNatClampNeg y4))), (2, .int y4), (1, .int y5), (0, .ref (ad 0))]) hx hb dX12_cutAll_256 hl (by decide) rfl (fun ls hl => ?_)
                refine lv_aload_n hx hb dX12_cutAll_258 rfl (lv_at hl 5 rfl) ?_
                refine va_get (D := D) (ci := 12) (v := .ref (ad 4)) (C := RX12) (T := TX12) (N := 100) hx hb hg inX12 hown hK hP 0 rfl rfl 4 (by decide) (hg _ w1710) (fun _ h9 => h9) rfl dX12_cutAll_259 ?_
                refine lv_iload_n hx hb dX12_cutAll_262 rfl (lv_at hl 4 rfl) ?_
                refine lv_iload_n hx hb dX12_cutAll_263 rfl (lv_at hl 2 rfl) ?_
                refine gE_int (g_runS (As := [.int (V 1 (Int32.toNatClampNeg y4))]) (rest := [.int y5, .ref (ad 4)]) (wc := []) (tc := []) hx hb hml hown hg gw_self hP hD hK hS hA hnw hgk [] [] (by decide) rfl rfl (s_isSignOf l D ks H.size (V 1 (Int32.toNatClampNeg y4)) ) w2020 w2021 w172 w2022 hdS_yX12_isSignOf ⟨Nat.le_of_ble_eq_true rfl, Nat.le_of_ble_eq_true rfl⟩ rfl hl.1 rfl (Nat.le_of_ble_eq_true rfl) dX12_cutAll_264 ⟨Nat.le_of_ble_eq_true rfl, Nat.le_of_ble_eq_true rfl⟩) hP hD hK hS hA (fun z50 u51 H locs w52 hP hD hK hS => ?_)
                have rgz50 := w52
                replace rgz50 : 0 ≤ z50.toInt ∧ z50.toInt ≤ 1 := rgz50
                have J53 : ∀ (y54 : Int32) (H : Heap) (locs : List Loc) (ls : Array Slot), 3 ≤ y54.toInt ∧ y54.toInt ≤ 4 → va_P D vwCl (mw ad kk ks.1 V27 L7) H → va_D A (mw ad kk ks.1 V27 L7) → va_S A s.heap H locs → lv_has ls 7 [(5, .long w49), (4, .int y4), (3, .int (V 1 (Int32.toNatClampNeg y4))), (2, .int y4), (1, .int y5), (0, .ref (ad 0))] → W p l e r_s_cutAll s m ([.ref (ad 0)] : List Value).toArray below meth c H locs 0 0 (MQ below (q_s_cutAll D ks ad kk V L  A) ([.ref (ad 0)] : List Value).toArray s 0 0 A) (F0 m 275 ls [.int y54, .int y5, .ref (ad 4)]) := by
                  intro y54 H locs ls kJ53_0 hP hD hS hl
                  refine va_iast (D := D) (i := y5) (x := y54) hx hb hK hP hD hS 2 1 rfl rfl (i_in (a := y5.toInt) rfl (by first | omega | ((try (have i_t46 := Imp.go t46 (by omega))); (try (have i_t45 := Imp.go t45 (by omega))); (try (have i_t32 := Imp.go t32 (by omega))); (try (have i_t31 := Imp.go t31 (by omega))); first | omega | ((try (have i_t31 := Imp.go t31 (by omega))); (try (have i_t32 := Imp.go t32 (by omega))); (try (have i_t45 := Imp.go t45 (by omega))); (try (have i_t46 := Imp.go t46 (by omega))); omega)))) dX12_cutAll_275 (fun H locs hP hD hS => ?_)
                  obtain ⟨V55, hV55⟩ : ∃ z, z = up2 V27 4 (Int32.toNatClampNeg y5) y54 := ⟨_, rfl⟩
                  have hP : va_P D vwCl (mw ad kk ks.1 V55 L7) H := by rw [hV55]; exact hP
                  have hD : va_D A (mw ad kk ks.1 V55 L7) := by rw [hV55]; exact hD
                  have hMV55 : rgd bM V55 := hMV27.put hV55 (i_full _)
                  have agV55 : agr [(0, 2), (0, 3), (0, 7), (0, 8)] [4, 5, 6] V V55 := agV27.up hV55 rfl
                  obtain ⟨z56, ez56⟩ : ∃ y : Int32, y = y4 + 1 := ⟨_, rfl⟩
                  have hz56 : z56.toInt = y4.toInt + 1 := i_add ez56 rfl (by decide) (by omega)
                  refine lv_iinc (v := z56) (lv' := [(2, .int z56), (5, .long w49), (4, .int y4), (3, .int (V 1 (Int32.toNatClampNeg y4))), (1, .int y5), (0, .ref (ad 0))]) hx hb dX12_cutAll_276 hl (k := 3) rfl (by rw [ez56]; rfl) (by decide) rfl (fun ls hl => ?_)
                  have pq57 : (V55 0 3).toInt = ((V 0 2)).toInt := congrArg Int32.toInt ((up2_o hV55 (by decide)).trans ((up2_o hV27 (by decide)).trans ((ajV6 0 3 rfl).trans ((up2_k hV3 (by decide)).trans (up2_s hV2)))))
                  exact J33 w49 z56 V55 H locs ls (by first | omega | ((try (have i_t46 := Imp.go t46 (by omega))); (try (have i_t45 := Imp.go t45 (by omega))); (try (have i_t32 := Imp.go t32 (by omega))); (try (have i_t31 := Imp.go t31 (by omega))); first | omega | ((try (have i_t31 := Imp.go t31 (by omega))); (try (have i_t32 := Imp.go t32 (by omega))); (try (have i_t45 := Imp.go t45 (by omega))); (try (have i_t46 := Imp.go t46 (by omega))); omega))) (agr.up agr.rf hV55 rfl) hMV55 (show y4.toInt + 1 ≤ z56.toInt from by first | omega | ((try (have i_t46 := Imp.go t46 (by omega))); (try (have i_t45 := Imp.go t45 (by omega))); (try (have i_t32 := Imp.go t32 (by omega))); (try (have i_t31 := Imp.go t31 (by omega))); first | omega | ((try (have i_t31 := Imp.go t31 (by omega))); (try (have i_t32 := Imp.go t32 (by omega))); (try (have i_t45 := Imp.go t45 (by omega))); (try (have i_t46 := Imp.go t46 (by omega))); omega))) (show z56.toInt ≤ (V55 0 3).toInt from by first | omega | ((try (have i_t46 := Imp.go t46 (by omega))); (try (have i_t45 := Imp.go t45 (by omega))); (try (have i_t32 := Imp.go t32 (by omega))); (try (have i_t31 := Imp.go t31 (by omega))); first | omega | ((try (have i_t31 := Imp.go t31 (by omega))); (try (have i_t32 := Imp.go t32 (by omega))); (try (have i_t45 := Imp.go t45 (by omega))); (try (have i_t46 := Imp.go t46 (by omega))); omega))) hP hD hS (lv_sub hl [1, 2, 3, 0, 4, 5] rfl)
                refine lv_if_eq (tgt := 274) hx hb dX12_cutAll_267 (by decide) (fun c58 => ?_) (fun c58 => ?_)
                · skip
                  have f59 : z50.toInt = 0 := b_eq rfl (by decide) c58
                  refine lv_iconst (v := 4) hx hb dX12_cutAll_274 (by decide) ?_
                  have r60 : Int32.toInt 4 = 4 := by decide
                  exact J53 4 H locs ls (by decide) hP hD hS (lv_sub hl [0, 1, 2, 3, 4, 5] rfl)
                · skip
                  have f61 : z50.toInt ≠ 0 := b_neq rfl (by decide) c58
                  refine lv_iconst (v := 3) hx hb dX12_cutAll_270 (by decide) ?_
                  refine lv_goto (tgt := 275) hx hb dX12_cutAll_271 (by decide) ?_
                  have r62 : Int32.toInt 3 = 3 := by decide
                  exact J53 3 H locs ls (by decide) hP hD hS (lv_sub hl [0, 1, 2, 3, 4, 5] rfl)
              · skip
                have f63 : z42.toInt ≠ 0 := b_neq rfl (by decide) c47
                have lp66 : ∀ (fulp66 : Nat) (y64 : Int64) (y65 : Int32) (H : Heap) (locs : List Loc) (ls : Array Slot), 0 ≤ y65.toInt ∧ y65.toInt ≤ 4000 → y4.toInt ≤ y65.toInt → y65.toInt ≤ (V27 0 3).toInt → y4.toInt < y65.toInt ∨ (V27 1 (Int32.toNatClampNeg y65)).toInt = ((V 1 (Int32.toNatClampNeg y4))).toInt → (V27 0 3).toInt - y65.toInt < (fulp66 : Int) → va_P D vwCl (mw ad kk ks.1 V27 L7) H → va_D A (mw ad kk ks.1 V27 L7) → va_S A s.heap H locs → lv_has ls 7 [(5, .long y64), (4, .int y4), (3, .int (V 1 (Int32.toNatClampNeg y4))), (2, .int y65), (1, .int y5), (0, .ref (ad 0))] → W p l e r_s_cutAll s m ([.ref (ad 0)] : List Value).toArray below meth c H locs 0 0 (MQ below (q_s_cutAll D ks ad kk V L  A) ([.ref (ad 0)] : List Value).toArray s 0 0 A) (F0 m 171 ls []) := by
                  intro fulp66
                  induction fulp66 with
                  | zero =>
                    intro y64 y65 H locs ls klp66_0 xlp66_0 xlp66_1 xlp66_2 hn  hP hD hS hl
                    exfalso; omega
                  | succ fulp66 ihlp66 =>
                    intro y64 y65 H locs ls klp66_0 xlp66_0 xlp66_1 xlp66_2 hn  hP hD hS hl
                    have pq67 : (V27 0 3).toInt = ((V 0 2)).toInt := congrArg Int32.toInt ((up2_o hV27 (by decide)).trans ((ajV6 0 3 rfl).trans ((up2_k hV3 (by decide)).trans (up2_s hV2))))
                    have pq68 : (V27 1 (Int32.toNatClampNeg y65)).toInt = ((V 1 (Int32.toNatClampNeg y65))).toInt := congrArg Int32.toInt ((up2_o hV27 (by decide)).trans ((ajV6 1 (Int32.toNatClampNeg y65) rfl).trans ((up2_o hV3 (by decide)).trans (up2_o hV2 (by decide)))))
                    refine lv_iload_n hx hb dX12_cutAll_171 rfl (lv_at hl 3 rfl) ?_
                    refine lv_aload_n hx hb dX12_cutAll_172 rfl (lv_at hl 5 rfl) ?_
                    refine va_get (D := D) (ci := 12) (v := .int (V27 0 3)) (C := RX12) (T := TX12) (N := 100) hx hb hg inX12 hown hK hP 0 rfl rfl 3 (by decide) (hg _ w1709) (fun _ h9 => h9) rfl dX12_cutAll_173 ?_
                    refine g_top (v := (V 0 2)) ((up2_o hV27 (by decide)).trans ((ajV6 0 3 rfl).trans ((up2_k hV3 (by decide)).trans (up2_s hV2)))) ?_
                    have J69 : ∀ (H : Heap) (locs : List Loc) (ls : Array Slot), y4.toInt + 1 ≤ y65.toInt → va_P D vwCl (mw ad kk ks.1 V27 L7) H → va_D A (mw ad kk ks.1 V27 L7) → va_S A s.heap H locs → lv_has ls 7 [(5, .long y64), (4, .int y4), (3, .int (V 1 (Int32.toNatClampNeg y4))), (2, .int y65), (1, .int y5), (0, .ref (ad 0))] → W p l e r_s_cutAll s m ([.ref (ad 0)] : List Value).toArray below meth c H locs 0 0 (MQ below (q_s_cutAll D ks ad kk V L  A) ([.ref (ad 0)] : List Value).toArray s 0 0 A) (F0 m 231 ls []) := by
                      intro H locs ls xJ69_0 hP hD hS hl
                      refine lv_aload_n hx hb dX12_cutAll_231 rfl (lv_at hl 5 rfl) ?_
                      refine va_get (D := D) (ci := 12) (v := .ref (ad 4)) (C := RX12) (T := TX12) (N := 100) hx hb hg inX12 hown hK hP 0 rfl rfl 4 (by decide) (hg _ w1710) (fun _ h9 => h9) rfl dX12_cutAll_232 ?_
                      refine lv_iload_n hx hb dX12_cutAll_235 rfl (lv_at hl 4 rfl) ?_
                      refine lv_iload_n hx hb dX12_cutAll_236 rfl (lv_at hl 3 rfl) ?_
                      refine lv_iload hx hb dX12_cutAll_237 (lv_at hl 1 rfl) ?_
                      refine lv_isub hx hb dX12_cutAll_239 ?_
                      refine lv_topi (fun z70 ez70 => ?_)
                      have hz70 : z70.toInt = y65.toInt - y4.toInt := i_sub ez70 rfl rfl (by omega)
                      refine lv_bipush (v := 9) hx hb dX12_cutAll_240 (by decide) ?_
                      have J71 : ∀ (y72 : Int32) (H : Heap) (locs : List Loc) (ls : Array Slot), 2 ≤ y72.toInt ∧ y72.toInt ≤ 4 → va_P D vwCl (mw ad kk ks.1 V27 L7) H → va_D A (mw ad kk ks.1 V27 L7) → va_S A s.heap H locs → lv_has ls 7 [(5, .long y64), (4, .int y4), (3, .int (V 1 (Int32.toNatClampNeg y4))), (2, .int y65), (1, .int y5), (0, .ref (ad 0))] → W p l e r_s_cutAll s m ([.ref (ad 0)] : List Value).toArray below meth c H locs 0 0 (MQ below (q_s_cutAll D ks ad kk V L  A) ([.ref (ad 0)] : List Value).toArray s 0 0 A) (F0 m 250 ls [.int y72, .int y5, .ref (ad 4)]) := by
                        intro y72 H locs ls kJ71_0 hP hD hS hl
                        refine va_iast (D := D) (i := y5) (x := y72) hx hb hK hP hD hS 2 1 rfl rfl (i_in (a := y5.toInt) rfl (by first | omega | ((try (have i_t46 := Imp.go t46 (by omega))); (try (have i_t45 := Imp.go t45 (by omega))); (try (have i_t32 := Imp.go t32 (by omega))); (try (have i_t31 := Imp.go t31 (by omega))); first | omega | ((try (have i_t31 := Imp.go t31 (by omega))); (try (have i_t32 := Imp.go t32 (by omega))); (try (have i_t45 := Imp.go t45 (by omega))); (try (have i_t46 := Imp.go t46 (by omega))); omega)))) dX12_cutAll_250 (fun H locs hP hD hS => ?_)
                        obtain ⟨V73, hV73⟩ : ∃ z, z = up2 V27 4 (Int32.toNatClampNeg y5) y72 := ⟨_, rfl⟩
                        have hP : va_P D vwCl (mw ad kk ks.1 V73 L7) H := by rw [hV73]; exact hP
                        have hD : va_D A (mw ad kk ks.1 V73 L7) := by rw [hV73]; exact hD
                        have hMV73 : rgd bM V73 := hMV27.put hV73 (i_full _)
                        have agV73 : agr [(0, 2), (0, 3), (0, 7), (0, 8)] [4, 5, 6] V V73 := agV27.up hV73 rfl
                        refine lv_goto (tgt := 279) hx hb dX12_cutAll_251 (by decide) ?_
                        have pq74 : (V73 0 3).toInt = ((V 0 2)).toInt := congrArg Int32.toInt ((up2_o hV73 (by decide)).trans ((up2_o hV27 (by decide)).trans ((ajV6 0 3 rfl).trans ((up2_k hV3 (by decide)).trans (up2_s hV2)))))
                        exact J33 y64 y65 V73 H locs ls (by first | omega | ((try (have i_t46 := Imp.go t46 (by omega))); (try (have i_t45 := Imp.go t45 (by omega))); (try (have i_t32 := Imp.go t32 (by omega))); (try (have i_t31 := Imp.go t31 (by omega))); first | omega | ((try (have i_t31 := Imp.go t31 (by omega))); (try (have i_t32 := Imp.go t32 (by omega))); (try (have i_t45 := Imp.go t45 (by omega))); (try (have i_t46 := Imp.go t46 (by omega))); omega))) (agr.up agr.rf hV73 rfl) hMV73 (show y4.toInt + 1 ≤ y65.toInt from by first | omega | ((try (have i_t46 := Imp.go t46 (by omega))); (try (have i_t45 := Imp.go t45 (by omega))); (try (have i_t32 := Imp.go t32 (by omega))); (try (have i_t31 := Imp.go t31 (by omega))); first | omega | ((try (have i_t31 := Imp.go t31 (by omega))); (try (have i_t32 := Imp.go t32 (by omega))); (try (have i_t45 := Imp.go t45 (by omega))); (try (have i_t46 := Imp.go t46 (by omega))); omega))) (show y65.toInt ≤ (V73 0 3).toInt from by first | omega | ((try (have i_t46 := Imp.go t46 (by omega))); (try (have i_t45 := Imp.go t45 (by omega))); (try (have i_t32 := Imp.go t32 (by omega))); (try (have i_t31 := Imp.go t31 (by omega))); first | omega | ((try (have i_t31 := Imp.go t31 (by omega))); (try (have i_t32 := Imp.go t32 (by omega))); (try (have i_t45 := Imp.go t45 (by omega))); (try (have i_t46 := Imp.go t46 (by omega))); omega))) hP hD hS (lv_sub hl [0, 1, 2, 3, 4, 5] rfl)
                      refine lv_icmp_le (tgt := 249) hx hb dX12_cutAll_242 (by decide) (fun c75 => ?_) (fun c75 => ?_)
                      · skip
                        have f76 : z70.toInt ≤ 9 := b_le rfl (by decide) c75
                        refine lv_iconst (v := 2) hx hb dX12_cutAll_249 (by decide) ?_
                        have r77 : Int32.toInt 2 = 2 := by decide
                        exact J71 2 H locs ls (by decide) hP hD hS (lv_sub hl [0, 1, 2, 3, 4, 5] rfl)
                      · skip
                        have f78 : 9 < z70.toInt := b_nle rfl (by decide) c75
                        refine lv_iconst (v := 4) hx hb dX12_cutAll_245 (by decide) ?_
                        refine lv_goto (tgt := 250) hx hb dX12_cutAll_246 (by decide) ?_
                        have r79 : Int32.toInt 4 = 4 := by decide
                        exact J71 4 H locs ls (by decide) hP hD hS (lv_sub hl [0, 1, 2, 3, 4, 5] rfl)
                    refine lv_icmp_ge (tgt := 231) hx hb dX12_cutAll_176 (by decide) (fun c80 => ?_) (fun c80 => ?_)
                    · skip
                      have f81 : ((V 0 2)).toInt ≤ y65.toInt := b_le rfl rfl c80
                      exact J69  H locs ls (show y4.toInt + 1 ≤ y65.toInt from by first | omega | ((try (have i_t46 := Imp.go t46 (by omega))); (try (have i_t45 := Imp.go t45 (by omega))); (try (have i_t32 := Imp.go t32 (by omega))); (try (have i_t31 := Imp.go t31 (by omega))); first | omega | ((try (have i_t31 := Imp.go t31 (by omega))); (try (have i_t32 := Imp.go t32 (by omega))); (try (have i_t45 := Imp.go t45 (by omega))); (try (have i_t46 := Imp.go t46 (by omega))); omega))) hP hD hS (lv_sub hl [0, 1, 2, 3, 4, 5] rfl)
                    · skip
                      have f82 : y65.toInt < ((V 0 2)).toInt := b_nle rfl rfl c80
                      refine lv_aload_n hx hb dX12_cutAll_179 rfl (lv_at hl 5 rfl) ?_
                      refine va_get (D := D) (ci := 12) (v := .ref (ad 1)) (C := RX12) (T := TX12) (N := 100) hx hb hg inX12 hown hK hP 0 rfl rfl 1 (by decide) (hg _ w1707) (fun _ h9 => h9) rfl dX12_cutAll_180 ?_
                      refine lv_iload_n hx hb dX12_cutAll_183 rfl (lv_at hl 3 rfl) ?_
                      refine va_iald (D := D) (i := y65) hx hb hK hP 1 0 rfl rfl (i_in (a := y65.toInt) rfl (by first | omega | ((try (have i_t46 := Imp.go t46 (by omega))); (try (have i_t45 := Imp.go t45 (by omega))); (try (have i_t32 := Imp.go t32 (by omega))); (try (have i_t31 := Imp.go t31 (by omega))); first | omega | ((try (have i_t31 := Imp.go t31 (by omega))); (try (have i_t32 := Imp.go t32 (by omega))); (try (have i_t45 := Imp.go t45 (by omega))); (try (have i_t46 := Imp.go t46 (by omega))); omega)))) dX12_cutAll_184 ?_
                      refine g_top (v := (V 1 (Int32.toNatClampNeg y65))) ((up2_o hV27 (by decide)).trans ((ajV6 1 (Int32.toNatClampNeg y65) rfl).trans ((up2_o hV3 (by decide)).trans (up2_o hV2 (by decide))))) ?_
                      refine gE_int (g_runS (As := [.int (V 1 (Int32.toNatClampNeg y65))]) (rest := []) (wc := []) (tc := []) hx hb hml hown hg gw_self hP hD hK hS hA hnw hgk [] [] (by decide) rfl rfl (s_isDigit l D ks H.size (V 1 (Int32.toNatClampNeg y65)) ) w2015 w2016 w172 w2017 hdS_yX12_isDigit ⟨Nat.le_of_ble_eq_true rfl, Nat.le_of_ble_eq_true rfl⟩ rfl hl.1 rfl (Nat.le_of_ble_eq_true rfl) dX12_cutAll_185 ⟨Nat.le_of_ble_eq_true rfl, Nat.le_of_ble_eq_true rfl⟩) hP hD hK hS hA (fun z83 u84 H locs w85 hP hD hK hS => ?_)
                      obtain ⟨rgz83, t86, t87⟩ := w85
                      replace rgz83 : 0 ≤ z83.toInt ∧ z83.toInt ≤ 1 := rgz83
                      replace t86 : Imp (z83.toInt = 1) (48 ≤ ((V 1 (Int32.toNatClampNeg y65))).toInt ∧ ((V 1 (Int32.toNatClampNeg y65))).toInt ≤ 57) := t86
                      replace t87 : Imp (z83.toInt = 0) (((V 1 (Int32.toNatClampNeg y65))).toInt < 48 ∨ 57 < ((V 1 (Int32.toNatClampNeg y65))).toInt) := t87
                      refine lv_if_eq (tgt := 231) hx hb dX12_cutAll_188 (by decide) (fun c88 => ?_) (fun c88 => ?_)
                      · skip
                        have f89 : z83.toInt = 0 := b_eq rfl (by decide) c88
                        exact J69  H locs ls (show y4.toInt + 1 ≤ y65.toInt from by first | omega | ((try (have i_t87 := Imp.go t87 (by omega))); (try (have i_t86 := Imp.go t86 (by omega))); (try (have i_t46 := Imp.go t46 (by omega))); (try (have i_t45 := Imp.go t45 (by omega))); first | omega | ((try (have i_t32 := Imp.go t32 (by omega))); (try (have i_t31 := Imp.go t31 (by omega))); (try (have i_t31 := Imp.go t31 (by omega))); (try (have i_t32 := Imp.go t32 (by omega))); first | omega | ((try (have i_t45 := Imp.go t45 (by omega))); (try (have i_t46 := Imp.go t46 (by omega))); (try (have i_t86 := Imp.go t86 (by omega))); (try (have i_t87 := Imp.go t87 (by omega))); omega)))) hP hD hS (lv_sub hl [0, 1, 2, 3, 4, 5] rfl)
                      · skip
                        have f90 : z83.toInt ≠ 0 := b_neq rfl (by decide) c88
                        refine lv_iload_n hx hb dX12_cutAll_191 rfl (lv_at hl 3 rfl) ?_
                        refine lv_iload hx hb dX12_cutAll_192 (lv_at hl 1 rfl) ?_
                        refine lv_isub hx hb dX12_cutAll_194 ?_
                        refine lv_topi (fun z91 ez91 => ?_)
                        have hz91 : z91.toInt = y65.toInt - y4.toInt := i_sub ez91 rfl rfl (by omega)
                        refine lv_bipush (v := 9) hx hb dX12_cutAll_195 (by decide) ?_
                        refine lv_icmp_ge (tgt := 221) hx hb dX12_cutAll_197 (by decide) (fun c92 => ?_) (fun c92 => ?_)
                        · skip
                          have f93 : 9 ≤ z91.toInt := b_le (by decide) rfl c92
                          refine lv_lload hx hb dX12_cutAll_221 (lv_at hl 0 rfl) ?_
                          refine lv_lstore (lv' := [(5, .long y64), (4, .int y4), (3, .int (V 1 (Int32.toNatClampNeg y4))), (2, .int y65), (1, .int y5), (0, .ref (ad 0))]) hx hb dX12_cutAll_223 hl (by decide) rfl (fun ls hl => ?_)
                          obtain ⟨z94, ez94⟩ : ∃ y : Int32, y = y65 + 1 := ⟨_, rfl⟩
                          have hz94 : z94.toInt = y65.toInt + 1 := i_add ez94 rfl (by decide) (by omega)
                          refine lv_iinc (v := z94) (lv' := [(2, .int z94), (5, .long y64), (4, .int y4), (3, .int (V 1 (Int32.toNatClampNeg y4))), (1, .int y5), (0, .ref (ad 0))]) hx hb dX12_cutAll_225 hl (k := 3) rfl (by rw [ez94]; rfl) (by decide) rfl (fun ls hl => ?_)
                          refine lv_goto (tgt := 171) hx hb dX12_cutAll_228 (by decide) ?_
                          have pq95 : (V27 1 (Int32.toNatClampNeg z94)).toInt = ((V 1 (Int32.toNatClampNeg z94))).toInt := congrArg Int32.toInt ((up2_o hV27 (by decide)).trans ((ajV6 1 (Int32.toNatClampNeg z94) rfl).trans ((up2_o hV3 (by decide)).trans (up2_o hV2 (by decide)))))
                          exact ihlp66 y64 z94 H locs ls (by first | omega | ((try (have i_t87 := Imp.go t87 (by omega))); (try (have i_t86 := Imp.go t86 (by omega))); (try (have i_t46 := Imp.go t46 (by omega))); (try (have i_t45 := Imp.go t45 (by omega))); first | omega | ((try (have i_t32 := Imp.go t32 (by omega))); (try (have i_t31 := Imp.go t31 (by omega))); (try (have i_t31 := Imp.go t31 (by omega))); (try (have i_t32 := Imp.go t32 (by omega))); first | omega | ((try (have i_t45 := Imp.go t45 (by omega))); (try (have i_t46 := Imp.go t46 (by omega))); (try (have i_t86 := Imp.go t86 (by omega))); (try (have i_t87 := Imp.go t87 (by omega))); omega)))) (show y4.toInt ≤ z94.toInt from by first | omega | ((try (have i_t87 := Imp.go t87 (by omega))); (try (have i_t86 := Imp.go t86 (by omega))); (try (have i_t46 := Imp.go t46 (by omega))); (try (have i_t45 := Imp.go t45 (by omega))); first | omega | ((try (have i_t32 := Imp.go t32 (by omega))); (try (have i_t31 := Imp.go t31 (by omega))); (try (have i_t31 := Imp.go t31 (by omega))); (try (have i_t32 := Imp.go t32 (by omega))); first | omega | ((try (have i_t45 := Imp.go t45 (by omega))); (try (have i_t46 := Imp.go t46 (by omega))); (try (have i_t86 := Imp.go t86 (by omega))); (try (have i_t87 := Imp.go t87 (by omega))); omega)))) (show z94.toInt ≤ (V27 0 3).toInt from by first | omega | ((try (have i_t87 := Imp.go t87 (by omega))); (try (have i_t86 := Imp.go t86 (by omega))); (try (have i_t46 := Imp.go t46 (by omega))); (try (have i_t45 := Imp.go t45 (by omega))); first | omega | ((try (have i_t32 := Imp.go t32 (by omega))); (try (have i_t31 := Imp.go t31 (by omega))); (try (have i_t31 := Imp.go t31 (by omega))); (try (have i_t32 := Imp.go t32 (by omega))); first | omega | ((try (have i_t45 := Imp.go t45 (by omega))); (try (have i_t46 := Imp.go t46 (by omega))); (try (have i_t86 := Imp.go t86 (by omega))); (try (have i_t87 := Imp.go t87 (by omega))); omega)))) (show y4.toInt < z94.toInt ∨ (V27 1 (Int32.toNatClampNeg z94)).toInt = ((V 1 (Int32.toNatClampNeg y4))).toInt from by first | omega | ((try (have i_t87 := Imp.go t87 (by omega))); (try (have i_t86 := Imp.go t86 (by omega))); (try (have i_t46 := Imp.go t46 (by omega))); (try (have i_t45 := Imp.go t45 (by omega))); first | omega | ((try (have i_t32 := Imp.go t32 (by omega))); (try (have i_t31 := Imp.go t31 (by omega))); (try (have i_t31 := Imp.go t31 (by omega))); (try (have i_t32 := Imp.go t32 (by omega))); first | omega | ((try (have i_t45 := Imp.go t45 (by omega))); (try (have i_t46 := Imp.go t46 (by omega))); (try (have i_t86 := Imp.go t86 (by omega))); (try (have i_t87 := Imp.go t87 (by omega))); omega)))) (by first | omega | ((try (have i_t87 := Imp.go t87 (by omega))); (try (have i_t86 := Imp.go t86 (by omega))); (try (have i_t46 := Imp.go t46 (by omega))); (try (have i_t45 := Imp.go t45 (by omega))); first | omega | ((try (have i_t32 := Imp.go t32 (by omega))); (try (have i_t31 := Imp.go t31 (by omega))); (try (have i_t31 := Imp.go t31 (by omega))); (try (have i_t32 := Imp.go t32 (by omega))); first | omega | ((try (have i_t45 := Imp.go t45 (by omega))); (try (have i_t46 := Imp.go t46 (by omega))); (try (have i_t86 := Imp.go t86 (by omega))); (try (have i_t87 := Imp.go t87 (by omega))); omega)))) hP hD hS (lv_sub hl [1, 2, 3, 0, 4, 5] rfl)
                        · skip
                          have f96 : z91.toInt < 9 := b_nle (by decide) rfl c92
                          refine lv_ldc2 (v := 10) hx hb hown (hg _ w2018) dX12_cutAll_200 ?_
                          refine lv_lload hx hb dX12_cutAll_203 (lv_at hl 0 rfl) ?_
                          refine lv_lmul hx hb dX12_cutAll_205 ?_
                          refine lv_topl (fun w97 ew97 => ?_)
                          refine lv_aload_n hx hb dX12_cutAll_206 rfl (lv_at hl 5 rfl) ?_
                          refine va_get (D := D) (ci := 12) (v := .ref (ad 1)) (C := RX12) (T := TX12) (N := 100) hx hb hg inX12 hown hK hP 0 rfl rfl 1 (by decide) (hg _ w1707) (fun _ h9 => h9) rfl dX12_cutAll_207 ?_
                          refine lv_iload_n hx hb dX12_cutAll_210 rfl (lv_at hl 3 rfl) ?_
                          refine va_iald (D := D) (i := y65) hx hb hK hP 1 0 rfl rfl (i_in (a := y65.toInt) rfl (by first | omega | ((try (have i_t87 := Imp.go t87 (by omega))); (try (have i_t86 := Imp.go t86 (by omega))); (try (have i_t46 := Imp.go t46 (by omega))); (try (have i_t45 := Imp.go t45 (by omega))); first | omega | ((try (have i_t32 := Imp.go t32 (by omega))); (try (have i_t31 := Imp.go t31 (by omega))); (try (have i_t31 := Imp.go t31 (by omega))); (try (have i_t32 := Imp.go t32 (by omega))); first | omega | ((try (have i_t45 := Imp.go t45 (by omega))); (try (have i_t46 := Imp.go t46 (by omega))); (try (have i_t86 := Imp.go t86 (by omega))); (try (have i_t87 := Imp.go t87 (by omega))); omega))))) dX12_cutAll_211 ?_
                          refine g_top (v := (V 1 (Int32.toNatClampNeg y65))) ((up2_o hV27 (by decide)).trans ((ajV6 1 (Int32.toNatClampNeg y65) rfl).trans ((up2_o hV3 (by decide)).trans (up2_o hV2 (by decide))))) ?_
                          refine lv_i2l hx hb dX12_cutAll_212 rfl ?_
                          refine lv_topl (fun w98 ew98 => ?_)
                          refine lv_ladd hx hb dX12_cutAll_213 ?_
                          refine lv_topl (fun w99 ew99 => ?_)
                          refine lv_ldc2 (v := 48) hx hb hown (hg _ w2019) dX12_cutAll_214 ?_
                          refine lv_lsub hx hb dX12_cutAll_217 ?_
                          refine lv_topl (fun w100 ew100 => ?_)
                          refine lv_goto (tgt := 223) hx hb dX12_cutAll_218 (by decide) ?_
                          refine lv_lstore (lv' := [(5, .long w100), (4, .int y4), (3, .int (V 1 (Int32.toNatClampNeg y4))), (2, .int y65), (1, .int y5), (0, .ref (ad 0))]) hx hb dX12_cutAll_223 hl (by decide) rfl (fun ls hl => ?_)
                          obtain ⟨z101, ez101⟩ : ∃ y : Int32, y = y65 + 1 := ⟨_, rfl⟩
                          have hz101 : z101.toInt = y65.toInt + 1 := i_add ez101 rfl (by decide) (by omega)
                          refine lv_iinc (v := z101) (lv' := [(2, .int z101), (5, .long w100), (4, .int y4), (3, .int (V 1 (Int32.toNatClampNeg y4))), (1, .int y5), (0, .ref (ad 0))]) hx hb dX12_cutAll_225 hl (k := 3) rfl (by rw [ez101]; rfl) (by decide) rfl (fun ls hl => ?_)
                          refine lv_goto (tgt := 171) hx hb dX12_cutAll_228 (by decide) ?_
                          have pq102 : (V27 1 (Int32.toNatClampNeg z101)).toInt = ((V 1 (Int32.toNatClampNeg z101))).toInt := congrArg Int32.toInt ((up2_o hV27 (by decide)).trans ((ajV6 1 (Int32.toNatClampNeg z101) rfl).trans ((up2_o hV3 (by decide)).trans (up2_o hV2 (by decide)))))
                          exact ihlp66 w100 z101 H locs ls (by first | omega | ((try (have i_t87 := Imp.go t87 (by omega))); (try (have i_t86 := Imp.go t86 (by omega))); (try (have i_t46 := Imp.go t46 (by omega))); (try (have i_t45 := Imp.go t45 (by omega))); first | omega | ((try (have i_t32 := Imp.go t32 (by omega))); (try (have i_t31 := Imp.go t31 (by omega))); (try (have i_t31 := Imp.go t31 (by omega))); (try (have i_t32 := Imp.go t32 (by omega))); first | omega | ((try (have i_t45 := Imp.go t45 (by omega))); (try (have i_t46 := Imp.go t46 (by omega))); (try (have i_t86 := Imp.go t86 (by omega))); (try (have i_t87 := Imp.go t87 (by omega))); omega)))) (show y4.toInt ≤ z101.toInt from by first | omega | ((try (have i_t87 := Imp.go t87 (by omega))); (try (have i_t86 := Imp.go t86 (by omega))); (try (have i_t46 := Imp.go t46 (by omega))); (try (have i_t45 := Imp.go t45 (by omega))); first | omega | ((try (have i_t32 := Imp.go t32 (by omega))); (try (have i_t31 := Imp.go t31 (by omega))); (try (have i_t31 := Imp.go t31 (by omega))); (try (have i_t32 := Imp.go t32 (by omega))); first | omega | ((try (have i_t45 := Imp.go t45 (by omega))); (try (have i_t46 := Imp.go t46 (by omega))); (try (have i_t86 := Imp.go t86 (by omega))); (try (have i_t87 := Imp.go t87 (by omega))); omega)))) (show z101.toInt ≤ (V27 0 3).toInt from by first | omega | ((try (have i_t87 := Imp.go t87 (by omega))); (try (have i_t86 := Imp.go t86 (by omega))); (try (have i_t46 := Imp.go t46 (by omega))); (try (have i_t45 := Imp.go t45 (by omega))); first | omega | ((try (have i_t32 := Imp.go t32 (by omega))); (try (have i_t31 := Imp.go t31 (by omega))); (try (have i_t31 := Imp.go t31 (by omega))); (try (have i_t32 := Imp.go t32 (by omega))); first | omega | ((try (have i_t45 := Imp.go t45 (by omega))); (try (have i_t46 := Imp.go t46 (by omega))); (try (have i_t86 := Imp.go t86 (by omega))); (try (have i_t87 := Imp.go t87 (by omega))); omega)))) (show y4.toInt < z101.toInt ∨ (V27 1 (Int32.toNatClampNeg z101)).toInt = ((V 1 (Int32.toNatClampNeg y4))).toInt from by first | omega | ((try (have i_t87 := Imp.go t87 (by omega))); (try (have i_t86 := Imp.go t86 (by omega))); (try (have i_t46 := Imp.go t46 (by omega))); (try (have i_t45 := Imp.go t45 (by omega))); first | omega | ((try (have i_t32 := Imp.go t32 (by omega))); (try (have i_t31 := Imp.go t31 (by omega))); (try (have i_t31 := Imp.go t31 (by omega))); (try (have i_t32 := Imp.go t32 (by omega))); first | omega | ((try (have i_t45 := Imp.go t45 (by omega))); (try (have i_t46 := Imp.go t46 (by omega))); (try (have i_t86 := Imp.go t86 (by omega))); (try (have i_t87 := Imp.go t87 (by omega))); omega)))) (by first | omega | ((try (have i_t87 := Imp.go t87 (by omega))); (try (have i_t86 := Imp.go t86 (by omega))); (try (have i_t46 := Imp.go t46 (by omega))); (try (have i_t45 := Imp.go t45 (by omega))); first | omega | ((try (have i_t32 := Imp.go t32 (by omega))); (try (have i_t31 := Imp.go t31 (by omega))); (try (have i_t31 := Imp.go t31 (by omega))); (try (have i_t32 := Imp.go t32 (by omega))); first | omega | ((try (have i_t45 := Imp.go t45 (by omega))); (try (have i_t46 := Imp.go t46 (by omega))); (try (have i_t86 := Imp.go t86 (by omega))); (try (have i_t87 := Imp.go t87 (by omega))); omega)))) hP hD hS (lv_sub hl [1, 2, 3, 0, 4, 5] rfl)
                have pq103 : (V27 0 3).toInt = ((V 0 2)).toInt := congrArg Int32.toInt ((up2_o hV27 (by decide)).trans ((ajV6 0 3 rfl).trans ((up2_k hV3 (by decide)).trans (up2_s hV2))))
                have pq104 : (V27 1 (Int32.toNatClampNeg y4)).toInt = ((V 1 (Int32.toNatClampNeg y4))).toInt := congrArg Int32.toInt ((up2_o hV27 (by decide)).trans ((ajV6 1 (Int32.toNatClampNeg y4) rfl).trans ((up2_o hV3 (by decide)).trans (up2_o hV2 (by decide)))))
                exact lp66 (((V27 0 3).toInt - y4.toInt + 1 : Int).toNat) 0 y4 H locs ls (by first | omega | ((try (have i_t46 := Imp.go t46 (by omega))); (try (have i_t45 := Imp.go t45 (by omega))); (try (have i_t32 := Imp.go t32 (by omega))); (try (have i_t31 := Imp.go t31 (by omega))); first | omega | ((try (have i_t31 := Imp.go t31 (by omega))); (try (have i_t32 := Imp.go t32 (by omega))); (try (have i_t45 := Imp.go t45 (by omega))); (try (have i_t46 := Imp.go t46 (by omega))); omega))) (show y4.toInt ≤ y4.toInt from by first | omega | ((try (have i_t46 := Imp.go t46 (by omega))); (try (have i_t45 := Imp.go t45 (by omega))); (try (have i_t32 := Imp.go t32 (by omega))); (try (have i_t31 := Imp.go t31 (by omega))); first | omega | ((try (have i_t31 := Imp.go t31 (by omega))); (try (have i_t32 := Imp.go t32 (by omega))); (try (have i_t45 := Imp.go t45 (by omega))); (try (have i_t46 := Imp.go t46 (by omega))); omega))) (show y4.toInt ≤ (V27 0 3).toInt from by first | omega | ((try (have i_t46 := Imp.go t46 (by omega))); (try (have i_t45 := Imp.go t45 (by omega))); (try (have i_t32 := Imp.go t32 (by omega))); (try (have i_t31 := Imp.go t31 (by omega))); first | omega | ((try (have i_t31 := Imp.go t31 (by omega))); (try (have i_t32 := Imp.go t32 (by omega))); (try (have i_t45 := Imp.go t45 (by omega))); (try (have i_t46 := Imp.go t46 (by omega))); omega))) (show y4.toInt < y4.toInt ∨ (V27 1 (Int32.toNatClampNeg y4)).toInt = ((V 1 (Int32.toNatClampNeg y4))).toInt from by first | omega | ((try (have i_t46 := Imp.go t46 (by omega))); (try (have i_t45 := Imp.go t45 (by omega))); (try (have i_t32 := Imp.go t32 (by omega))); (try (have i_t31 := Imp.go t31 (by omega))); first | omega | ((try (have i_t31 := Imp.go t31 (by omega))); (try (have i_t32 := Imp.go t32 (by omega))); (try (have i_t45 := Imp.go t45 (by omega))); (try (have i_t46 := Imp.go t46 (by omega))); omega))) (by first | omega | ((try (have i_t46 := Imp.go t46 (by omega))); (try (have i_t45 := Imp.go t45 (by omega))); (try (have i_t32 := Imp.go t32 (by omega))); (try (have i_t31 := Imp.go t31 (by omega))); first | omega | ((try (have i_t31 := Imp.go t31 (by omega))); (try (have i_t32 := Imp.go t32 (by omega))); (try (have i_t45 := Imp.go t45 (by omega))); (try (have i_t46 := Imp.go t46 (by omega))); omega))) hP hD hS (lv_sub hl [0, 1, 2, 3, 4, 5] rfl)
            · skip
              have f105 : z28.toInt ≠ 0 := b_neq rfl (by decide) c40
              have lp108 : ∀ (fulp108 : Nat) (y106 : Int64) (y107 : Int32) (H : Heap) (locs : List Loc) (ls : Array Slot), 0 ≤ y107.toInt ∧ y107.toInt ≤ 4000 → y4.toInt ≤ y107.toInt → y107.toInt ≤ (V27 0 3).toInt → y4.toInt < y107.toInt ∨ (V27 1 (Int32.toNatClampNeg y107)).toInt = ((V 1 (Int32.toNatClampNeg y4))).toInt → (V27 0 3).toInt - y107.toInt < (fulp108 : Int) → va_P D vwCl (mw ad kk ks.1 V27 L7) H → va_D A (mw ad kk ks.1 V27 L7) → va_S A s.heap H locs → lv_has ls 7 [(5, .long y106), (4, .int y4), (3, .int (V 1 (Int32.toNatClampNeg y4))), (2, .int y107), (1, .int y5), (0, .ref (ad 0))] → W p l e r_s_cutAll s m ([.ref (ad 0)] : List Value).toArray below meth c H locs 0 0 (MQ below (q_s_cutAll D ks ad kk V L  A) ([.ref (ad 0)] : List Value).toArray s 0 0 A) (F0 m 70 ls []) := by
                intro fulp108
                induction fulp108 with
                | zero =>
                  intro y106 y107 H locs ls klp108_0 xlp108_0 xlp108_1 xlp108_2 hn  hP hD hS hl
                  exfalso; omega
                | succ fulp108 ihlp108 =>
                  intro y106 y107 H locs ls klp108_0 xlp108_0 xlp108_1 xlp108_2 hn  hP hD hS hl
                  have pq109 : (V27 0 3).toInt = ((V 0 2)).toInt := congrArg Int32.toInt ((up2_o hV27 (by decide)).trans ((ajV6 0 3 rfl).trans ((up2_k hV3 (by decide)).trans (up2_s hV2))))
                  have pq110 : (V27 1 (Int32.toNatClampNeg y107)).toInt = ((V 1 (Int32.toNatClampNeg y107))).toInt := congrArg Int32.toInt ((up2_o hV27 (by decide)).trans ((ajV6 1 (Int32.toNatClampNeg y107) rfl).trans ((up2_o hV3 (by decide)).trans (up2_o hV2 (by decide)))))
                  refine lv_iload_n hx hb dX12_cutAll_70 rfl (lv_at hl 3 rfl) ?_
                  refine lv_aload_n hx hb dX12_cutAll_71 rfl (lv_at hl 5 rfl) ?_
                  refine va_get (D := D) (ci := 12) (v := .int (V27 0 3)) (C := RX12) (T := TX12) (N := 100) hx hb hg inX12 hown hK hP 0 rfl rfl 3 (by decide) (hg _ w1709) (fun _ h9 => h9) rfl dX12_cutAll_72 ?_
                  refine g_top (v := (V 0 2)) ((up2_o hV27 (by decide)).trans ((ajV6 0 3 rfl).trans ((up2_k hV3 (by decide)).trans (up2_s hV2)))) ?_
                  have J111 : ∀ (H : Heap) (locs : List Loc) (ls : Array Slot), y4.toInt + 1 ≤ y107.toInt → va_P D vwCl (mw ad kk ks.1 V27 L7) H → va_D A (mw ad kk ks.1 V27 L7) → va_S A s.heap H locs → lv_has ls 7 [(5, .long y106), (4, .int y4), (3, .int (V 1 (Int32.toNatClampNeg y4))), (2, .int y107), (1, .int y5), (0, .ref (ad 0))] → W p l e r_s_cutAll s m ([.ref (ad 0)] : List Value).toArray below meth c H locs 0 0 (MQ below (q_s_cutAll D ks ad kk V L  A) ([.ref (ad 0)] : List Value).toArray s 0 0 A) (F0 m 141 ls []) := by
                    intro H locs ls xJ111_0 hP hD hS hl
                    refine lv_aload_n hx hb dX12_cutAll_141 rfl (lv_at hl 5 rfl) ?_
                    refine va_get (D := D) (ci := 12) (v := .ref (ad 4)) (C := RX12) (T := TX12) (N := 100) hx hb hg inX12 hown hK hP 0 rfl rfl 4 (by decide) (hg _ w1710) (fun _ h9 => h9) rfl dX12_cutAll_142 ?_
                    refine lv_iload_n hx hb dX12_cutAll_145 rfl (lv_at hl 4 rfl) ?_
                    refine lv_iload_n hx hb dX12_cutAll_146 rfl (lv_at hl 3 rfl) ?_
                    refine lv_iload hx hb dX12_cutAll_147 (lv_at hl 1 rfl) ?_
                    refine lv_isub hx hb dX12_cutAll_149 ?_
                    refine lv_topi (fun z112 ez112 => ?_)
                    have hz112 : z112.toInt = y107.toInt - y4.toInt := i_sub ez112 rfl rfl (by omega)
                    refine lv_bipush (v := 12) hx hb dX12_cutAll_150 (by decide) ?_
                    have J113 : ∀ (y114 : Int32) (H : Heap) (locs : List Loc) (ls : Array Slot), 1 ≤ y114.toInt ∧ y114.toInt ≤ 4 → va_P D vwCl (mw ad kk ks.1 V27 L7) H → va_D A (mw ad kk ks.1 V27 L7) → va_S A s.heap H locs → lv_has ls 7 [(5, .long y106), (4, .int y4), (3, .int (V 1 (Int32.toNatClampNeg y4))), (2, .int y107), (1, .int y5), (0, .ref (ad 0))] → W p l e r_s_cutAll s m ([.ref (ad 0)] : List Value).toArray below meth c H locs 0 0 (MQ below (q_s_cutAll D ks ad kk V L  A) ([.ref (ad 0)] : List Value).toArray s 0 0 A) (F0 m 160 ls [.int y114, .int y5, .ref (ad 4)]) := by
                      intro y114 H locs ls kJ113_0 hP hD hS hl
                      refine va_iast (D := D) (i := y5) (x := y114) hx hb hK hP hD hS 2 1 rfl rfl (i_in (a := y5.toInt) rfl (by first | omega | ((try (have i_t32 := Imp.go t32 (by omega))); (try (have i_t31 := Imp.go t31 (by omega))); (try (have i_t31 := Imp.go t31 (by omega))); (try (have i_t32 := Imp.go t32 (by omega))); omega))) dX12_cutAll_160 (fun H locs hP hD hS => ?_)
                      obtain ⟨V115, hV115⟩ : ∃ z, z = up2 V27 4 (Int32.toNatClampNeg y5) y114 := ⟨_, rfl⟩
                      have hP : va_P D vwCl (mw ad kk ks.1 V115 L7) H := by rw [hV115]; exact hP
                      have hD : va_D A (mw ad kk ks.1 V115 L7) := by rw [hV115]; exact hD
                      have hMV115 : rgd bM V115 := hMV27.put hV115 (i_full _)
                      have agV115 : agr [(0, 2), (0, 3), (0, 7), (0, 8)] [4, 5, 6] V V115 := agV27.up hV115 rfl
                      refine lv_goto (tgt := 279) hx hb dX12_cutAll_161 (by decide) ?_
                      have pq116 : (V115 0 3).toInt = ((V 0 2)).toInt := congrArg Int32.toInt ((up2_o hV115 (by decide)).trans ((up2_o hV27 (by decide)).trans ((ajV6 0 3 rfl).trans ((up2_k hV3 (by decide)).trans (up2_s hV2)))))
                      exact J33 y106 y107 V115 H locs ls (by first | omega | ((try (have i_t32 := Imp.go t32 (by omega))); (try (have i_t31 := Imp.go t31 (by omega))); (try (have i_t31 := Imp.go t31 (by omega))); (try (have i_t32 := Imp.go t32 (by omega))); omega)) (agr.up agr.rf hV115 rfl) hMV115 (show y4.toInt + 1 ≤ y107.toInt from by first | omega | ((try (have i_t32 := Imp.go t32 (by omega))); (try (have i_t31 := Imp.go t31 (by omega))); (try (have i_t31 := Imp.go t31 (by omega))); (try (have i_t32 := Imp.go t32 (by omega))); omega)) (show y107.toInt ≤ (V115 0 3).toInt from by first | omega | ((try (have i_t32 := Imp.go t32 (by omega))); (try (have i_t31 := Imp.go t31 (by omega))); (try (have i_t31 := Imp.go t31 (by omega))); (try (have i_t32 := Imp.go t32 (by omega))); omega)) hP hD hS (lv_sub hl [0, 1, 2, 3, 4, 5] rfl)
                    refine lv_icmp_le (tgt := 159) hx hb dX12_cutAll_152 (by decide) (fun c117 => ?_) (fun c117 => ?_)
                    · skip
                      have f118 : z112.toInt ≤ 12 := b_le rfl (by decide) c117
                      refine lv_iconst (v := 1) hx hb dX12_cutAll_159 (by decide) ?_
                      have r119 : Int32.toInt 1 = 1 := by decide
                      exact J113 1 H locs ls (by decide) hP hD hS (lv_sub hl [0, 1, 2, 3, 4, 5] rfl)
                    · skip
                      have f120 : 12 < z112.toInt := b_nle rfl (by decide) c117
                      refine lv_iconst (v := 4) hx hb dX12_cutAll_155 (by decide) ?_
                      refine lv_goto (tgt := 160) hx hb dX12_cutAll_156 (by decide) ?_
                      have r121 : Int32.toInt 4 = 4 := by decide
                      exact J113 4 H locs ls (by decide) hP hD hS (lv_sub hl [0, 1, 2, 3, 4, 5] rfl)
                  refine lv_icmp_ge (tgt := 141) hx hb dX12_cutAll_75 (by decide) (fun c122 => ?_) (fun c122 => ?_)
                  · skip
                    have f123 : ((V 0 2)).toInt ≤ y107.toInt := b_le rfl rfl c122
                    exact J111  H locs ls (show y4.toInt + 1 ≤ y107.toInt from by first | omega | ((try (have i_t32 := Imp.go t32 (by omega))); (try (have i_t31 := Imp.go t31 (by omega))); (try (have i_t31 := Imp.go t31 (by omega))); (try (have i_t32 := Imp.go t32 (by omega))); omega)) hP hD hS (lv_sub hl [0, 1, 2, 3, 4, 5] rfl)
                  · skip
                    have f124 : y107.toInt < ((V 0 2)).toInt := b_nle rfl rfl c122
                    refine lv_aload_n hx hb dX12_cutAll_78 rfl (lv_at hl 5 rfl) ?_
                    refine va_get (D := D) (ci := 12) (v := .ref (ad 1)) (C := RX12) (T := TX12) (N := 100) hx hb hg inX12 hown hK hP 0 rfl rfl 1 (by decide) (hg _ w1707) (fun _ h9 => h9) rfl dX12_cutAll_79 ?_
                    refine lv_iload_n hx hb dX12_cutAll_82 rfl (lv_at hl 3 rfl) ?_
                    refine va_iald (D := D) (i := y107) hx hb hK hP 1 0 rfl rfl (i_in (a := y107.toInt) rfl (by first | omega | ((try (have i_t32 := Imp.go t32 (by omega))); (try (have i_t31 := Imp.go t31 (by omega))); (try (have i_t31 := Imp.go t31 (by omega))); (try (have i_t32 := Imp.go t32 (by omega))); omega))) dX12_cutAll_83 ?_
                    refine g_top (v := (V 1 (Int32.toNatClampNeg y107))) ((up2_o hV27 (by decide)).trans ((ajV6 1 (Int32.toNatClampNeg y107) rfl).trans ((up2_o hV3 (by decide)).trans (up2_o hV2 (by decide))))) ?_
                    refine gE_int (g_runS (As := [.int (V 1 (Int32.toNatClampNeg y107))]) (rest := []) (wc := []) (tc := []) hx hb hml hown hg gw_self hP hD hK hS hA hnw hgk [] [] (by decide) rfl rfl (s_isLetter l D ks H.size (V 1 (Int32.toNatClampNeg y107)) ) w1703 w1704 w172 w1705 hdS_yX12_isLetter ⟨Nat.le_of_ble_eq_true rfl, Nat.le_of_ble_eq_true rfl⟩ rfl hl.1 rfl (Nat.le_of_ble_eq_true rfl) dX12_cutAll_84 ⟨Nat.le_of_ble_eq_true rfl, Nat.le_of_ble_eq_true rfl⟩) hP hD hK hS hA (fun z125 u126 H locs w127 hP hD hK hS => ?_)
                    obtain ⟨rgz125, t128, t129⟩ := w127
                    replace rgz125 : 0 ≤ z125.toInt ∧ z125.toInt ≤ 1 := rgz125
                    replace t128 : Imp (z125.toInt = 1) (97 ≤ ((V 1 (Int32.toNatClampNeg y107))).toInt ∧ ((V 1 (Int32.toNatClampNeg y107))).toInt ≤ 122) := t128
                    replace t129 : Imp (z125.toInt = 0) (((V 1 (Int32.toNatClampNeg y107))).toInt < 97 ∨ 122 < ((V 1 (Int32.toNatClampNeg y107))).toInt) := t129
                    refine lv_if_ne (tgt := 102) hx hb dX12_cutAll_87 (by decide) (fun c130 => ?_) (fun c130 => ?_)
                    · skip
                      have f131 : z125.toInt ≠ 0 := b_neq rfl (by decide) c130
                      refine lv_iload_n hx hb dX12_cutAll_102 rfl (lv_at hl 3 rfl) ?_
                      refine lv_iload hx hb dX12_cutAll_103 (lv_at hl 1 rfl) ?_
                      refine lv_isub hx hb dX12_cutAll_105 ?_
                      refine lv_topi (fun z132 ez132 => ?_)
                      have hz132 : z132.toInt = y107.toInt - y4.toInt := i_sub ez132 rfl rfl (by omega)
                      refine lv_bipush (v := 12) hx hb dX12_cutAll_106 (by decide) ?_
                      refine lv_icmp_ge (tgt := 131) hx hb dX12_cutAll_108 (by decide) (fun c133 => ?_) (fun c133 => ?_)
                      · skip
                        have f134 : 12 ≤ z132.toInt := b_le (by decide) rfl c133
                        refine lv_lload hx hb dX12_cutAll_131 (lv_at hl 0 rfl) ?_
                        refine lv_lstore (lv' := [(5, .long y106), (4, .int y4), (3, .int (V 1 (Int32.toNatClampNeg y4))), (2, .int y107), (1, .int y5), (0, .ref (ad 0))]) hx hb dX12_cutAll_133 hl (by decide) rfl (fun ls hl => ?_)
                        obtain ⟨z135, ez135⟩ : ∃ y : Int32, y = y107 + 1 := ⟨_, rfl⟩
                        have hz135 : z135.toInt = y107.toInt + 1 := i_add ez135 rfl (by decide) (by omega)
                        refine lv_iinc (v := z135) (lv' := [(2, .int z135), (5, .long y106), (4, .int y4), (3, .int (V 1 (Int32.toNatClampNeg y4))), (1, .int y5), (0, .ref (ad 0))]) hx hb dX12_cutAll_135 hl (k := 3) rfl (by rw [ez135]; rfl) (by decide) rfl (fun ls hl => ?_)
                        refine lv_goto (tgt := 70) hx hb dX12_cutAll_138 (by decide) ?_
                        have pq136 : (V27 1 (Int32.toNatClampNeg z135)).toInt = ((V 1 (Int32.toNatClampNeg z135))).toInt := congrArg Int32.toInt ((up2_o hV27 (by decide)).trans ((ajV6 1 (Int32.toNatClampNeg z135) rfl).trans ((up2_o hV3 (by decide)).trans (up2_o hV2 (by decide)))))
                        exact ihlp108 y106 z135 H locs ls (by first | omega | ((try (have i_t129 := Imp.go t129 (by omega))); (try (have i_t128 := Imp.go t128 (by omega))); (try (have i_t32 := Imp.go t32 (by omega))); (try (have i_t31 := Imp.go t31 (by omega))); first | omega | ((try (have i_t31 := Imp.go t31 (by omega))); (try (have i_t32 := Imp.go t32 (by omega))); (try (have i_t128 := Imp.go t128 (by omega))); (try (have i_t129 := Imp.go t129 (by omega))); omega))) (show y4.toInt ≤ z135.toInt from by first | omega | ((try (have i_t129 := Imp.go t129 (by omega))); (try (have i_t128 := Imp.go t128 (by omega))); (try (have i_t32 := Imp.go t32 (by omega))); (try (have i_t31 := Imp.go t31 (by omega))); first | omega | ((try (have i_t31 := Imp.go t31 (by omega))); (try (have i_t32 := Imp.go t32 (by omega))); (try (have i_t128 := Imp.go t128 (by omega))); (try (have i_t129 := Imp.go t129 (by omega))); omega))) (show z135.toInt ≤ (V27 0 3).toInt from by first | omega | ((try (have i_t129 := Imp.go t129 (by omega))); (try (have i_t128 := Imp.go t128 (by omega))); (try (have i_t32 := Imp.go t32 (by omega))); (try (have i_t31 := Imp.go t31 (by omega))); first | omega | ((try (have i_t31 := Imp.go t31 (by omega))); (try (have i_t32 := Imp.go t32 (by omega))); (try (have i_t128 := Imp.go t128 (by omega))); (try (have i_t129 := Imp.go t129 (by omega))); omega))) (show y4.toInt < z135.toInt ∨ (V27 1 (Int32.toNatClampNeg z135)).toInt = ((V 1 (Int32.toNatClampNeg y4))).toInt from by first | omega | ((try (have i_t129 := Imp.go t129 (by omega))); (try (have i_t128 := Imp.go t128 (by omega))); (try (have i_t32 := Imp.go t32 (by omega))); (try (have i_t31 := Imp.go t31 (by omega))); first | omega | ((try (have i_t31 := Imp.go t31 (by omega))); (try (have i_t32 := Imp.go t32 (by omega))); (try (have i_t128 := Imp.go t128 (by omega))); (try (have i_t129 := Imp.go t129 (by omega))); omega))) (by first | omega | ((try (have i_t129 := Imp.go t129 (by omega))); (try (have i_t128 := Imp.go t128 (by omega))); (try (have i_t32 := Imp.go t32 (by omega))); (try (have i_t31 := Imp.go t31 (by omega))); first | omega | ((try (have i_t31 := Imp.go t31 (by omega))); (try (have i_t32 := Imp.go t32 (by omega))); (try (have i_t128 := Imp.go t128 (by omega))); (try (have i_t129 := Imp.go t129 (by omega))); omega))) hP hD hS (lv_sub hl [1, 2, 3, 0, 4, 5] rfl)
                      · skip
                        have f137 : z132.toInt < 12 := b_nle (by decide) rfl c133
                        refine lv_ldc2 (v := 37) hx hb hown (hg _ w1699) dX12_cutAll_111 ?_
                        refine lv_lload hx hb dX12_cutAll_114 (lv_at hl 0 rfl) ?_
                        refine lv_lmul hx hb dX12_cutAll_116 ?_
                        refine lv_topl (fun w138 ew138 => ?_)
                        refine lv_aload_n hx hb dX12_cutAll_117 rfl (lv_at hl 5 rfl) ?_
                        refine va_get (D := D) (ci := 12) (v := .ref (ad 1)) (C := RX12) (T := TX12) (N := 100) hx hb hg inX12 hown hK hP 0 rfl rfl 1 (by decide) (hg _ w1707) (fun _ h9 => h9) rfl dX12_cutAll_118 ?_
                        refine lv_iload_n hx hb dX12_cutAll_121 rfl (lv_at hl 3 rfl) ?_
                        refine va_iald (D := D) (i := y107) hx hb hK hP 1 0 rfl rfl (i_in (a := y107.toInt) rfl (by first | omega | ((try (have i_t129 := Imp.go t129 (by omega))); (try (have i_t128 := Imp.go t128 (by omega))); (try (have i_t32 := Imp.go t32 (by omega))); (try (have i_t31 := Imp.go t31 (by omega))); first | omega | ((try (have i_t31 := Imp.go t31 (by omega))); (try (have i_t32 := Imp.go t32 (by omega))); (try (have i_t128 := Imp.go t128 (by omega))); (try (have i_t129 := Imp.go t129 (by omega))); omega)))) dX12_cutAll_122 ?_
                        refine g_top (v := (V 1 (Int32.toNatClampNeg y107))) ((up2_o hV27 (by decide)).trans ((ajV6 1 (Int32.toNatClampNeg y107) rfl).trans ((up2_o hV3 (by decide)).trans (up2_o hV2 (by decide))))) ?_
                        refine gE_int (g_runS (As := [.int (V 1 (Int32.toNatClampNeg y107))]) (rest := [.long w138]) (wc := []) (tc := []) hx hb hml hown hg gw_self hP hD hK hS hA hnw hgk [] [] (by decide) rfl rfl (s_rank l D ks H.size (V 1 (Int32.toNatClampNeg y107)) ) w1700 w1701 w172 w1702 hdS_yX12_rank ⟨Nat.le_of_ble_eq_true rfl, Nat.le_of_ble_eq_true rfl⟩ rfl hl.1 rfl (Nat.le_of_ble_eq_true rfl) dX12_cutAll_123 ⟨Nat.le_of_ble_eq_true rfl, Nat.le_of_ble_eq_true rfl⟩) hP hD hK hS hA (fun z139 u140 H locs w141 hP hD hK hS => ?_)
                        refine lv_i2l hx hb dX12_cutAll_126 rfl ?_
                        refine lv_topl (fun w142 ew142 => ?_)
                        refine lv_ladd hx hb dX12_cutAll_127 ?_
                        refine lv_topl (fun w143 ew143 => ?_)
                        refine lv_goto (tgt := 133) hx hb dX12_cutAll_128 (by decide) ?_
                        refine lv_lstore (lv' := [(5, .long w143), (4, .int y4), (3, .int (V 1 (Int32.toNatClampNeg y4))), (2, .int y107), (1, .int y5), (0, .ref (ad 0))]) hx hb dX12_cutAll_133 hl (by decide) rfl (fun ls hl => ?_)
                        obtain ⟨z144, ez144⟩ : ∃ y : Int32, y = y107 + 1 := ⟨_, rfl⟩
                        have hz144 : z144.toInt = y107.toInt + 1 := i_add ez144 rfl (by decide) (by omega)
                        refine lv_iinc (v := z144) (lv' := [(2, .int z144), (5, .long w143), (4, .int y4), (3, .int (V 1 (Int32.toNatClampNeg y4))), (1, .int y5), (0, .ref (ad 0))]) hx hb dX12_cutAll_135 hl (k := 3) rfl (by rw [ez144]; rfl) (by decide) rfl (fun ls hl => ?_)
                        refine lv_goto (tgt := 70) hx hb dX12_cutAll_138 (by decide) ?_
                        have pq145 : (V27 1 (Int32.toNatClampNeg z144)).toInt = ((V 1 (Int32.toNatClampNeg z144))).toInt := congrArg Int32.toInt ((up2_o hV27 (by decide)).trans ((ajV6 1 (Int32.toNatClampNeg z144) rfl).trans ((up2_o hV3 (by decide)).trans (up2_o hV2 (by decide)))))
                        exact ihlp108 w143 z144 H locs ls (by first | omega | ((try (have i_t129 := Imp.go t129 (by omega))); (try (have i_t128 := Imp.go t128 (by omega))); (try (have i_t32 := Imp.go t32 (by omega))); (try (have i_t31 := Imp.go t31 (by omega))); first | omega | ((try (have i_t31 := Imp.go t31 (by omega))); (try (have i_t32 := Imp.go t32 (by omega))); (try (have i_t128 := Imp.go t128 (by omega))); (try (have i_t129 := Imp.go t129 (by omega))); omega))) (show y4.toInt ≤ z144.toInt from by first | omega | ((try (have i_t129 := Imp.go t129 (by omega))); (try (have i_t128 := Imp.go t128 (by omega))); (try (have i_t32 := Imp.go t32 (by omega))); (try (have i_t31 := Imp.go t31 (by omega))); first | omega | ((try (have i_t31 := Imp.go t31 (by omega))); (try (have i_t32 := Imp.go t32 (by omega))); (try (have i_t128 := Imp.go t128 (by omega))); (try (have i_t129 := Imp.go t129 (by omega))); omega))) (show z144.toInt ≤ (V27 0 3).toInt from by first | omega | ((try (have i_t129 := Imp.go t129 (by omega))); (try (have i_t128 := Imp.go t128 (by omega))); (try (have i_t32 := Imp.go t32 (by omega))); (try (have i_t31 := Imp.go t31 (by omega))); first | omega | ((try (have i_t31 := Imp.go t31 (by omega))); (try (have i_t32 := Imp.go t32 (by omega))); (try (have i_t128 := Imp.go t128 (by omega))); (try (have i_t129 := Imp.go t129 (by omega))); omega))) (show y4.toInt < z144.toInt ∨ (V27 1 (Int32.toNatClampNeg z144)).toInt = ((V 1 (Int32.toNatClampNeg y4))).toInt from by first | omega | ((try (have i_t129 := Imp.go t129 (by omega))); (try (have i_t128 := Imp.go t128 (by omega))); (try (have i_t32 := Imp.go t32 (by omega))); (try (have i_t31 := Imp.go t31 (by omega))); first | omega | ((try (have i_t31 := Imp.go t31 (by omega))); (try (have i_t32 := Imp.go t32 (by omega))); (try (have i_t128 := Imp.go t128 (by omega))); (try (have i_t129 := Imp.go t129 (by omega))); omega))) (by first | omega | ((try (have i_t129 := Imp.go t129 (by omega))); (try (have i_t128 := Imp.go t128 (by omega))); (try (have i_t32 := Imp.go t32 (by omega))); (try (have i_t31 := Imp.go t31 (by omega))); first | omega | ((try (have i_t31 := Imp.go t31 (by omega))); (try (have i_t32 := Imp.go t32 (by omega))); (try (have i_t128 := Imp.go t128 (by omega))); (try (have i_t129 := Imp.go t129 (by omega))); omega))) hP hD hS (lv_sub hl [1, 2, 3, 0, 4, 5] rfl)
                    · skip
                      have f146 : z125.toInt = 0 := b_eq rfl (by decide) c130
                      refine lv_aload_n hx hb dX12_cutAll_90 rfl (lv_at hl 5 rfl) ?_
                      refine va_get (D := D) (ci := 12) (v := .ref (ad 1)) (C := RX12) (T := TX12) (N := 100) hx hb hg inX12 hown hK hP 0 rfl rfl 1 (by decide) (hg _ w1707) (fun _ h9 => h9) rfl dX12_cutAll_91 ?_
                      refine lv_iload_n hx hb dX12_cutAll_94 rfl (lv_at hl 3 rfl) ?_
                      refine va_iald (D := D) (i := y107) hx hb hK hP 1 0 rfl rfl (i_in (a := y107.toInt) rfl (by first | omega | ((try (have i_t129 := Imp.go t129 (by omega))); (try (have i_t128 := Imp.go t128 (by omega))); (try (have i_t32 := Imp.go t32 (by omega))); (try (have i_t31 := Imp.go t31 (by omega))); first | omega | ((try (have i_t31 := Imp.go t31 (by omega))); (try (have i_t32 := Imp.go t32 (by omega))); (try (have i_t128 := Imp.go t128 (by omega))); (try (have i_t129 := Imp.go t129 (by omega))); omega)))) dX12_cutAll_95 ?_
                      refine g_top (v := (V 1 (Int32.toNatClampNeg y107))) ((up2_o hV27 (by decide)).trans ((ajV6 1 (Int32.toNatClampNeg y107) rfl).trans ((up2_o hV3 (by decide)).trans (up2_o hV2 (by decide))))) ?_
                      refine gE_int (g_runS (As := [.int (V 1 (Int32.toNatClampNeg y107))]) (rest := []) (wc := []) (tc := []) hx hb hml hown hg gw_self hP hD hK hS hA hnw hgk [] [] (by decide) rfl rfl (s_isDigit l D ks H.size (V 1 (Int32.toNatClampNeg y107)) ) w2015 w2016 w172 w2017 hdS_yX12_isDigit ⟨Nat.le_of_ble_eq_true rfl, Nat.le_of_ble_eq_true rfl⟩ rfl hl.1 rfl (Nat.le_of_ble_eq_true rfl) dX12_cutAll_96 ⟨Nat.le_of_ble_eq_true rfl, Nat.le_of_ble_eq_true rfl⟩) hP hD hK hS hA (fun z147 u148 H locs w149 hP hD hK hS => ?_)
                      obtain ⟨rgz147, t150, t151⟩ := w149
                      replace rgz147 : 0 ≤ z147.toInt ∧ z147.toInt ≤ 1 := rgz147
                      replace t150 : Imp (z147.toInt = 1) (48 ≤ ((V 1 (Int32.toNatClampNeg y107))).toInt ∧ ((V 1 (Int32.toNatClampNeg y107))).toInt ≤ 57) := t150
                      replace t151 : Imp (z147.toInt = 0) (((V 1 (Int32.toNatClampNeg y107))).toInt < 48 ∨ 57 < ((V 1 (Int32.toNatClampNeg y107))).toInt) := t151
                      refine lv_if_eq (tgt := 141) hx hb dX12_cutAll_99 (by decide) (fun c152 => ?_) (fun c152 => ?_)
                      · skip
                        have f153 : z147.toInt = 0 := b_eq rfl (by decide) c152
                        exact J111  H locs ls (show y4.toInt + 1 ≤ y107.toInt from by first | omega | ((try (have i_t151 := Imp.go t151 (by omega))); (try (have i_t150 := Imp.go t150 (by omega))); (try (have i_t129 := Imp.go t129 (by omega))); (try (have i_t128 := Imp.go t128 (by omega))); first | omega | ((try (have i_t32 := Imp.go t32 (by omega))); (try (have i_t31 := Imp.go t31 (by omega))); (try (have i_t31 := Imp.go t31 (by omega))); (try (have i_t32 := Imp.go t32 (by omega))); first | omega | ((try (have i_t128 := Imp.go t128 (by omega))); (try (have i_t129 := Imp.go t129 (by omega))); (try (have i_t150 := Imp.go t150 (by omega))); (try (have i_t151 := Imp.go t151 (by omega))); omega)))) hP hD hS (lv_sub hl [0, 1, 2, 3, 4, 5] rfl)
                      · skip
                        have f154 : z147.toInt ≠ 0 := b_neq rfl (by decide) c152
                        refine lv_iload_n hx hb dX12_cutAll_102 rfl (lv_at hl 3 rfl) ?_
                        refine lv_iload hx hb dX12_cutAll_103 (lv_at hl 1 rfl) ?_
                        refine lv_isub hx hb dX12_cutAll_105 ?_
                        refine lv_topi (fun z155 ez155 => ?_)
                        have hz155 : z155.toInt = y107.toInt - y4.toInt := i_sub ez155 rfl rfl (by omega)
                        refine lv_bipush (v := 12) hx hb dX12_cutAll_106 (by decide) ?_
                        refine lv_icmp_ge (tgt := 131) hx hb dX12_cutAll_108 (by decide) (fun c156 => ?_) (fun c156 => ?_)
                        · skip
                          have f157 : 12 ≤ z155.toInt := b_le (by decide) rfl c156
                          refine lv_lload hx hb dX12_cutAll_131 (lv_at hl 0 rfl) ?_
                          refine lv_lstore (lv' := [(5, .long y106), (4, .int y4), (3, .int (V 1 (Int32.toNatClampNeg y4))), (2, .int y107), (1, .int y5), (0, .ref (ad 0))]) hx hb dX12_cutAll_133 hl (by decide) rfl (fun ls hl => ?_)
                          obtain ⟨z158, ez158⟩ : ∃ y : Int32, y = y107 + 1 := ⟨_, rfl⟩
                          have hz158 : z158.toInt = y107.toInt + 1 := i_add ez158 rfl (by decide) (by omega)
                          refine lv_iinc (v := z158) (lv' := [(2, .int z158), (5, .long y106), (4, .int y4), (3, .int (V 1 (Int32.toNatClampNeg y4))), (1, .int y5), (0, .ref (ad 0))]) hx hb dX12_cutAll_135 hl (k := 3) rfl (by rw [ez158]; rfl) (by decide) rfl (fun ls hl => ?_)
                          refine lv_goto (tgt := 70) hx hb dX12_cutAll_138 (by decide) ?_
                          have pq159 : (V27 1 (Int32.toNatClampNeg z158)).toInt = ((V 1 (Int32.toNatClampNeg z158))).toInt := congrArg Int32.toInt ((up2_o hV27 (by decide)).trans ((ajV6 1 (Int32.toNatClampNeg z158) rfl).trans ((up2_o hV3 (by decide)).trans (up2_o hV2 (by decide)))))
                          exact ihlp108 y106 z158 H locs ls (by first | omega | ((try (have i_t151 := Imp.go t151 (by omega))); (try (have i_t150 := Imp.go t150 (by omega))); (try (have i_t129 := Imp.go t129 (by omega))); (try (have i_t128 := Imp.go t128 (by omega))); first | omega | ((try (have i_t32 := Imp.go t32 (by omega))); (try (have i_t31 := Imp.go t31 (by omega))); (try (have i_t31 := Imp.go t31 (by omega))); (try (have i_t32 := Imp.go t32 (by omega))); first | omega | ((try (have i_t128 := Imp.go t128 (by omega))); (try (have i_t129 := Imp.go t129 (by omega))); (try (have i_t150 := Imp.go t150 (by omega))); (try (have i_t151 := Imp.go t151 (by omega))); omega)))) (show y4.toInt ≤ z158.toInt from by first | omega | ((try (have i_t151 := Imp.go t151 (by omega))); (try (have i_t150 := Imp.go t150 (by omega))); (try (have i_t129 := Imp.go t129 (by omega))); (try (have i_t128 := Imp.go t128 (by omega))); first | omega | ((try (have i_t32 := Imp.go t32 (by omega))); (try (have i_t31 := Imp.go t31 (by omega))); (try (have i_t31 := Imp.go t31 (by omega))); (try (have i_t32 := Imp.go t32 (by omega))); first | omega | ((try (have i_t128 := Imp.go t128 (by omega))); (try (have i_t129 := Imp.go t129 (by omega))); (try (have i_t150 := Imp.go t150 (by omega))); (try (have i_t151 := Imp.go t151 (by omega))); omega)))) (show z158.toInt ≤ (V27 0 3).toInt from by first | omega | ((try (have i_t151 := Imp.go t151 (by omega))); (try (have i_t150 := Imp.go t150 (by omega))); (try (have i_t129 := Imp.go t129 (by omega))); (try (have i_t128 := Imp.go t128 (by omega))); first | omega | ((try (have i_t32 := Imp.go t32 (by omega))); (try (have i_t31 := Imp.go t31 (by omega))); (try (have i_t31 := Imp.go t31 (by omega))); (try (have i_t32 := Imp.go t32 (by omega))); first | omega | ((try (have i_t128 := Imp.go t128 (by omega))); (try (have i_t129 := Imp.go t129 (by omega))); (try (have i_t150 := Imp.go t150 (by omega))); (try (have i_t151 := Imp.go t151 (by omega))); omega)))) (show y4.toInt < z158.toInt ∨ (V27 1 (Int32.toNatClampNeg z158)).toInt = ((V 1 (Int32.toNatClampNeg y4))).toInt from by first | omega | ((try (have i_t151 := Imp.go t151 (by omega))); (try (have i_t150 := Imp.go t150 (by omega))); (try (have i_t129 := Imp.go t129 (by omega))); (try (have i_t128 := Imp.go t128 (by omega))); first | omega | ((try (have i_t32 := Imp.go t32 (by omega))); (try (have i_t31 := Imp.go t31 (by omega))); (try (have i_t31 := Imp.go t31 (by omega))); (try (have i_t32 := Imp.go t32 (by omega))); first | omega | ((try (have i_t128 := Imp.go t128 (by omega))); (try (have i_t129 := Imp.go t129 (by omega))); (try (have i_t150 := Imp.go t150 (by omega))); (try (have i_t151 := Imp.go t151 (by omega))); omega)))) (by first | omega | ((try (have i_t151 := Imp.go t151 (by omega))); (try (have i_t150 := Imp.go t150 (by omega))); (try (have i_t129 := Imp.go t129 (by omega))); (try (have i_t128 := Imp.go t128 (by omega))); first | omega | ((try (have i_t32 := Imp.go t32 (by omega))); (try (have i_t31 := Imp.go t31 (by omega))); (try (have i_t31 := Imp.go t31 (by omega))); (try (have i_t32 := Imp.go t32 (by omega))); first | omega | ((try (have i_t128 := Imp.go t128 (by omega))); (try (have i_t129 := Imp.go t129 (by omega))); (try (have i_t150 := Imp.go t150 (by omega))); (try (have i_t151 := Imp.go t151 (by omega))); omega)))) hP hD hS (lv_sub hl [1, 2, 3, 0, 4, 5] rfl)
                        · skip
                          have f160 : z155.toInt < 12 := b_nle (by decide) rfl c156
                          refine lv_ldc2 (v := 37) hx hb hown (hg _ w1699) dX12_cutAll_111 ?_
                          refine lv_lload hx hb dX12_cutAll_114 (lv_at hl 0 rfl) ?_
                          refine lv_lmul hx hb dX12_cutAll_116 ?_
                          refine lv_topl (fun w161 ew161 => ?_)
                          refine lv_aload_n hx hb dX12_cutAll_117 rfl (lv_at hl 5 rfl) ?_
                          refine va_get (D := D) (ci := 12) (v := .ref (ad 1)) (C := RX12) (T := TX12) (N := 100) hx hb hg inX12 hown hK hP 0 rfl rfl 1 (by decide) (hg _ w1707) (fun _ h9 => h9) rfl dX12_cutAll_118 ?_
                          refine lv_iload_n hx hb dX12_cutAll_121 rfl (lv_at hl 3 rfl) ?_
                          refine va_iald (D := D) (i := y107) hx hb hK hP 1 0 rfl rfl (i_in (a := y107.toInt) rfl (by first | omega | ((try (have i_t151 := Imp.go t151 (by omega))); (try (have i_t150 := Imp.go t150 (by omega))); (try (have i_t129 := Imp.go t129 (by omega))); (try (have i_t128 := Imp.go t128 (by omega))); first | omega | ((try (have i_t32 := Imp.go t32 (by omega))); (try (have i_t31 := Imp.go t31 (by omega))); (try (have i_t31 := Imp.go t31 (by omega))); (try (have i_t32 := Imp.go t32 (by omega))); first | omega | ((try (have i_t128 := Imp.go t128 (by omega))); (try (have i_t129 := Imp.go t129 (by omega))); (try (have i_t150 := Imp.go t150 (by omega))); (try (have i_t151 := Imp.go t151 (by omega))); omega))))) dX12_cutAll_122 ?_
                          refine g_top (v := (V 1 (Int32.toNatClampNeg y107))) ((up2_o hV27 (by decide)).trans ((ajV6 1 (Int32.toNatClampNeg y107) rfl).trans ((up2_o hV3 (by decide)).trans (up2_o hV2 (by decide))))) ?_
                          refine gE_int (g_runS (As := [.int (V 1 (Int32.toNatClampNeg y107))]) (rest := [.long w161]) (wc := []) (tc := []) hx hb hml hown hg gw_self hP hD hK hS hA hnw hgk [] [] (by decide) rfl rfl (s_rank l D ks H.size (V 1 (Int32.toNatClampNeg y107)) ) w1700 w1701 w172 w1702 hdS_yX12_rank ⟨Nat.le_of_ble_eq_true rfl, Nat.le_of_ble_eq_true rfl⟩ rfl hl.1 rfl (Nat.le_of_ble_eq_true rfl) dX12_cutAll_123 ⟨Nat.le_of_ble_eq_true rfl, Nat.le_of_ble_eq_true rfl⟩) hP hD hK hS hA (fun z162 u163 H locs w164 hP hD hK hS => ?_)
                          refine lv_i2l hx hb dX12_cutAll_126 rfl ?_
                          refine lv_topl (fun w165 ew165 => ?_)
                          refine lv_ladd hx hb dX12_cutAll_127 ?_
                          refine lv_topl (fun w166 ew166 => ?_)
                          refine lv_goto (tgt := 133) hx hb dX12_cutAll_128 (by decide) ?_
                          refine lv_lstore (lv' := [(5, .long w166), (4, .int y4), (3, .int (V 1 (Int32.toNatClampNeg y4))), (2, .int y107), (1, .int y5), (0, .ref (ad 0))]) hx hb dX12_cutAll_133 hl (by decide) rfl (fun ls hl => ?_)
                          obtain ⟨z167, ez167⟩ : ∃ y : Int32, y = y107 + 1 := ⟨_, rfl⟩
                          have hz167 : z167.toInt = y107.toInt + 1 := i_add ez167 rfl (by decide) (by omega)
                          refine lv_iinc (v := z167) (lv' := [(2, .int z167), (5, .long w166), (4, .int y4), (3, .int (V 1 (Int32.toNatClampNeg y4))), (1, .int y5), (0, .ref (ad 0))]) hx hb dX12_cutAll_135 hl (k := 3) rfl (by rw [ez167]; rfl) (by decide) rfl (fun ls hl => ?_)
                          refine lv_goto (tgt := 70) hx hb dX12_cutAll_138 (by decide) ?_
                          have pq168 : (V27 1 (Int32.toNatClampNeg z167)).toInt = ((V 1 (Int32.toNatClampNeg z167))).toInt := congrArg Int32.toInt ((up2_o hV27 (by decide)).trans ((ajV6 1 (Int32.toNatClampNeg z167) rfl).trans ((up2_o hV3 (by decide)).trans (up2_o hV2 (by decide)))))
                          exact ihlp108 w166 z167 H locs ls (by first | omega | ((try (have i_t151 := Imp.go t151 (by omega))); (try (have i_t150 := Imp.go t150 (by omega))); (try (have i_t129 := Imp.go t129 (by omega))); (try (have i_t128 := Imp.go t128 (by omega))); first | omega | ((try (have i_t32 := Imp.go t32 (by omega))); (try (have i_t31 := Imp.go t31 (by omega))); (try (have i_t31 := Imp.go t31 (by omega))); (try (have i_t32 := Imp.go t32 (by omega))); first | omega | ((try (have i_t128 := Imp.go t128 (by omega))); (try (have i_t129 := Imp.go t129 (by omega))); (try (have i_t150 := Imp.go t150 (by omega))); (try (have i_t151 := Imp.go t151 (by omega))); omega)))) (show y4.toInt ≤ z167.toInt from by first | omega | ((try (have i_t151 := Imp.go t151 (by omega))); (try (have i_t150 := Imp.go t150 (by omega))); (try (have i_t129 := Imp.go t129 (by omega))); (try (have i_t128 := Imp.go t128 (by omega))); first | omega | ((try (have i_t32 := Imp.go t32 (by omega))); (try (have i_t31 := Imp.go t31 (by omega))); (try (have i_t31 := Imp.go t31 (by omega))); (try (have i_t32 := Imp.go t32 (by omega))); first | omega | ((try (have i_t128 := Imp.go t128 (by omega))); (try (have i_t129 := Imp.go t129 (by omega))); (try (have i_t150 := Imp.go t150 (by omega))); (try (have i_t151 := Imp.go t151 (by omega))); omega)))) (show z167.toInt ≤ (V27 0 3).toInt from by first | omega | ((try (have i_t151 := Imp.go t151 (by omega))); (try (have i_t150 := Imp.go t150 (by omega))); (try (have i_t129 := Imp.go t129 (by omega))); (try (have i_t128 := Imp.go t128 (by omega))); first | omega | ((try (have i_t32 := Imp.go t32 (by omega))); (try (have i_t31 := Imp.go t31 (by omega))); (try (have i_t31 := Imp.go t31 (by omega))); (try (have i_t32 := Imp.go t32 (by omega))); first | omega | ((try (have i_t128 := Imp.go t128 (by omega))); (try (have i_t129 := Imp.go t129 (by omega))); (try (have i_t150 := Imp.go t150 (by omega))); (try (have i_t151 := Imp.go t151 (by omega))); omega)))) (show y4.toInt < z167.toInt ∨ (V27 1 (Int32.toNatClampNeg z167)).toInt = ((V 1 (Int32.toNatClampNeg y4))).toInt from by first | omega | ((try (have i_t151 := Imp.go t151 (by omega))); (try (have i_t150 := Imp.go t150 (by omega))); (try (have i_t129 := Imp.go t129 (by omega))); (try (have i_t128 := Imp.go t128 (by omega))); first | omega | ((try (have i_t32 := Imp.go t32 (by omega))); (try (have i_t31 := Imp.go t31 (by omega))); (try (have i_t31 := Imp.go t31 (by omega))); (try (have i_t32 := Imp.go t32 (by omega))); first | omega | ((try (have i_t128 := Imp.go t128 (by omega))); (try (have i_t129 := Imp.go t129 (by omega))); (try (have i_t150 := Imp.go t150 (by omega))); (try (have i_t151 := Imp.go t151 (by omega))); omega)))) (by first | omega | ((try (have i_t151 := Imp.go t151 (by omega))); (try (have i_t150 := Imp.go t150 (by omega))); (try (have i_t129 := Imp.go t129 (by omega))); (try (have i_t128 := Imp.go t128 (by omega))); first | omega | ((try (have i_t32 := Imp.go t32 (by omega))); (try (have i_t31 := Imp.go t31 (by omega))); (try (have i_t31 := Imp.go t31 (by omega))); (try (have i_t32 := Imp.go t32 (by omega))); first | omega | ((try (have i_t128 := Imp.go t128 (by omega))); (try (have i_t129 := Imp.go t129 (by omega))); (try (have i_t150 := Imp.go t150 (by omega))); (try (have i_t151 := Imp.go t151 (by omega))); omega)))) hP hD hS (lv_sub hl [1, 2, 3, 0, 4, 5] rfl)
              have pq169 : (V27 0 3).toInt = ((V 0 2)).toInt := congrArg Int32.toInt ((up2_o hV27 (by decide)).trans ((ajV6 0 3 rfl).trans ((up2_k hV3 (by decide)).trans (up2_s hV2))))
              have pq170 : (V27 1 (Int32.toNatClampNeg y4)).toInt = ((V 1 (Int32.toNatClampNeg y4))).toInt := congrArg Int32.toInt ((up2_o hV27 (by decide)).trans ((ajV6 1 (Int32.toNatClampNeg y4) rfl).trans ((up2_o hV3 (by decide)).trans (up2_o hV2 (by decide)))))
              exact lp108 (((V27 0 3).toInt - y4.toInt + 1 : Int).toNat) 0 y4 H locs ls (by first | omega | ((try (have i_t32 := Imp.go t32 (by omega))); (try (have i_t31 := Imp.go t31 (by omega))); (try (have i_t31 := Imp.go t31 (by omega))); (try (have i_t32 := Imp.go t32 (by omega))); omega)) (show y4.toInt ≤ y4.toInt from by first | omega | ((try (have i_t32 := Imp.go t32 (by omega))); (try (have i_t31 := Imp.go t31 (by omega))); (try (have i_t31 := Imp.go t31 (by omega))); (try (have i_t32 := Imp.go t32 (by omega))); omega)) (show y4.toInt ≤ (V27 0 3).toInt from by first | omega | ((try (have i_t32 := Imp.go t32 (by omega))); (try (have i_t31 := Imp.go t31 (by omega))); (try (have i_t31 := Imp.go t31 (by omega))); (try (have i_t32 := Imp.go t32 (by omega))); omega)) (show y4.toInt < y4.toInt ∨ (V27 1 (Int32.toNatClampNeg y4)).toInt = ((V 1 (Int32.toNatClampNeg y4))).toInt from by first | omega | ((try (have i_t32 := Imp.go t32 (by omega))); (try (have i_t31 := Imp.go t31 (by omega))); (try (have i_t31 := Imp.go t31 (by omega))); (try (have i_t32 := Imp.go t32 (by omega))); omega)) (by first | omega | ((try (have i_t32 := Imp.go t32 (by omega))); (try (have i_t31 := Imp.go t31 (by omega))); (try (have i_t31 := Imp.go t31 (by omega))); (try (have i_t32 := Imp.go t32 (by omega))); omega)) hP hD hS (lv_sub hl [0, 1, 2, 3, 4, 5] rfl)
          · skip
            have f171 : ((V 1 (Int32.toNatClampNeg y4))).toInt = 32 := b_eq rfl (by decide) c25
            obtain ⟨z172, ez172⟩ : ∃ y : Int32, y = y4 + 1 := ⟨_, rfl⟩
            have hz172 : z172.toInt = y4.toInt + 1 := i_add ez172 rfl (by decide) (by omega)
            refine lv_iinc (v := z172) (lv' := [(2, .int z172), (3, .int (V 1 (Int32.toNatClampNeg y4))), (1, .int y5), (0, .ref (ad 0))]) hx hb dX12_cutAll_44 hl (k := 1) rfl (by rw [ez172]; rfl) (by decide) rfl (fun ls hl => ?_)
            refine lv_goto (tgt := 17) hx hb dX12_cutAll_47 (by decide) ?_
            exact ihlp8 z172 y5 V6 L7 H locs ls (by omega) (by omega) (show y5.toInt ≤ z172.toInt from by omega) (show z172.toInt ≤ (V6 0 3).toInt from by omega) (by omega) alL7 (agr.tr agr.rf ajV6 (by decide) (by decide)) hMV6 hP hD hS (lv_sub hl [0, 2, 3] rfl)
  have r173 : Int32.toInt 0 = 0 := by decide
  have pq174 : (V3 0 3).toInt = ((V 0 2)).toInt := congrArg Int32.toInt ((up2_k hV3 (by decide)).trans (up2_s hV2))
  exact lp8 (((V3 0 3).toInt - (Int32.toInt 0) + 1 : Int).toNat) 0 0 V3 L H locs ls (by decide) (by decide) (show (Int32.toInt 0) ≤ (Int32.toInt 0) from by omega) (show (Int32.toInt 0) ≤ (V3 0 3).toInt from by omega) (by omega) alL agr.rf hMV3 hP hD hS (lv_sub hl [0, 1, 2] rfl)
