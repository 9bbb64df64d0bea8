theorem w2099 : Cond.code yX12_oneOf cX12_oneOf 4 (some .int) ∈ GW := gw_k tk9_9 24 (rfl) rfl
theorem w2096 : Cond.methodLink RX12 354 yX12_oneOf ∈ GW := gw_k tk9_9 21 (by decide +kernel) rfl
theorem w2098 : Cond.instanceMethod yX12_oneOf ∈ GW := gw_k tk9_9 23 (by decide +kernel) rfl
theorem w101 : Cond.selects RX12 yX12_oneOf yX12_oneOf ∈ GW := gw_mem 101 (by decide +kernel) rfl
theorem hdV_yX12_oneOf : yX12_oneOf.cls = RX12 ∧ yX12_oneOf.cls ≠ "java/lang/invoke/MethodHandle" ∧ yX12_oneOf.cls ≠ "java/lang/invoke/VarHandle" ∧ (parseMethodDescriptor yX12_oneOf.desc).map (fun d => d.parameters.length) = some 2 := by decide +kernel
theorem w2107 : Cond.code yX12_member cX12_member 3 none ∈ GW := gw_k tk9_9 32 (rfl) rfl
theorem w2104 : Cond.methodLink RX12 368 yX12_member ∈ GW := gw_k tk9_9 29 (by decide +kernel) rfl
theorem w2106 : Cond.instanceMethod yX12_member ∈ GW := gw_k tk9_9 31 (by decide +kernel) rfl
theorem w103 : Cond.selects RX12 yX12_member yX12_member ∈ GW := gw_mem 103 (by decide +kernel) rfl
theorem hdV_yX12_member : yX12_member.cls = RX12 ∧ yX12_member.cls ≠ "java/lang/invoke/MethodHandle" ∧ yX12_member.cls ≠ "java/lang/invoke/VarHandle" ∧ (parseMethodDescriptor yX12_member.desc).map (fun d => d.parameters.length) = some 1 := by decide +kernel
theorem dk9_dX12_toldComponent_0_0 : dOk cX12_toldComponent [(0, .bipush 24, 2), (2, .aload_n 0, 1), (3, .getfield 289, 3), (6, .imul, 1), (7, .aload_n 0, 1), (8, .getfield 62, 3), (11, .aload_n 0, 1), (12, .getfield 289, 3), (15, .iaload, 1), (16, .iadd, 1), (17, .istore_n 1, 1), (18, .aload_n 0, 1), (19, .aload_n 0, 1), (20, .getfield 62, 3), (23, .aload_n 0, 1), (24, .getfield 289, 3), (27, .iaload, 1), (28, .bipush 24, 2), (30, .if_icmp .ne 7, 3), (37, .iconst 0, 1), (38, .invokevirtual 331, 3), (41, .aload_n 0, 1), (42, .getfield 267, 3), (45, .ifCond .le 4, 3)] = true ∧ dOk cX12_toldComponent [(49, .aload_n 0, 1), (50, .invokevirtual 335, 3), (53, .lstore_n 2, 1), (54, .iconst 0, 1), (55, .istore 4, 2), (57, .iload 4, 2), (59, .bipush 24, 2), (61, .if_icmp .ge 22, 3), (64, .aload_n 0, 1), (65, .getfield 68, 3), (68, .bipush 24, 2), (70, .iload_n 1, 1), (71, .imul, 1), (72, .iload 4, 2), (74, .iadd, 1), (75, .iconst 0, 1), (76, .bastore, 1), (77, .iinc 4 1, 3), (80, .goto (-23), 3), (83, .iconst 0, 1), (84, .istore 4, 2), (86, .iload 4, 2), (88, .bipush 20, 2), (90, .if_icmp .ge 22, 3)] = true ∧ dOk cX12_toldComponent [(93, .aload_n 0, 1), (94, .getfield 107, 3), (97, .bipush 20, 2), (99, .iload_n 1, 1), (100, .imul, 1), (101, .iload 4, 2), (103, .iadd, 1), (104, .iconst (-1), 1), (105, .iastore, 1), (106, .iinc 4 1, 3), (109, .goto (-23), 3), (112, .aload_n 0, 1), (113, .iconst 4, 1), (114, .invokevirtual 351, 3), (117, .aload_n 0, 1), (118, .getfield 267, 3), (121, .ifCond .ne 12, 3), (124, .aload_n 0, 1), (125, .aload_n 0, 1), (126, .getfield 68, 3), (129, .iload_n 1, 1), (130, .invokevirtual 339, 3), (133, .aload_n 0, 1), (134, .getfield 71, 3)] = true ∧ dOk cX12_toldComponent [(137, .iload_n 1, 1), (138, .aload_n 0, 1), (139, .bipush 20, 2), (141, .iconst 4, 1), (142, .invokevirtual 354, 3), (145, .iastore, 1), (146, .aload_n 0, 1), (147, .getfield 74, 3), (150, .iload_n 1, 1), (151, .aload_n 0, 1), (152, .iconst 5, 1), (153, .invokevirtual 280, 3), (156, .ifCond .eq 18, 3), (159, .aload_n 0, 1), (160, .aload_n 0, 1), (161, .getfield 119, 3), (164, .aload_n 0, 1), (165, .getfield 116, 3), (168, .invokevirtual 357, 3), (171, .goto 4, 3), (174, .iconst (-1), 1), (175, .iastore, 1), (176, .aload_n 0, 1), (177, .getfield 77, 3)] = true ∧ dOk cX12_toldComponent [(180, .iload_n 1, 1), (181, .aload_n 0, 1), (182, .bipush 6, 2), (184, .invokevirtual 280, 3), (187, .ifCond .eq 13, 3), (190, .aload_n 0, 1), (191, .iconst 0, 1), (192, .bipush 9, 2), (194, .invokevirtual 347, 3), (197, .goto 4, 3), (200, .iconst 0, 1), (201, .iastore, 1), (202, .aload_n 0, 1), (203, .getfield 80, 3), (206, .iload_n 1, 1), (207, .iconst (-1), 1), (208, .iastore, 1), (209, .aload_n 0, 1), (210, .bipush 7, 2), (212, .invokevirtual 280, 3), (215, .ifCond .eq 47, 3), (218, .aload_n 0, 1), (219, .getfield 80, 3), (222, .iload_n 1, 1)] = true ∧ dOk cX12_toldComponent [(223, .aload_n 0, 1), (224, .aload_n 0, 1), (225, .getfield 56, 3), (228, .bipush 12, 2), (230, .aload_n 0, 1), (231, .getfield 289, 3), (234, .imul, 1), (235, .aload_n 0, 1), (236, .getfield 53, 3), (239, .aload_n 0, 1), (240, .getfield 289, 3), (243, .iaload, 1), (244, .invokevirtual 321, 3), (247, .iastore, 1), (248, .aload_n 0, 1), (249, .getfield 83, 3), (252, .iload_n 1, 1), (253, .aload_n 0, 1), (254, .iconst 0, 1), (255, .ldc_w 346, 3), (258, .invokevirtual 347, 3), (261, .iastore, 1), (262, .aload_n 0, 1), (263, .getfield 86, 3)] = true ∧ dOk cX12_toldComponent [(266, .iload_n 1, 1), (267, .iconst 0, 1), (268, .iastore, 1), (269, .aload_n 0, 1), (270, .getfield 101, 3), (273, .iload_n 1, 1), (274, .iconst (-1), 1), (275, .iastore, 1), (276, .aload_n 0, 1), (277, .getfield 104, 3), (280, .iload_n 1, 1), (281, .iconst (-1), 1), (282, .iastore, 1), (283, .aload_n 0, 1), (284, .iload_n 1, 1), (285, .putfield 361, 3), (288, .aload_n 0, 1), (289, .iconst 0, 1), (290, .putfield 364, 3), (293, .aload_n 0, 1), (294, .bipush 123, 2), (296, .invokevirtual 343, 3), (299, .aload_n 0, 1), (300, .getfield 267, 3)] = true ∧ dOk cX12_toldComponent [(303, .ifCond .ne 20, 3), (306, .aload_n 0, 1), (307, .bipush 125, 2), (309, .invokevirtual 270, 3), (312, .ifCond .ne 11, 3), (315, .aload_n 0, 1), (316, .iload_n 1, 1), (317, .invokevirtual 368, 3), (320, .goto (-21), 3), (323, .aload_n 0, 1), (324, .bipush 125, 2), (326, .invokevirtual 343, 3), (329, .aload_n 0, 1), (330, .getfield 267, 3), (333, .ifCond .le 4, 3), (337, .aload_n 0, 1), (338, .getfield 65, 3), (341, .iload_n 1, 1), (342, .lload_n 2, 1), (343, .lastore, 1), (344, .aload_n 0, 1), (345, .getfield 62, 3), (348, .aload_n 0, 1), (349, .getfield 289, 3)] = true ∧ dOk cX12_toldComponent [(352, .dup2, 1), (353, .iaload, 1), (354, .iconst 1, 1), (355, .iadd, 1), (356, .iastore, 1), (357, .return_, 1), (336, .return_, 1), (48, .return_, 1), (33, .iconst 1, 1), (34, .goto 4, 3)] = true := by decide +kernel
theorem dX12_toldComponent_0 : decode cX12_toldComponent 0 = .ok (.bipush 24, 2) := dr9 dk9_dX12_toldComponent_0_0.1 0 (0, .bipush 24, 2) rfl
theorem dX12_toldComponent_2 : decode cX12_toldComponent 2 = .ok (.aload_n 0, 1) := dr9 dk9_dX12_toldComponent_0_0.1 1 (2, .aload_n 0, 1) rfl
theorem dX12_toldComponent_3 : decode cX12_toldComponent 3 = .ok (.getfield 289, 3) := dr9 dk9_dX12_toldComponent_0_0.1 2 (3, .getfield 289, 3) rfl
theorem dX12_toldComponent_6 : decode cX12_toldComponent 6 = .ok (.imul, 1) := dr9 dk9_dX12_toldComponent_0_0.1 3 (6, .imul, 1) rfl
theorem dX12_toldComponent_7 : decode cX12_toldComponent 7 = .ok (.aload_n 0, 1) := dr9 dk9_dX12_toldComponent_0_0.1 4 (7, .aload_n 0, 1) rfl
theorem dX12_toldComponent_8 : decode cX12_toldComponent 8 = .ok (.getfield 62, 3) := dr9 dk9_dX12_toldComponent_0_0.1 5 (8, .getfield 62, 3) rfl
theorem dX12_toldComponent_11 : decode cX12_toldComponent 11 = .ok (.aload_n 0, 1) := dr9 dk9_dX12_toldComponent_0_0.1 6 (11, .aload_n 0, 1) rfl
theorem dX12_toldComponent_12 : decode cX12_toldComponent 12 = .ok (.getfield 289, 3) := dr9 dk9_dX12_toldComponent_0_0.1 7 (12, .getfield 289, 3) rfl
theorem dX12_toldComponent_15 : decode cX12_toldComponent 15 = .ok (.iaload, 1) := dr9 dk9_dX12_toldComponent_0_0.1 8 (15, .iaload, 1) rfl
theorem dX12_toldComponent_16 : decode cX12_toldComponent 16 = .ok (.iadd, 1) := dr9 dk9_dX12_toldComponent_0_0.1 9 (16, .iadd, 1) rfl
theorem dX12_toldComponent_17 : decode cX12_toldComponent 17 = .ok (.istore_n 1, 1) := dr9 dk9_dX12_toldComponent_0_0.1 10 (17, .istore_n 1, 1) rfl
theorem dX12_toldComponent_18 : decode cX12_toldComponent 18 = .ok (.aload_n 0, 1) := dr9 dk9_dX12_toldComponent_0_0.1 11 (18, .aload_n 0, 1) rfl
theorem dX12_toldComponent_19 : decode cX12_toldComponent 19 = .ok (.aload_n 0, 1) := dr9 dk9_dX12_toldComponent_0_0.1 12 (19, .aload_n 0, 1) rfl
theorem dX12_toldComponent_20 : decode cX12_toldComponent 20 = .ok (.getfield 62, 3) := dr9 dk9_dX12_toldComponent_0_0.1 13 (20, .getfield 62, 3) rfl
theorem dX12_toldComponent_23 : decode cX12_toldComponent 23 = .ok (.aload_n 0, 1) := dr9 dk9_dX12_toldComponent_0_0.1 14 (23, .aload_n 0, 1) rfl
theorem dX12_toldComponent_24 : decode cX12_toldComponent 24 = .ok (.getfield 289, 3) := dr9 dk9_dX12_toldComponent_0_0.1 15 (24, .getfield 289, 3) rfl
theorem dX12_toldComponent_27 : decode cX12_toldComponent 27 = .ok (.iaload, 1) := dr9 dk9_dX12_toldComponent_0_0.1 16 (27, .iaload, 1) rfl
theorem dX12_toldComponent_28 : decode cX12_toldComponent 28 = .ok (.bipush 24, 2) := dr9 dk9_dX12_toldComponent_0_0.1 17 (28, .bipush 24, 2) rfl
theorem dX12_toldComponent_30 : decode cX12_toldComponent 30 = .ok (.if_icmp .ne 7, 3) := dr9 dk9_dX12_toldComponent_0_0.1 18 (30, .if_icmp .ne 7, 3) rfl
theorem dX12_toldComponent_37 : decode cX12_toldComponent 37 = .ok (.iconst 0, 1) := dr9 dk9_dX12_toldComponent_0_0.1 19 (37, .iconst 0, 1) rfl
theorem dX12_toldComponent_38 : decode cX12_toldComponent 38 = .ok (.invokevirtual 331, 3) := dr9 dk9_dX12_toldComponent_0_0.1 20 (38, .invokevirtual 331, 3) rfl
theorem dX12_toldComponent_41 : decode cX12_toldComponent 41 = .ok (.aload_n 0, 1) := dr9 dk9_dX12_toldComponent_0_0.1 21 (41, .aload_n 0, 1) rfl
theorem dX12_toldComponent_42 : decode cX12_toldComponent 42 = .ok (.getfield 267, 3) := dr9 dk9_dX12_toldComponent_0_0.1 22 (42, .getfield 267, 3) rfl
theorem dX12_toldComponent_45 : decode cX12_toldComponent 45 = .ok (.ifCond .le 4, 3) := dr9 dk9_dX12_toldComponent_0_0.1 23 (45, .ifCond .le 4, 3) rfl
theorem dX12_toldComponent_49 : decode cX12_toldComponent 49 = .ok (.aload_n 0, 1) := dr9 dk9_dX12_toldComponent_0_0.2.1 0 (49, .aload_n 0, 1) rfl
theorem dX12_toldComponent_50 : decode cX12_toldComponent 50 = .ok (.invokevirtual 335, 3) := dr9 dk9_dX12_toldComponent_0_0.2.1 1 (50, .invokevirtual 335, 3) rfl
theorem dX12_toldComponent_53 : decode cX12_toldComponent 53 = .ok (.lstore_n 2, 1) := dr9 dk9_dX12_toldComponent_0_0.2.1 2 (53, .lstore_n 2, 1) rfl
theorem dX12_toldComponent_54 : decode cX12_toldComponent 54 = .ok (.iconst 0, 1) := dr9 dk9_dX12_toldComponent_0_0.2.1 3 (54, .iconst 0, 1) rfl
theorem dX12_toldComponent_55 : decode cX12_toldComponent 55 = .ok (.istore 4, 2) := dr9 dk9_dX12_toldComponent_0_0.2.1 4 (55, .istore 4, 2) rfl
theorem dX12_toldComponent_57 : decode cX12_toldComponent 57 = .ok (.iload 4, 2) := dr9 dk9_dX12_toldComponent_0_0.2.1 5 (57, .iload 4, 2) rfl
theorem dX12_toldComponent_59 : decode cX12_toldComponent 59 = .ok (.bipush 24, 2) := dr9 dk9_dX12_toldComponent_0_0.2.1 6 (59, .bipush 24, 2) rfl
theorem dX12_toldComponent_61 : decode cX12_toldComponent 61 = .ok (.if_icmp .ge 22, 3) := dr9 dk9_dX12_toldComponent_0_0.2.1 7 (61, .if_icmp .ge 22, 3) rfl
theorem dX12_toldComponent_64 : decode cX12_toldComponent 64 = .ok (.aload_n 0, 1) := dr9 dk9_dX12_toldComponent_0_0.2.1 8 (64, .aload_n 0, 1) rfl
theorem dX12_toldComponent_65 : decode cX12_toldComponent 65 = .ok (.getfield 68, 3) := dr9 dk9_dX12_toldComponent_0_0.2.1 9 (65, .getfield 68, 3) rfl
theorem dX12_toldComponent_68 : decode cX12_toldComponent 68 = .ok (.bipush 24, 2) := dr9 dk9_dX12_toldComponent_0_0.2.1 10 (68, .bipush 24, 2) rfl
theorem dX12_toldComponent_70 : decode cX12_toldComponent 70 = .ok (.iload_n 1, 1) := dr9 dk9_dX12_toldComponent_0_0.2.1 11 (70, .iload_n 1, 1) rfl
theorem dX12_toldComponent_71 : decode cX12_toldComponent 71 = .ok (.imul, 1) := dr9 dk9_dX12_toldComponent_0_0.2.1 12 (71, .imul, 1) rfl
theorem dX12_toldComponent_72 : decode cX12_toldComponent 72 = .ok (.iload 4, 2) := dr9 dk9_dX12_toldComponent_0_0.2.1 13 (72, .iload 4, 2) rfl
theorem dX12_toldComponent_74 : decode cX12_toldComponent 74 = .ok (.iadd, 1) := dr9 dk9_dX12_toldComponent_0_0.2.1 14 (74, .iadd, 1) rfl
theorem dX12_toldComponent_75 : decode cX12_toldComponent 75 = .ok (.iconst 0, 1) := dr9 dk9_dX12_toldComponent_0_0.2.1 15 (75, .iconst 0, 1) rfl
theorem dX12_toldComponent_76 : decode cX12_toldComponent 76 = .ok (.bastore, 1) := dr9 dk9_dX12_toldComponent_0_0.2.1 16 (76, .bastore, 1) rfl
theorem dX12_toldComponent_77 : decode cX12_toldComponent 77 = .ok (.iinc 4 1, 3) := dr9 dk9_dX12_toldComponent_0_0.2.1 17 (77, .iinc 4 1, 3) rfl
theorem dX12_toldComponent_80 : decode cX12_toldComponent 80 = .ok (.goto (-23), 3) := dr9 dk9_dX12_toldComponent_0_0.2.1 18 (80, .goto (-23), 3) rfl
theorem dX12_toldComponent_83 : decode cX12_toldComponent 83 = .ok (.iconst 0, 1) := dr9 dk9_dX12_toldComponent_0_0.2.1 19 (83, .iconst 0, 1) rfl
theorem dX12_toldComponent_84 : decode cX12_toldComponent 84 = .ok (.istore 4, 2) := dr9 dk9_dX12_toldComponent_0_0.2.1 20 (84, .istore 4, 2) rfl
theorem dX12_toldComponent_86 : decode cX12_toldComponent 86 = .ok (.iload 4, 2) := dr9 dk9_dX12_toldComponent_0_0.2.1 21 (86, .iload 4, 2) rfl
theorem dX12_toldComponent_88 : decode cX12_toldComponent 88 = .ok (.bipush 20, 2) := dr9 dk9_dX12_toldComponent_0_0.2.1 22 (88, .bipush 20, 2) rfl
theorem dX12_toldComponent_90 : decode cX12_toldComponent 90 = .ok (.if_icmp .ge 22, 3) := dr9 dk9_dX12_toldComponent_0_0.2.1 23 (90, .if_icmp .ge 22, 3) rfl
theorem dX12_toldComponent_93 : decode cX12_toldComponent 93 = .ok (.aload_n 0, 1) := dr9 dk9_dX12_toldComponent_0_0.2.2.1 0 (93, .aload_n 0, 1) rfl
theorem dX12_toldComponent_94 : decode cX12_toldComponent 94 = .ok (.getfield 107, 3) := dr9 dk9_dX12_toldComponent_0_0.2.2.1 1 (94, .getfield 107, 3) rfl
theorem dX12_toldComponent_97 : decode cX12_toldComponent 97 = .ok (.bipush 20, 2) := dr9 dk9_dX12_toldComponent_0_0.2.2.1 2 (97, .bipush 20, 2) rfl
theorem dX12_toldComponent_99 : decode cX12_toldComponent 99 = .ok (.iload_n 1, 1) := dr9 dk9_dX12_toldComponent_0_0.2.2.1 3 (99, .iload_n 1, 1) rfl
theorem dX12_toldComponent_100 : decode cX12_toldComponent 100 = .ok (.imul, 1) := dr9 dk9_dX12_toldComponent_0_0.2.2.1 4 (100, .imul, 1) rfl
theorem dX12_toldComponent_101 : decode cX12_toldComponent 101 = .ok (.iload 4, 2) := dr9 dk9_dX12_toldComponent_0_0.2.2.1 5 (101, .iload 4, 2) rfl
theorem dX12_toldComponent_103 : decode cX12_toldComponent 103 = .ok (.iadd, 1) := dr9 dk9_dX12_toldComponent_0_0.2.2.1 6 (103, .iadd, 1) rfl
theorem dX12_toldComponent_104 : decode cX12_toldComponent 104 = .ok (.iconst (-1), 1) := dr9 dk9_dX12_toldComponent_0_0.2.2.1 7 (104, .iconst (-1), 1) rfl
theorem dX12_toldComponent_105 : decode cX12_toldComponent 105 = .ok (.iastore, 1) := dr9 dk9_dX12_toldComponent_0_0.2.2.1 8 (105, .iastore, 1) rfl
theorem dX12_toldComponent_106 : decode cX12_toldComponent 106 = .ok (.iinc 4 1, 3) := dr9 dk9_dX12_toldComponent_0_0.2.2.1 9 (106, .iinc 4 1, 3) rfl
theorem dX12_toldComponent_109 : decode cX12_toldComponent 109 = .ok (.goto (-23), 3) := dr9 dk9_dX12_toldComponent_0_0.2.2.1 10 (109, .goto (-23), 3) rfl
theorem dX12_toldComponent_112 : decode cX12_toldComponent 112 = .ok (.aload_n 0, 1) := dr9 dk9_dX12_toldComponent_0_0.2.2.1 11 (112, .aload_n 0, 1) rfl
theorem dX12_toldComponent_113 : decode cX12_toldComponent 113 = .ok (.iconst 4, 1) := dr9 dk9_dX12_toldComponent_0_0.2.2.1 12 (113, .iconst 4, 1) rfl
theorem dX12_toldComponent_114 : decode cX12_toldComponent 114 = .ok (.invokevirtual 351, 3) := dr9 dk9_dX12_toldComponent_0_0.2.2.1 13 (114, .invokevirtual 351, 3) rfl
theorem dX12_toldComponent_117 : decode cX12_toldComponent 117 = .ok (.aload_n 0, 1) := dr9 dk9_dX12_toldComponent_0_0.2.2.1 14 (117, .aload_n 0, 1) rfl
theorem dX12_toldComponent_118 : decode cX12_toldComponent 118 = .ok (.getfield 267, 3) := dr9 dk9_dX12_toldComponent_0_0.2.2.1 15 (118, .getfield 267, 3) rfl
theorem dX12_toldComponent_121 : decode cX12_toldComponent 121 = .ok (.ifCond .ne 12, 3) := dr9 dk9_dX12_toldComponent_0_0.2.2.1 16 (121, .ifCond .ne 12, 3) rfl
theorem dX12_toldComponent_124 : decode cX12_toldComponent 124 = .ok (.aload_n 0, 1) := dr9 dk9_dX12_toldComponent_0_0.2.2.1 17 (124, .aload_n 0, 1) rfl
theorem dX12_toldComponent_125 : decode cX12_toldComponent 125 = .ok (.aload_n 0, 1) := dr9 dk9_dX12_toldComponent_0_0.2.2.1 18 (125, .aload_n 0, 1) rfl
theorem dX12_toldComponent_126 : decode cX12_toldComponent 126 = .ok (.getfield 68, 3) := dr9 dk9_dX12_toldComponent_0_0.2.2.1 19 (126, .getfield 68, 3) rfl
theorem dX12_toldComponent_129 : decode cX12_toldComponent 129 = .ok (.iload_n 1, 1) := dr9 dk9_dX12_toldComponent_0_0.2.2.1 20 (129, .iload_n 1, 1) rfl
theorem dX12_toldComponent_130 : decode cX12_toldComponent 130 = .ok (.invokevirtual 339, 3) := dr9 dk9_dX12_toldComponent_0_0.2.2.1 21 (130, .invokevirtual 339, 3) rfl
theorem dX12_toldComponent_133 : decode cX12_toldComponent 133 = .ok (.aload_n 0, 1) := dr9 dk9_dX12_toldComponent_0_0.2.2.1 22 (133, .aload_n 0, 1) rfl
theorem dX12_toldComponent_134 : decode cX12_toldComponent 134 = .ok (.getfield 71, 3) := dr9 dk9_dX12_toldComponent_0_0.2.2.1 23 (134, .getfield 71, 3) rfl
theorem dX12_toldComponent_137 : decode cX12_toldComponent 137 = .ok (.iload_n 1, 1) := dr9 dk9_dX12_toldComponent_0_0.2.2.2.1 0 (137, .iload_n 1, 1) rfl
theorem dX12_toldComponent_138 : decode cX12_toldComponent 138 = .ok (.aload_n 0, 1) := dr9 dk9_dX12_toldComponent_0_0.2.2.2.1 1 (138, .aload_n 0, 1) rfl
theorem dX12_toldComponent_139 : decode cX12_toldComponent 139 = .ok (.bipush 20, 2) := dr9 dk9_dX12_toldComponent_0_0.2.2.2.1 2 (139, .bipush 20, 2) rfl
theorem dX12_toldComponent_141 : decode cX12_toldComponent 141 = .ok (.iconst 4, 1) := dr9 dk9_dX12_toldComponent_0_0.2.2.2.1 3 (141, .iconst 4, 1) rfl
theorem dX12_toldComponent_142 : decode cX12_toldComponent 142 = .ok (.invokevirtual 354, 3) := dr9 dk9_dX12_toldComponent_0_0.2.2.2.1 4 (142, .invokevirtual 354, 3) rfl
theorem dX12_toldComponent_145 : decode cX12_toldComponent 145 = .ok (.iastore, 1) := dr9 dk9_dX12_toldComponent_0_0.2.2.2.1 5 (145, .iastore, 1) rfl
theorem dX12_toldComponent_146 : decode cX12_toldComponent 146 = .ok (.aload_n 0, 1) := dr9 dk9_dX12_toldComponent_0_0.2.2.2.1 6 (146, .aload_n 0, 1) rfl
theorem dX12_toldComponent_147 : decode cX12_toldComponent 147 = .ok (.getfield 74, 3) := dr9 dk9_dX12_toldComponent_0_0.2.2.2.1 7 (147, .getfield 74, 3) rfl
theorem dX12_toldComponent_150 : decode cX12_toldComponent 150 = .ok (.iload_n 1, 1) := dr9 dk9_dX12_toldComponent_0_0.2.2.2.1 8 (150, .iload_n 1, 1) rfl
theorem dX12_toldComponent_151 : decode cX12_toldComponent 151 = .ok (.aload_n 0, 1) := dr9 dk9_dX12_toldComponent_0_0.2.2.2.1 9 (151, .aload_n 0, 1) rfl
theorem dX12_toldComponent_152 : decode cX12_toldComponent 152 = .ok (.iconst 5, 1) := dr9 dk9_dX12_toldComponent_0_0.2.2.2.1 10 (152, .iconst 5, 1) rfl
theorem dX12_toldComponent_153 : decode cX12_toldComponent 153 = .ok (.invokevirtual 280, 3) := dr9 dk9_dX12_toldComponent_0_0.2.2.2.1 11 (153, .invokevirtual 280, 3) rfl
theorem dX12_toldComponent_156 : decode cX12_toldComponent 156 = .ok (.ifCond .eq 18, 3) := dr9 dk9_dX12_toldComponent_0_0.2.2.2.1 12 (156, .ifCond .eq 18, 3) rfl
theorem dX12_toldComponent_159 : decode cX12_toldComponent 159 = .ok (.aload_n 0, 1) := dr9 dk9_dX12_toldComponent_0_0.2.2.2.1 13 (159, .aload_n 0, 1) rfl
theorem dX12_toldComponent_160 : decode cX12_toldComponent 160 = .ok (.aload_n 0, 1) := dr9 dk9_dX12_toldComponent_0_0.2.2.2.1 14 (160, .aload_n 0, 1) rfl
theorem dX12_toldComponent_161 : decode cX12_toldComponent 161 = .ok (.getfield 119, 3) := dr9 dk9_dX12_toldComponent_0_0.2.2.2.1 15 (161, .getfield 119, 3) rfl
theorem dX12_toldComponent_164 : decode cX12_toldComponent 164 = .ok (.aload_n 0, 1) := dr9 dk9_dX12_toldComponent_0_0.2.2.2.1 16 (164, .aload_n 0, 1) rfl
theorem dX12_toldComponent_165 : decode cX12_toldComponent 165 = .ok (.getfield 116, 3) := dr9 dk9_dX12_toldComponent_0_0.2.2.2.1 17 (165, .getfield 116, 3) rfl
theorem dX12_toldComponent_168 : decode cX12_toldComponent 168 = .ok (.invokevirtual 357, 3) := dr9 dk9_dX12_toldComponent_0_0.2.2.2.1 18 (168, .invokevirtual 357, 3) rfl
theorem dX12_toldComponent_171 : decode cX12_toldComponent 171 = .ok (.goto 4, 3) := dr9 dk9_dX12_toldComponent_0_0.2.2.2.1 19 (171, .goto 4, 3) rfl
theorem dX12_toldComponent_174 : decode cX12_toldComponent 174 = .ok (.iconst (-1), 1) := dr9 dk9_dX12_toldComponent_0_0.2.2.2.1 20 (174, .iconst (-1), 1) rfl
theorem dX12_toldComponent_175 : decode cX12_toldComponent 175 = .ok (.iastore, 1) := dr9 dk9_dX12_toldComponent_0_0.2.2.2.1 21 (175, .iastore, 1) rfl
theorem dX12_toldComponent_176 : decode cX12_toldComponent 176 = .ok (.aload_n 0, 1) := dr9 dk9_dX12_toldComponent_0_0.2.2.2.1 22 (176, .aload_n 0, 1) rfl
theorem dX12_toldComponent_177 : decode cX12_toldComponent 177 = .ok (.getfield 77, 3) := dr9 dk9_dX12_toldComponent_0_0.2.2.2.1 23 (177, .getfield 77, 3) rfl
theorem dX12_toldComponent_180 : decode cX12_toldComponent 180 = .ok (.iload_n 1, 1) := dr9 dk9_dX12_toldComponent_0_0.2.2.2.2.1 0 (180, .iload_n 1, 1) rfl
theorem dX12_toldComponent_181 : decode cX12_toldComponent 181 = .ok (.aload_n 0, 1) := dr9 dk9_dX12_toldComponent_0_0.2.2.2.2.1 1 (181, .aload_n 0, 1) rfl
theorem dX12_toldComponent_182 : decode cX12_toldComponent 182 = .ok (.bipush 6, 2) := dr9 dk9_dX12_toldComponent_0_0.2.2.2.2.1 2 (182, .bipush 6, 2) rfl
theorem dX12_toldComponent_184 : decode cX12_toldComponent 184 = .ok (.invokevirtual 280, 3) := dr9 dk9_dX12_toldComponent_0_0.2.2.2.2.1 3 (184, .invokevirtual 280, 3) rfl
theorem dX12_toldComponent_187 : decode cX12_toldComponent 187 = .ok (.ifCond .eq 13, 3) := dr9 dk9_dX12_toldComponent_0_0.2.2.2.2.1 4 (187, .ifCond .eq 13, 3) rfl
theorem dX12_toldComponent_190 : decode cX12_toldComponent 190 = .ok (.aload_n 0, 1) := dr9 dk9_dX12_toldComponent_0_0.2.2.2.2.1 5 (190, .aload_n 0, 1) rfl
theorem dX12_toldComponent_191 : decode cX12_toldComponent 191 = .ok (.iconst 0, 1) := dr9 dk9_dX12_toldComponent_0_0.2.2.2.2.1 6 (191, .iconst 0, 1) rfl
theorem dX12_toldComponent_192 : decode cX12_toldComponent 192 = .ok (.bipush 9, 2) := dr9 dk9_dX12_toldComponent_0_0.2.2.2.2.1 7 (192, .bipush 9, 2) rfl
theorem dX12_toldComponent_194 : decode cX12_toldComponent 194 = .ok (.invokevirtual 347, 3) := dr9 dk9_dX12_toldComponent_0_0.2.2.2.2.1 8 (194, .invokevirtual 347, 3) rfl
theorem dX12_toldComponent_197 : decode cX12_toldComponent 197 = .ok (.goto 4, 3) := dr9 dk9_dX12_toldComponent_0_0.2.2.2.2.1 9 (197, .goto 4, 3) rfl
theorem dX12_toldComponent_200 : decode cX12_toldComponent 200 = .ok (.iconst 0, 1) := dr9 dk9_dX12_toldComponent_0_0.2.2.2.2.1 10 (200, .iconst 0, 1) rfl
theorem dX12_toldComponent_201 : decode cX12_toldComponent 201 = .ok (.iastore, 1) := dr9 dk9_dX12_toldComponent_0_0.2.2.2.2.1 11 (201, .iastore, 1) rfl
theorem dX12_toldComponent_202 : decode cX12_toldComponent 202 = .ok (.aload_n 0, 1) := dr9 dk9_dX12_toldComponent_0_0.2.2.2.2.1 12 (202, .aload_n 0, 1) rfl
theorem dX12_toldComponent_203 : decode cX12_toldComponent 203 = .ok (.getfield 80, 3) := dr9 dk9_dX12_toldComponent_0_0.2.2.2.2.1 13 (203, .getfield 80, 3) rfl
theorem dX12_toldComponent_206 : decode cX12_toldComponent 206 = .ok (.iload_n 1, 1) := dr9 dk9_dX12_toldComponent_0_0.2.2.2.2.1 14 (206, .iload_n 1, 1) rfl
theorem dX12_toldComponent_207 : decode cX12_toldComponent 207 = .ok (.iconst (-1), 1) := dr9 dk9_dX12_toldComponent_0_0.2.2.2.2.1 15 (207, .iconst (-1), 1) rfl
theorem dX12_toldComponent_208 : decode cX12_toldComponent 208 = .ok (.iastore, 1) := dr9 dk9_dX12_toldComponent_0_0.2.2.2.2.1 16 (208, .iastore, 1) rfl
theorem dX12_toldComponent_209 : decode cX12_toldComponent 209 = .ok (.aload_n 0, 1) := dr9 dk9_dX12_toldComponent_0_0.2.2.2.2.1 17 (209, .aload_n 0, 1) rfl
theorem dX12_toldComponent_210 : decode cX12_toldComponent 210 = .ok (.bipush 7, 2) := dr9 dk9_dX12_toldComponent_0_0.2.2.2.2.1 18 (210, .bipush 7, 2) rfl
theorem dX12_toldComponent_212 : decode cX12_toldComponent 212 = .ok (.invokevirtual 280, 3) := dr9 dk9_dX12_toldComponent_0_0.2.2.2.2.1 19 (212, .invokevirtual 280, 3) rfl
theorem dX12_toldComponent_215 : decode cX12_toldComponent 215 = .ok (.ifCond .eq 47, 3) := dr9 dk9_dX12_toldComponent_0_0.2.2.2.2.1 20 (215, .ifCond .eq 47, 3) rfl
theorem dX12_toldComponent_218 : decode cX12_toldComponent 218 = .ok (.aload_n 0, 1) := dr9 dk9_dX12_toldComponent_0_0.2.2.2.2.1 21 (218, .aload_n 0, 1) rfl
theorem dX12_toldComponent_219 : decode cX12_toldComponent 219 = .ok (.getfield 80, 3) := dr9 dk9_dX12_toldComponent_0_0.2.2.2.2.1 22 (219, .getfield 80, 3) rfl
theorem dX12_toldComponent_222 : decode cX12_toldComponent 222 = .ok (.iload_n 1, 1) := dr9 dk9_dX12_toldComponent_0_0.2.2.2.2.1 23 (222, .iload_n 1, 1) rfl
theorem dX12_toldComponent_223 : decode cX12_toldComponent 223 = .ok (.aload_n 0, 1) := dr9 dk9_dX12_toldComponent_0_0.2.2.2.2.2.1 0 (223, .aload_n 0, 1) rfl
theorem dX12_toldComponent_224 : decode cX12_toldComponent 224 = .ok (.aload_n 0, 1) := dr9 dk9_dX12_toldComponent_0_0.2.2.2.2.2.1 1 (224, .aload_n 0, 1) rfl
theorem dX12_toldComponent_225 : decode cX12_toldComponent 225 = .ok (.getfield 56, 3) := dr9 dk9_dX12_toldComponent_0_0.2.2.2.2.2.1 2 (225, .getfield 56, 3) rfl
theorem dX12_toldComponent_228 : decode cX12_toldComponent 228 = .ok (.bipush 12, 2) := dr9 dk9_dX12_toldComponent_0_0.2.2.2.2.2.1 3 (228, .bipush 12, 2) rfl
theorem dX12_toldComponent_230 : decode cX12_toldComponent 230 = .ok (.aload_n 0, 1) := dr9 dk9_dX12_toldComponent_0_0.2.2.2.2.2.1 4 (230, .aload_n 0, 1) rfl
theorem dX12_toldComponent_231 : decode cX12_toldComponent 231 = .ok (.getfield 289, 3) := dr9 dk9_dX12_toldComponent_0_0.2.2.2.2.2.1 5 (231, .getfield 289, 3) rfl
theorem dX12_toldComponent_234 : decode cX12_toldComponent 234 = .ok (.imul, 1) := dr9 dk9_dX12_toldComponent_0_0.2.2.2.2.2.1 6 (234, .imul, 1) rfl
theorem dX12_toldComponent_235 : decode cX12_toldComponent 235 = .ok (.aload_n 0, 1) := dr9 dk9_dX12_toldComponent_0_0.2.2.2.2.2.1 7 (235, .aload_n 0, 1) rfl
theorem dX12_toldComponent_236 : decode cX12_toldComponent 236 = .ok (.getfield 53, 3) := dr9 dk9_dX12_toldComponent_0_0.2.2.2.2.2.1 8 (236, .getfield 53, 3) rfl
theorem dX12_toldComponent_239 : decode cX12_toldComponent 239 = .ok (.aload_n 0, 1) := dr9 dk9_dX12_toldComponent_0_0.2.2.2.2.2.1 9 (239, .aload_n 0, 1) rfl
theorem dX12_toldComponent_240 : decode cX12_toldComponent 240 = .ok (.getfield 289, 3) := dr9 dk9_dX12_toldComponent_0_0.2.2.2.2.2.1 10 (240, .getfield 289, 3) rfl
theorem dX12_toldComponent_243 : decode cX12_toldComponent 243 = .ok (.iaload, 1) := dr9 dk9_dX12_toldComponent_0_0.2.2.2.2.2.1 11 (243, .iaload, 1) rfl
theorem dX12_toldComponent_244 : decode cX12_toldComponent 244 = .ok (.invokevirtual 321, 3) := dr9 dk9_dX12_toldComponent_0_0.2.2.2.2.2.1 12 (244, .invokevirtual 321, 3) rfl
theorem dX12_toldComponent_247 : decode cX12_toldComponent 247 = .ok (.iastore, 1) := dr9 dk9_dX12_toldComponent_0_0.2.2.2.2.2.1 13 (247, .iastore, 1) rfl
theorem dX12_toldComponent_248 : decode cX12_toldComponent 248 = .ok (.aload_n 0, 1) := dr9 dk9_dX12_toldComponent_0_0.2.2.2.2.2.1 14 (248, .aload_n 0, 1) rfl
theorem dX12_toldComponent_249 : decode cX12_toldComponent 249 = .ok (.getfield 83, 3) := dr9 dk9_dX12_toldComponent_0_0.2.2.2.2.2.1 15 (249, .getfield 83, 3) rfl
theorem dX12_toldComponent_252 : decode cX12_toldComponent 252 = .ok (.iload_n 1, 1) := dr9 dk9_dX12_toldComponent_0_0.2.2.2.2.2.1 16 (252, .iload_n 1, 1) rfl
theorem dX12_toldComponent_253 : decode cX12_toldComponent 253 = .ok (.aload_n 0, 1) := dr9 dk9_dX12_toldComponent_0_0.2.2.2.2.2.1 17 (253, .aload_n 0, 1) rfl
theorem dX12_toldComponent_254 : decode cX12_toldComponent 254 = .ok (.iconst 0, 1) := dr9 dk9_dX12_toldComponent_0_0.2.2.2.2.2.1 18 (254, .iconst 0, 1) rfl
theorem dX12_toldComponent_255 : decode cX12_toldComponent 255 = .ok (.ldc_w 346, 3) := dr9 dk9_dX12_toldComponent_0_0.2.2.2.2.2.1 19 (255, .ldc_w 346, 3) rfl
theorem dX12_toldComponent_258 : decode cX12_toldComponent 258 = .ok (.invokevirtual 347, 3) := dr9 dk9_dX12_toldComponent_0_0.2.2.2.2.2.1 20 (258, .invokevirtual 347, 3) rfl
theorem dX12_toldComponent_261 : decode cX12_toldComponent 261 = .ok (.iastore, 1) := dr9 dk9_dX12_toldComponent_0_0.2.2.2.2.2.1 21 (261, .iastore, 1) rfl
theorem dX12_toldComponent_262 : decode cX12_toldComponent 262 = .ok (.aload_n 0, 1) := dr9 dk9_dX12_toldComponent_0_0.2.2.2.2.2.1 22 (262, .aload_n 0, 1) rfl
theorem dX12_toldComponent_263 : decode cX12_toldComponent 263 = .ok (.getfield 86, 3) := dr9 dk9_dX12_toldComponent_0_0.2.2.2.2.2.1 23 (263, .getfield 86, 3) rfl
theorem dX12_toldComponent_266 : decode cX12_toldComponent 266 = .ok (.iload_n 1, 1) := dr9 dk9_dX12_toldComponent_0_0.2.2.2.2.2.2.1 0 (266, .iload_n 1, 1) rfl
theorem dX12_toldComponent_267 : decode cX12_toldComponent 267 = .ok (.iconst 0, 1) := dr9 dk9_dX12_toldComponent_0_0.2.2.2.2.2.2.1 1 (267, .iconst 0, 1) rfl
theorem dX12_toldComponent_268 : decode cX12_toldComponent 268 = .ok (.iastore, 1) := dr9 dk9_dX12_toldComponent_0_0.2.2.2.2.2.2.1 2 (268, .iastore, 1) rfl
theorem dX12_toldComponent_269 : decode cX12_toldComponent 269 = .ok (.aload_n 0, 1) := dr9 dk9_dX12_toldComponent_0_0.2.2.2.2.2.2.1 3 (269, .aload_n 0, 1) rfl
theorem dX12_toldComponent_270 : decode cX12_toldComponent 270 = .ok (.getfield 101, 3) := dr9 dk9_dX12_toldComponent_0_0.2.2.2.2.2.2.1 4 (270, .getfield 101, 3) rfl
theorem dX12_toldComponent_273 : decode cX12_toldComponent 273 = .ok (.iload_n 1, 1) := dr9 dk9_dX12_toldComponent_0_0.2.2.2.2.2.2.1 5 (273, .iload_n 1, 1) rfl
theorem dX12_toldComponent_274 : decode cX12_toldComponent 274 = .ok (.iconst (-1), 1) := dr9 dk9_dX12_toldComponent_0_0.2.2.2.2.2.2.1 6 (274, .iconst (-1), 1) rfl
theorem dX12_toldComponent_275 : decode cX12_toldComponent 275 = .ok (.iastore, 1) := dr9 dk9_dX12_toldComponent_0_0.2.2.2.2.2.2.1 7 (275, .iastore, 1) rfl
theorem dX12_toldComponent_276 : decode cX12_toldComponent 276 = .ok (.aload_n 0, 1) := dr9 dk9_dX12_toldComponent_0_0.2.2.2.2.2.2.1 8 (276, .aload_n 0, 1) rfl
theorem dX12_toldComponent_277 : decode cX12_toldComponent 277 = .ok (.getfield 104, 3) := dr9 dk9_dX12_toldComponent_0_0.2.2.2.2.2.2.1 9 (277, .getfield 104, 3) rfl
theorem dX12_toldComponent_280 : decode cX12_toldComponent 280 = .ok (.iload_n 1, 1) := dr9 dk9_dX12_toldComponent_0_0.2.2.2.2.2.2.1 10 (280, .iload_n 1, 1) rfl
theorem dX12_toldComponent_281 : decode cX12_toldComponent 281 = .ok (.iconst (-1), 1) := dr9 dk9_dX12_toldComponent_0_0.2.2.2.2.2.2.1 11 (281, .iconst (-1), 1) rfl
theorem dX12_toldComponent_282 : decode cX12_toldComponent 282 = .ok (.iastore, 1) := dr9 dk9_dX12_toldComponent_0_0.2.2.2.2.2.2.1 12 (282, .iastore, 1) rfl
theorem dX12_toldComponent_283 : decode cX12_toldComponent 283 = .ok (.aload_n 0, 1) := dr9 dk9_dX12_toldComponent_0_0.2.2.2.2.2.2.1 13 (283, .aload_n 0, 1) rfl
theorem dX12_toldComponent_284 : decode cX12_toldComponent 284 = .ok (.iload_n 1, 1) := dr9 dk9_dX12_toldComponent_0_0.2.2.2.2.2.2.1 14 (284, .iload_n 1, 1) rfl
theorem dX12_toldComponent_285 : decode cX12_toldComponent 285 = .ok (.putfield 361, 3) := dr9 dk9_dX12_toldComponent_0_0.2.2.2.2.2.2.1 15 (285, .putfield 361, 3) rfl
theorem dX12_toldComponent_288 : decode cX12_toldComponent 288 = .ok (.aload_n 0, 1) := dr9 dk9_dX12_toldComponent_0_0.2.2.2.2.2.2.1 16 (288, .aload_n 0, 1) rfl
theorem dX12_toldComponent_289 : decode cX12_toldComponent 289 = .ok (.iconst 0, 1) := dr9 dk9_dX12_toldComponent_0_0.2.2.2.2.2.2.1 17 (289, .iconst 0, 1) rfl
theorem dX12_toldComponent_290 : decode cX12_toldComponent 290 = .ok (.putfield 364, 3) := dr9 dk9_dX12_toldComponent_0_0.2.2.2.2.2.2.1 18 (290, .putfield 364, 3) rfl
theorem dX12_toldComponent_293 : decode cX12_toldComponent 293 = .ok (.aload_n 0, 1) := dr9 dk9_dX12_toldComponent_0_0.2.2.2.2.2.2.1 19 (293, .aload_n 0, 1) rfl
theorem dX12_toldComponent_294 : decode cX12_toldComponent 294 = .ok (.bipush 123, 2) := dr9 dk9_dX12_toldComponent_0_0.2.2.2.2.2.2.1 20 (294, .bipush 123, 2) rfl
theorem dX12_toldComponent_296 : decode cX12_toldComponent 296 = .ok (.invokevirtual 343, 3) := dr9 dk9_dX12_toldComponent_0_0.2.2.2.2.2.2.1 21 (296, .invokevirtual 343, 3) rfl
theorem dX12_toldComponent_299 : decode cX12_toldComponent 299 = .ok (.aload_n 0, 1) := dr9 dk9_dX12_toldComponent_0_0.2.2.2.2.2.2.1 22 (299, .aload_n 0, 1) rfl
theorem dX12_toldComponent_300 : decode cX12_toldComponent 300 = .ok (.getfield 267, 3) := dr9 dk9_dX12_toldComponent_0_0.2.2.2.2.2.2.1 23 (300, .getfield 267, 3) rfl
theorem dX12_toldComponent_303 : decode cX12_toldComponent 303 = .ok (.ifCond .ne 20, 3) := dr9 dk9_dX12_toldComponent_0_0.2.2.2.2.2.2.2.1 0 (303, .ifCond .ne 20, 3) rfl
theorem dX12_toldComponent_306 : decode cX12_toldComponent 306 = .ok (.aload_n 0, 1) := dr9 dk9_dX12_toldComponent_0_0.2.2.2.2.2.2.2.1 1 (306, .aload_n 0, 1) rfl
theorem dX12_toldComponent_307 : decode cX12_toldComponent 307 = .ok (.bipush 125, 2) := dr9 dk9_dX12_toldComponent_0_0.2.2.2.2.2.2.2.1 2 (307, .bipush 125, 2) rfl
theorem dX12_toldComponent_309 : decode cX12_toldComponent 309 = .ok (.invokevirtual 270, 3) := dr9 dk9_dX12_toldComponent_0_0.2.2.2.2.2.2.2.1 3 (309, .invokevirtual 270, 3) rfl
theorem dX12_toldComponent_312 : decode cX12_toldComponent 312 = .ok (.ifCond .ne 11, 3) := dr9 dk9_dX12_toldComponent_0_0.2.2.2.2.2.2.2.1 4 (312, .ifCond .ne 11, 3) rfl
theorem dX12_toldComponent_315 : decode cX12_toldComponent 315 = .ok (.aload_n 0, 1) := dr9 dk9_dX12_toldComponent_0_0.2.2.2.2.2.2.2.1 5 (315, .aload_n 0, 1) rfl
theorem dX12_toldComponent_316 : decode cX12_toldComponent 316 = .ok (.iload_n 1, 1) := dr9 dk9_dX12_toldComponent_0_0.2.2.2.2.2.2.2.1 6 (316, .iload_n 1, 1) rfl
theorem dX12_toldComponent_317 : decode cX12_toldComponent 317 = .ok (.invokevirtual 368, 3) := dr9 dk9_dX12_toldComponent_0_0.2.2.2.2.2.2.2.1 7 (317, .invokevirtual 368, 3) rfl
theorem dX12_toldComponent_320 : decode cX12_toldComponent 320 = .ok (.goto (-21), 3) := dr9 dk9_dX12_toldComponent_0_0.2.2.2.2.2.2.2.1 8 (320, .goto (-21), 3) rfl
theorem dX12_toldComponent_323 : decode cX12_toldComponent 323 = .ok (.aload_n 0, 1) := dr9 dk9_dX12_toldComponent_0_0.2.2.2.2.2.2.2.1 9 (323, .aload_n 0, 1) rfl
theorem dX12_toldComponent_324 : decode cX12_toldComponent 324 = .ok (.bipush 125, 2) := dr9 dk9_dX12_toldComponent_0_0.2.2.2.2.2.2.2.1 10 (324, .bipush 125, 2) rfl
theorem dX12_toldComponent_326 : decode cX12_toldComponent 326 = .ok (.invokevirtual 343, 3) := dr9 dk9_dX12_toldComponent_0_0.2.2.2.2.2.2.2.1 11 (326, .invokevirtual 343, 3) rfl
theorem dX12_toldComponent_329 : decode cX12_toldComponent 329 = .ok (.aload_n 0, 1) := dr9 dk9_dX12_toldComponent_0_0.2.2.2.2.2.2.2.1 12 (329, .aload_n 0, 1) rfl
theorem dX12_toldComponent_330 : decode cX12_toldComponent 330 = .ok (.getfield 267, 3) := dr9 dk9_dX12_toldComponent_0_0.2.2.2.2.2.2.2.1 13 (330, .getfield 267, 3) rfl
theorem dX12_toldComponent_333 : decode cX12_toldComponent 333 = .ok (.ifCond .le 4, 3) := dr9 dk9_dX12_toldComponent_0_0.2.2.2.2.2.2.2.1 14 (333, .ifCond .le 4, 3) rfl
theorem dX12_toldComponent_337 : decode cX12_toldComponent 337 = .ok (.aload_n 0, 1) := dr9 dk9_dX12_toldComponent_0_0.2.2.2.2.2.2.2.1 15 (337, .aload_n 0, 1) rfl
theorem dX12_toldComponent_338 : decode cX12_toldComponent 338 = .ok (.getfield 65, 3) := dr9 dk9_dX12_toldComponent_0_0.2.2.2.2.2.2.2.1 16 (338, .getfield 65, 3) rfl
theorem dX12_toldComponent_341 : decode cX12_toldComponent 341 = .ok (.iload_n 1, 1) := dr9 dk9_dX12_toldComponent_0_0.2.2.2.2.2.2.2.1 17 (341, .iload_n 1, 1) rfl
theorem dX12_toldComponent_342 : decode cX12_toldComponent 342 = .ok (.lload_n 2, 1) := dr9 dk9_dX12_toldComponent_0_0.2.2.2.2.2.2.2.1 18 (342, .lload_n 2, 1) rfl
theorem dX12_toldComponent_343 : decode cX12_toldComponent 343 = .ok (.lastore, 1) := dr9 dk9_dX12_toldComponent_0_0.2.2.2.2.2.2.2.1 19 (343, .lastore, 1) rfl
theorem dX12_toldComponent_344 : decode cX12_toldComponent 344 = .ok (.aload_n 0, 1) := dr9 dk9_dX12_toldComponent_0_0.2.2.2.2.2.2.2.1 20 (344, .aload_n 0, 1) rfl
theorem dX12_toldComponent_345 : decode cX12_toldComponent 345 = .ok (.getfield 62, 3) := dr9 dk9_dX12_toldComponent_0_0.2.2.2.2.2.2.2.1 21 (345, .getfield 62, 3) rfl
theorem dX12_toldComponent_348 : decode cX12_toldComponent 348 = .ok (.aload_n 0, 1) := dr9 dk9_dX12_toldComponent_0_0.2.2.2.2.2.2.2.1 22 (348, .aload_n 0, 1) rfl
theorem dX12_toldComponent_349 : decode cX12_toldComponent 349 = .ok (.getfield 289, 3) := dr9 dk9_dX12_toldComponent_0_0.2.2.2.2.2.2.2.1 23 (349, .getfield 289, 3) rfl
theorem dX12_toldComponent_352 : decode cX12_toldComponent 352 = .ok (.dup2, 1) := dr9 dk9_dX12_toldComponent_0_0.2.2.2.2.2.2.2.2 0 (352, .dup2, 1) rfl
theorem dX12_toldComponent_353 : decode cX12_toldComponent 353 = .ok (.iaload, 1) := dr9 dk9_dX12_toldComponent_0_0.2.2.2.2.2.2.2.2 1 (353, .iaload, 1) rfl
theorem dX12_toldComponent_354 : decode cX12_toldComponent 354 = .ok (.iconst 1, 1) := dr9 dk9_dX12_toldComponent_0_0.2.2.2.2.2.2.2.2 2 (354, .iconst 1, 1) rfl
theorem dX12_toldComponent_355 : decode cX12_toldComponent 355 = .ok (.iadd, 1) := dr9 dk9_dX12_toldComponent_0_0.2.2.2.2.2.2.2.2 3 (355, .iadd, 1) rfl
theorem dX12_toldComponent_356 : decode cX12_toldComponent 356 = .ok (.iastore, 1) := dr9 dk9_dX12_toldComponent_0_0.2.2.2.2.2.2.2.2 4 (356, .iastore, 1) rfl
theorem dX12_toldComponent_357 : decode cX12_toldComponent 357 = .ok (.return_, 1) := dr9 dk9_dX12_toldComponent_0_0.2.2.2.2.2.2.2.2 5 (357, .return_, 1) rfl
theorem dX12_toldComponent_336 : decode cX12_toldComponent 336 = .ok (.return_, 1) := dr9 dk9_dX12_toldComponent_0_0.2.2.2.2.2.2.2.2 6 (336, .return_, 1) rfl
theorem dX12_toldComponent_48 : decode cX12_toldComponent 48 = .ok (.return_, 1) := dr9 dk9_dX12_toldComponent_0_0.2.2.2.2.2.2.2.2 7 (48, .return_, 1) rfl
theorem dX12_toldComponent_33 : decode cX12_toldComponent 33 = .ok (.iconst 1, 1) := dr9 dk9_dX12_toldComponent_0_0.2.2.2.2.2.2.2.2 8 (33, .iconst 1, 1) rfl
theorem dX12_toldComponent_34 : decode cX12_toldComponent 34 = .ok (.goto 4, 3) := dr9 dk9_dX12_toldComponent_0_0.2.2.2.2.2.2.2.2 9 (34, .goto 4, 3) rfl
abbrev r_s_takeNumber3 : Room := { frames := 1, cells := 0, slots := 0, locals := 21 }
abbrev q_s_takeNumber3 (D : va_G) (ks : KS) (ad : Nat → Nat) (kk : Nat → ClassId) (V : Vf) (L : Lf) (p0 : Int32) (p1 : Int32) (n : Nat) (A : Nat → Prop) : Array Value → State → Outcome → State → Prop := va_Qi (fun (r : Int32) (u : Vf × Lf) => rgd bM u.1 ∧ agr [(0, 7), (0, 8)] [] V u.1 ∧ u.2 = L ∧ (Imp ((u.1 0 8).toInt = 0) (0 ≤ (u.1 0 7).toInt ∧ (u.1 0 7).toInt ≤ n ∧ (V 0 8).toInt = 0 ∧ (V 0 7).toInt ≤ (u.1 0 7).toInt)) ∧ (Imp ((u.1 0 8).toInt = 0) (p0.toInt ≤ r.toInt ∧ r.toInt ≤ p1.toInt)) ∧ (Imp ((u.1 0 8).toInt = 0) ((V 0 7).toInt + 1 ≤ (u.1 0 7).toInt)) ∧ (Imp (p0.toInt ≤ 0 ∧ 0 ≤ p1.toInt) (p0.toInt ≤ r.toInt ∧ r.toInt ≤ p1.toInt))) (fun u t => gq D A (mw ad kk ks.1 u.1 u.2) (mty kk) t) A
set_option maxHeartbeats 4000000 in
set_option maxRecDepth 100000 in
theorem s_takeNumber3 (l : Launch) (D : va_G) (ks : KS) (sz : Nat) (ad : Nat → Nat) (kk : Nat → ClassId) (V : Vf) (L : Lf) (p0 : Int32) (p1 : Int32) (n : Nat) (hMV : rgd bM V) (x1 : (V 4 n).toInt = 0) (x2 : n ≤ 4000) (x3 : Imp ((V 0 8).toInt = 0) (0 ≤ (V 0 7).toInt ∧ (V 0 7).toInt ≤ n))  : Met l yX12_takeNumber (Cond.code yX12_takeNumber cX12_takeNumber 3 (some .int) :: GW) r_s_takeNumber3 (va_Pc [.ref (ad 0), .int p0, .int p1] (gp D ks (mw ad kk ks.1 V L) (mty kk) sz)) (q_s_takeNumber3 D ks ad kk V L p0 p1 n (va_A (mw ad kk ks.1 V L) sz)) 0 0 (va_A (mw ad kk ks.1 V L) sz) := by
  refine g_met (q_s_takeNumber3 D ks ad kk V L p0 p1 n) (by decide) (Nat.le_of_ble_eq_true rfl) ?_
  intro p e s m below meth c A ls H locs hx hb hr hml hown hg hlocks hin hnw hgk hP hK hD hS hA hl
  have hown : s.vm.findClass RX12 = some m.cls := hown
  have hl : lv_has ls 3 [(0, .ref (ad 0)), (1, .int p0), (2, .int p1)] := hl
  have hP : va_P D vwCl (mw ad kk ks.1 V L) H := hP
  have hD : va_D A (mw ad kk ks.1 V L) := hD
  have hK : va_K D vwCl (mty kk) s := hK
  have agV : agr [(0, 7), (0, 8)] [] V V := agr.rf
  have rf_p0 := i_full p0
  have rf_p1 := i_full p1
  have r1 : 0 ≤ ((V 0 8)).toInt ∧ ((V 0 8)).toInt ≤ 70000 := hMV 0 8
  refine lv_aload_n hx hb dX12_takeNumber_0 rfl (lv_at hl 0 rfl) ?_
  refine va_get (D := D) (ci := 12) (v := .int (V 0 8)) (C := RX12) (T := TX12) (N := 100) hx hb hg inX12 hown hK hP 0 rfl rfl 8 (by decide) (hg _ w1714) (fun _ h9 => h9) rfl dX12_takeNumber_1 ?_
  refine lv_if_ne (tgt := 28) hx hb dX12_takeNumber_4 (by decide) (fun c2 => ?_) (fun c2 => ?_)
  · skip
    have f3 : ((V 0 8)).toInt ≠ 0 := b_neq rfl (by decide) c2
    refine lv_aload_n hx hb dX12_takeNumber_28 rfl (lv_at hl 0 rfl) ?_
    refine va_get (D := D) (ci := 12) (v := .int (V 0 8)) (C := RX12) (T := TX12) (N := 100) hx hb hg inX12 hown hK hP 0 rfl rfl 8 (by decide) (hg _ w1714) (fun _ h9 => h9) rfl dX12_takeNumber_29 ?_
    refine lv_if_ne (tgt := 70) hx hb dX12_takeNumber_32 (by decide) (fun c4 => ?_) (fun c4 => ?_)
    · skip
      have f5 : ((V 0 8)).toInt ≠ 0 := b_neq rfl (by decide) c4
      refine lv_aload_n hx hb dX12_takeNumber_70 rfl (lv_at hl 0 rfl) ?_
      refine lv_dup hx hb dX12_takeNumber_71 rfl ?_
      refine va_get (D := D) (ci := 12) (v := .int (V 0 7)) (C := RX12) (T := TX12) (N := 100) hx hb hg inX12 hown hK hP 0 rfl rfl 7 (by decide) (hg _ w1713) (fun _ h9 => h9) rfl dX12_takeNumber_72 ?_
      refine lv_iconst (v := 1) hx hb dX12_takeNumber_75 (by decide) ?_
      refine lv_iadd hx hb dX12_takeNumber_76 ?_
      have r6 := i_full (V 0 7)
      refine lv_topi (fun z7 ez7 => ?_)
      have hz7 : Imp (-2147483648 ≤ ((V 0 7)).toInt + 1 ∧ ((V 0 7)).toInt + 1 ≤ 2147483647) (z7.toInt = ((V 0 7)).toInt + 1) := Imp.mk (fun hp => i_add ez7 rfl (by decide) hp)
      refine va_put (D := D) (ci := 12) (v := .int z7) (ty := tyX12 7) (C := RX12) (T := TX12) (N := 100) hx hb hg inX12 tyX12 tyX12_ok nmX12 hown hK hP hD hS 0 rfl rfl 7 (by decide) (hg _ w1713) (fun _ h9 => h9) rfl (tyX12_ok 7 (by decide)) rfl rfl (Nat.le_of_ble_eq_true rfl) dX12_takeNumber_77 (fun H locs hP hD hS => ?_)
      obtain ⟨V8, hV8⟩ : ∃ z, z = up2 V 0 7 z7 := ⟨_, rfl⟩
      have hP : va_P D vwCl (mw ad kk ks.1 V8 L) H := by rw [hV8]; exact hP
      have hD : va_D A (mw ad kk ks.1 V8 L) := by rw [hV8]; exact hD
      have hMV8 : rgd bM V8 := hMV.put hV8 (i_full _)
      have agV8 : agr [(0, 7), (0, 8)] [] V V8 := agV.up hV8 rfl
      refine lv_aload_n hx hb dX12_takeNumber_80 rfl (lv_at hl 0 rfl) ?_
      refine va_get (D := D) (ci := 12) (v := .int (V8 0 8)) (C := RX12) (T := TX12) (N := 100) hx hb hg inX12 hown hK hP 0 rfl rfl 8 (by decide) (hg _ w1714) (fun _ h9 => h9) rfl dX12_takeNumber_81 ?_
      refine g_top (v := (V 0 8)) (up2_k hV8 (by decide)) ?_
      refine lv_if_le (tgt := 91) hx hb dX12_takeNumber_84 (by decide) (fun c9 => ?_) (fun c9 => ?_)
      · skip
        have f10 : ((V 0 8)).toInt ≤ 0 := b_le rfl (by decide) c9
        exfalso; first | exact om_032a278608eb r1.1 f3 f10 | first | omega | ((try (have i_hz7 := Imp.go hz7 (by omega))); (try (have i_x3 := Imp.go x3 (by omega))); (try (have i_x3 := Imp.go x3 (by omega))); (try (have i_hz7 := Imp.go hz7 (by omega))); omega)
      · skip
        have f11 : 0 < ((V 0 8)).toInt := b_nle rfl (by decide) c9
        refine lv_iconst (v := 0) hx hb dX12_takeNumber_87 (by decide) ?_
        refine lv_goto (tgt := 103) hx hb dX12_takeNumber_88 (by decide) ?_
        have pq12 : (V8 0 7).toInt = z7.toInt := congrArg Int32.toInt (up2_s hV8)
        have pq13 : (V8 0 8).toInt = ((V 0 8)).toInt := congrArg Int32.toInt (up2_k hV8 (by decide))
        exact W.iret (v := 0) hx hb hr (fun t ht hW => ⟨⟨0, (V8, L), rfl, ⟨hMV8, agV8, rfl, (Imp.mk (fun hp => have hp : (V8 0 8).toInt = 0 := hp; (show 0 ≤ (V8 0 7).toInt ∧ (V8 0 7).toInt ≤ n ∧ (V 0 8).toInt = 0 ∧ (V 0 7).toInt ≤ (V8 0 7).toInt from by first | omega | ((try (have i_hz7 := Imp.go hz7 (by omega))); (try (have i_x3 := Imp.go x3 (by omega))); (try (have i_x3 := Imp.go x3 (by omega))); (try (have i_hz7 := Imp.go hz7 (by omega))); omega)))), (Imp.mk (fun hp => have hp : (V8 0 8).toInt = 0 := hp; (show p0.toInt ≤ 0 ∧ 0 ≤ p1.toInt from by first | omega | ((try (have i_hz7 := Imp.go hz7 (by omega))); (try (have i_x3 := Imp.go x3 (by omega))); (try (have i_x3 := Imp.go x3 (by omega))); (try (have i_hz7 := Imp.go hz7 (by omega))); omega)))), (Imp.mk (fun hp => have hp : (V8 0 8).toInt = 0 := hp; (show (V 0 7).toInt + 1 ≤ (V8 0 7).toInt from by first | omega | ((try (have i_hz7 := Imp.go hz7 (by omega))); (try (have i_x3 := Imp.go x3 (by omega))); (try (have i_x3 := Imp.go x3 (by omega))); (try (have i_hz7 := Imp.go hz7 (by omega))); omega)))), (Imp.mk (fun hp => have hp : p0.toInt ≤ 0 ∧ 0 ≤ p1.toInt := hp; (show p0.toInt ≤ 0 ∧ 0 ≤ p1.toInt from by first | exact om_a38752192ad4 hp.1 hp.2 | first | omega | ((try (have i_hz7 := Imp.go hz7 (by omega))); (try (have i_x3 := Imp.go x3 (by omega))); (try (have i_x3 := Imp.go x3 (by omega))); (try (have i_hz7 := Imp.go hz7 (by omega))); omega))))⟩, by rw [ht]; exact hP, va_K.moved hW.alike hK, hD⟩, hS.F ht⟩) hS.2.2 dX12_takeNumber_103
    · skip
      have f14 : ((V 0 8)).toInt = 0 := b_eq rfl (by decide) c4
      exfalso; first | exact om_0abcda13baee r1.1 f3 f14 | first | omega | ((try (have i_x3 := Imp.go x3 (by omega))); omega)
  · skip
    have f15 : ((V 0 8)).toInt = 0 := b_eq rfl (by decide) c2
    refine lv_aload_n hx hb dX12_takeNumber_7 rfl (lv_at hl 0 rfl) ?_
    refine va_get (D := D) (ci := 12) (v := .ref (ad 4)) (C := RX12) (T := TX12) (N := 100) hx hb hg inX12 hown hK hP 0 rfl rfl 4 (by decide) (hg _ w1710) (fun _ h9 => h9) rfl dX12_takeNumber_8 ?_
    refine lv_aload_n hx hb dX12_takeNumber_11 rfl (lv_at hl 0 rfl) ?_
    refine va_get (D := D) (ci := 12) (v := .int (V 0 7)) (C := RX12) (T := TX12) (N := 100) hx hb hg inX12 hown hK hP 0 rfl rfl 7 (by decide) (hg _ w1713) (fun _ h9 => h9) rfl dX12_takeNumber_12 ?_
    refine va_iald (D := D) (i := (V 0 7)) hx hb hK hP 2 1 rfl rfl (i_in (a := ((V 0 7)).toInt) rfl (by first | exact om_04c3762723a1 x2 ((Imp.go x3 (f15)).1) ((Imp.go x3 (f15)).2) | first | omega | ((try (have i_x3 := Imp.go x3 (by omega))); omega))) dX12_takeNumber_15 ?_
    have t16 := tok_ne (V := V) (x := (V 0 7)) (n := n) x1 (by first | omega | ((try (have i_x3 := Imp.go x3 (by omega))); omega))
    refine lv_iconst (v := 2) hx hb dX12_takeNumber_16 (by decide) ?_
    refine lv_icmp_eq (tgt := 28) hx hb dX12_takeNumber_17 (by decide) (fun c17 => ?_) (fun c17 => ?_)
    · skip
      have f18 : ((V 4 (Int32.toNatClampNeg (V 0 7)))).toInt = 2 := b_eq rfl (by decide) c17
      refine lv_aload_n hx hb dX12_takeNumber_28 rfl (lv_at hl 0 rfl) ?_
      refine va_get (D := D) (ci := 12) (v := .int (V 0 8)) (C := RX12) (T := TX12) (N := 100) hx hb hg inX12 hown hK hP 0 rfl rfl 8 (by decide) (hg _ w1714) (fun _ h9 => h9) rfl dX12_takeNumber_29 ?_
      refine lv_if_ne (tgt := 70) hx hb dX12_takeNumber_32 (by decide) (fun c19 => ?_) (fun c19 => ?_)
      · skip
        have f20 : ((V 0 8)).toInt ≠ 0 := b_neq rfl (by decide) c19
        exfalso; first | exact om_fb320d7600b7 r1.1 f15 f20 | first | omega | ((try (have i_t16 := Imp.go t16 (by omega))); (try (have i_x3 := Imp.go x3 (by omega))); (try (have i_x3 := Imp.go x3 (by omega))); (try (have i_t16 := Imp.go t16 (by omega))); omega)
      · skip
        have f21 : ((V 0 8)).toInt = 0 := b_eq rfl (by decide) c19
        refine lv_aload_n hx hb dX12_takeNumber_35 rfl (lv_at hl 0 rfl) ?_
        refine va_get (D := D) (ci := 12) (v := .ref (ad 6)) (C := RX12) (T := TX12) (N := 100) hx hb hg inX12 hown hK hP 0 rfl rfl 6 (by decide) (hg _ w1712) (fun _ h9 => h9) rfl dX12_takeNumber_36 ?_
        refine lv_aload_n hx hb dX12_takeNumber_39 rfl (lv_at hl 0 rfl) ?_
        refine va_get (D := D) (ci := 12) (v := .int (V 0 7)) (C := RX12) (T := TX12) (N := 100) hx hb hg inX12 hown hK hP 0 rfl rfl 7 (by decide) (hg _ w1713) (fun _ h9 => h9) rfl dX12_takeNumber_40 ?_
        refine va_lald (D := D) (i := (V 0 7)) hx hb hK hP 4 3 rfl rfl (i_in (a := ((V 0 7)).toInt) rfl (by first | exact om_04c3762723a1 x2 ((Imp.go x3 (f21)).1) ((Imp.go x3 (f21)).2) | first | omega | ((try (have i_t16 := Imp.go t16 (by omega))); (try (have i_x3 := Imp.go x3 (by omega))); (try (have i_x3 := Imp.go x3 (by omega))); (try (have i_t16 := Imp.go t16 (by omega))); omega))) dX12_takeNumber_43 ?_
        refine lv_iload_n hx hb dX12_takeNumber_44 rfl (lv_at hl 1 rfl) ?_
        refine lv_i2l hx hb dX12_takeNumber_45 rfl ?_
        refine lv_topl (fun w22 ew22 => ?_)
        have hw22 : w22.toInt = p0.toInt := i2l_f ew22 rfl
        refine W.lcmp hx hb dX12_takeNumber_46 ?_
        refine lv_topi (fun z23 ez23 => ?_)
        have hz23 := lcmp_f ez23
        refine lv_if_lt (tgt := 65) hx hb dX12_takeNumber_47 (by decide) (fun c24 => ?_) (fun c24 => ?_)
        · skip
          have f25 : z23.toInt < 0 := b_lt rfl (by decide) c24
          refine lv_aload_n hx hb dX12_takeNumber_65 rfl (lv_at hl 0 rfl) ?_
          refine lv_iconst (v := 4) hx hb dX12_takeNumber_66 (by decide) ?_
          have r26 : Int32.toInt 4 = 4 := by decide
          refine gA_void (gA_runV (As := [.int 4]) (rest := []) (ci := 12) (q0 := 0) hx hb hml hown hg hP hD hK hS hA hnw hgk (s_wrong l D ks H.size ad kk V L 4 (n) hMV (by decide) (show (V 4 (n)).toInt = 0 from by first | exact om_b66ba74381d5 x1 | first | omega | ((try (have i_t16 := Imp.go t16 (by omega))); (try (have i_x3 := Imp.go x3 (by omega))); (try (have i_x3 := Imp.go x3 (by omega))); (try (have i_t16 := Imp.go t16 (by omega))); omega)) (show (n) ≤ 4000 from by first | exact om_af64e361c991 x2 | first | omega | ((try (have i_t16 := Imp.go t16 (by omega))); (try (have i_x3 := Imp.go x3 (by omega))); (try (have i_x3 := Imp.go x3 (by omega))); (try (have i_t16 := Imp.go t16 (by omega))); omega)) (Imp.mk (fun hp => have hp : (V 0 8).toInt = 0 := hp; (show 0 ≤ (V 0 7).toInt ∧ (V 0 7).toInt ≤ (n) from by first | exact om_408b46baf51e ((Imp.go x3 (hp)).1) ((Imp.go x3 (hp)).2) | first | omega | ((try (have i_t16 := Imp.go t16 (by omega))); (try (have i_x3 := Imp.go x3 (by omega))); (try (have i_x3 := Imp.go x3 (by omega))); (try (have i_t16 := Imp.go t16 (by omega))); omega))))) w2035 w2037 w86 w172 w2038 rfl rfl hdV_yX12_wrong ⟨Nat.le_of_ble_eq_true rfl, Nat.le_of_ble_eq_true rfl⟩ rfl hl.1 rfl (Nat.le_of_ble_eq_true rfl) dX12_takeNumber_67 ⟨Nat.le_of_ble_eq_true rfl, Nat.le_of_ble_eq_true rfl⟩) hP hD hK hS hA (fun u28 H locs w29 hP hD hK hS => ?_)
          obtain ⟨V31, L32⟩ := u28
          obtain ⟨hMV31, ajV31, axL32, t30⟩ := w29
          have axL32 : L = L32 := Eq.symm axL32
          subst axL32
          have hP : va_P D vwCl (mw ad kk ks.1 V31 L) H := hP
          have hD : va_D A (mw ad kk ks.1 V31 L) := hD
          have hMV31 : rgd bM V31 := hMV31
          have ajV31 : agr [(0, 8)] [] V V31 := ajV31
          have agV31 : agr [(0, 7), (0, 8)] [] V V31 := agV.tr ajV31 (by decide) (by decide)
          have t30 : 1 ≤ (V31 0 8).toInt := t30
          have r33 : 0 ≤ ((V31 0 8)).toInt ∧ ((V31 0 8)).toInt ≤ 70000 := hMV31 0 8
          refine lv_aload_n hx hb dX12_takeNumber_70 rfl (lv_at hl 0 rfl) ?_
          refine lv_dup hx hb dX12_takeNumber_71 rfl ?_
          refine va_get (D := D) (ci := 12) (v := .int (V31 0 7)) (C := RX12) (T := TX12) (N := 100) hx hb hg inX12 hown hK hP 0 rfl rfl 7 (by decide) (hg _ w1713) (fun _ h9 => h9) rfl dX12_takeNumber_72 ?_
          refine g_top (v := (V 0 7)) (ajV31 0 7 rfl) ?_
          refine lv_iconst (v := 1) hx hb dX12_takeNumber_75 (by decide) ?_
          refine lv_iadd hx hb dX12_takeNumber_76 ?_
          have r34 := i_full (V 0 7)
          refine lv_topi (fun z35 ez35 => ?_)
          have hz35 : Imp (-2147483648 ≤ ((V 0 7)).toInt + 1 ∧ ((V 0 7)).toInt + 1 ≤ 2147483647) (z35.toInt = ((V 0 7)).toInt + 1) := Imp.mk (fun hp => i_add ez35 rfl (by decide) hp)
          refine va_put (D := D) (ci := 12) (v := .int z35) (ty := tyX12 7) (C := RX12) (T := TX12) (N := 100) hx hb hg inX12 tyX12 tyX12_ok nmX12 hown hK hP hD hS 0 rfl rfl 7 (by decide) (hg _ w1713) (fun _ h9 => h9) rfl (tyX12_ok 7 (by decide)) rfl rfl (Nat.le_of_ble_eq_true rfl) dX12_takeNumber_77 (fun H locs hP hD hS => ?_)
          obtain ⟨V36, hV36⟩ : ∃ z, z = up2 V31 0 7 z35 := ⟨_, rfl⟩
          have hP : va_P D vwCl (mw ad kk ks.1 V36 L) H := by rw [hV36]; exact hP
          have hD : va_D A (mw ad kk ks.1 V36 L) := by rw [hV36]; exact hD
          have hMV36 : rgd bM V36 := hMV31.put hV36 (i_full _)
          have agV36 : agr [(0, 7), (0, 8)] [] V V36 := agV31.up hV36 rfl
          refine lv_aload_n hx hb dX12_takeNumber_80 rfl (lv_at hl 0 rfl) ?_
          refine va_get (D := D) (ci := 12) (v := .int (V36 0 8)) (C := RX12) (T := TX12) (N := 100) hx hb hg inX12 hown hK hP 0 rfl rfl 8 (by decide) (hg _ w1714) (fun _ h9 => h9) rfl dX12_takeNumber_81 ?_
          refine g_top (v := (V31 0 8)) (up2_k hV36 (by decide)) ?_
          refine lv_if_le (tgt := 91) hx hb dX12_takeNumber_84 (by decide) (fun c37 => ?_) (fun c37 => ?_)
          · skip
            have f38 : ((V31 0 8)).toInt ≤ 0 := b_le rfl (by decide) c37
            exfalso; first | exact om_f4ec09d15507 t30 f38 | first | omega | ((try (have i_hz35 := Imp.go hz35 (by omega))); (try (have i_t16 := Imp.go t16 (by omega))); (try (have i_x3 := Imp.go x3 (by omega))); (try (have i_x3 := Imp.go x3 (by omega))); (try (have i_t16 := Imp.go t16 (by omega))); (try (have i_hz35 := Imp.go hz35 (by omega))); omega)
          · skip
            have f39 : 0 < ((V31 0 8)).toInt := b_nle rfl (by decide) c37
            refine lv_iconst (v := 0) hx hb dX12_takeNumber_87 (by decide) ?_
            refine lv_goto (tgt := 103) hx hb dX12_takeNumber_88 (by decide) ?_
            have pq40 : (V36 0 7).toInt = z35.toInt := congrArg Int32.toInt (up2_s hV36)
            have pq41 : (V36 0 8).toInt = ((V31 0 8)).toInt := congrArg Int32.toInt (up2_k hV36 (by decide))
            exact W.iret (v := 0) hx hb hr (fun t ht hW => ⟨⟨0, (V36, L), rfl, ⟨hMV36, agV36, rfl, (Imp.mk (fun hp => have hp : (V36 0 8).toInt = 0 := hp; (show 0 ≤ (V36 0 7).toInt ∧ (V36 0 7).toInt ≤ n ∧ (V 0 8).toInt = 0 ∧ (V 0 7).toInt ≤ (V36 0 7).toInt from by first | omega | ((try (have i_hz35 := Imp.go hz35 (by omega))); (try (have i_t16 := Imp.go t16 (by omega))); (try (have i_x3 := Imp.go x3 (by omega))); (try (have i_x3 := Imp.go x3 (by omega))); (try (have i_t16 := Imp.go t16 (by omega))); (try (have i_hz35 := Imp.go hz35 (by omega))); omega)))), (Imp.mk (fun hp => have hp : (V36 0 8).toInt = 0 := hp; (show p0.toInt ≤ 0 ∧ 0 ≤ p1.toInt from by first | omega | ((try (have i_hz35 := Imp.go hz35 (by omega))); (try (have i_t16 := Imp.go t16 (by omega))); (try (have i_x3 := Imp.go x3 (by omega))); (try (have i_x3 := Imp.go x3 (by omega))); (try (have i_t16 := Imp.go t16 (by omega))); (try (have i_hz35 := Imp.go hz35 (by omega))); omega)))), (Imp.mk (fun hp => have hp : (V36 0 8).toInt = 0 := hp; (show (V 0 7).toInt + 1 ≤ (V36 0 7).toInt from by first | omega | ((try (have i_hz35 := Imp.go hz35 (by omega))); (try (have i_t16 := Imp.go t16 (by omega))); (try (have i_x3 := Imp.go x3 (by omega))); (try (have i_x3 := Imp.go x3 (by omega))); (try (have i_t16 := Imp.go t16 (by omega))); (try (have i_hz35 := Imp.go hz35 (by omega))); omega)))), (Imp.mk (fun hp => have hp : p0.toInt ≤ 0 ∧ 0 ≤ p1.toInt := hp; (show p0.toInt ≤ 0 ∧ 0 ≤ p1.toInt from by first | exact om_a38752192ad4 hp.1 hp.2 | first | omega | ((try (have i_hz35 := Imp.go hz35 (by omega))); (try (have i_t16 := Imp.go t16 (by omega))); (try (have i_x3 := Imp.go x3 (by omega))); (try (have i_x3 := Imp.go x3 (by omega))); (try (have i_t16 := Imp.go t16 (by omega))); (try (have i_hz35 := Imp.go hz35 (by omega))); omega))))⟩, by rw [ht]; exact hP, va_K.moved hW.alike hK, hD⟩, hS.F ht⟩) hS.2.2 dX12_takeNumber_103
        · skip
          have f42 : 0 ≤ z23.toInt := b_nlt rfl (by decide) c24
          refine lv_aload_n hx hb dX12_takeNumber_50 rfl (lv_at hl 0 rfl) ?_
          refine va_get (D := D) (ci := 12) (v := .ref (ad 6)) (C := RX12) (T := TX12) (N := 100) hx hb hg inX12 hown hK hP 0 rfl rfl 6 (by decide) (hg _ w1712) (fun _ h9 => h9) rfl dX12_takeNumber_51 ?_
          refine lv_aload_n hx hb dX12_takeNumber_54 rfl (lv_at hl 0 rfl) ?_
          refine va_get (D := D) (ci := 12) (v := .int (V 0 7)) (C := RX12) (T := TX12) (N := 100) hx hb hg inX12 hown hK hP 0 rfl rfl 7 (by decide) (hg _ w1713) (fun _ h9 => h9) rfl dX12_takeNumber_55 ?_
          refine va_lald (D := D) (i := (V 0 7)) hx hb hK hP 4 3 rfl rfl (i_in (a := ((V 0 7)).toInt) rfl (by first | exact om_04c3762723a1 x2 ((Imp.go x3 (f21)).1) ((Imp.go x3 (f21)).2) | first | omega | ((try (have i_t16 := Imp.go t16 (by omega))); (try (have i_x3 := Imp.go x3 (by omega))); (try (have i_x3 := Imp.go x3 (by omega))); (try (have i_t16 := Imp.go t16 (by omega))); omega))) dX12_takeNumber_58 ?_
          refine lv_iload_n hx hb dX12_takeNumber_59 rfl (lv_at hl 2 rfl) ?_
          refine lv_i2l hx hb dX12_takeNumber_60 rfl ?_
          refine lv_topl (fun w43 ew43 => ?_)
          have hw43 : w43.toInt = p1.toInt := i2l_f ew43 rfl
          refine W.lcmp hx hb dX12_takeNumber_61 ?_
          refine lv_topi (fun z44 ez44 => ?_)
          have hz44 := lcmp_f ez44
          refine lv_if_le (tgt := 70) hx hb dX12_takeNumber_62 (by decide) (fun c45 => ?_) (fun c45 => ?_)
          · skip
            have f46 : z44.toInt ≤ 0 := b_le rfl (by decide) c45
            refine lv_aload_n hx hb dX12_takeNumber_70 rfl (lv_at hl 0 rfl) ?_
            refine lv_dup hx hb dX12_takeNumber_71 rfl ?_
            refine va_get (D := D) (ci := 12) (v := .int (V 0 7)) (C := RX12) (T := TX12) (N := 100) hx hb hg inX12 hown hK hP 0 rfl rfl 7 (by decide) (hg _ w1713) (fun _ h9 => h9) rfl dX12_takeNumber_72 ?_
            refine lv_iconst (v := 1) hx hb dX12_takeNumber_75 (by decide) ?_
            refine lv_iadd hx hb dX12_takeNumber_76 ?_
            have r47 := i_full (V 0 7)
            refine lv_topi (fun z48 ez48 => ?_)
            have hz48 : Imp (-2147483648 ≤ ((V 0 7)).toInt + 1 ∧ ((V 0 7)).toInt + 1 ≤ 2147483647) (z48.toInt = ((V 0 7)).toInt + 1) := Imp.mk (fun hp => i_add ez48 rfl (by decide) hp)
            refine va_put (D := D) (ci := 12) (v := .int z48) (ty := tyX12 7) (C := RX12) (T := TX12) (N := 100) hx hb hg inX12 tyX12 tyX12_ok nmX12 hown hK hP hD hS 0 rfl rfl 7 (by decide) (hg _ w1713) (fun _ h9 => h9) rfl (tyX12_ok 7 (by decide)) rfl rfl (Nat.le_of_ble_eq_true rfl) dX12_takeNumber_77 (fun H locs hP hD hS => ?_)
            obtain ⟨V49, hV49⟩ : ∃ z, z = up2 V 0 7 z48 := ⟨_, rfl⟩
            have hP : va_P D vwCl (mw ad kk ks.1 V49 L) H := by rw [hV49]; exact hP
            have hD : va_D A (mw ad kk ks.1 V49 L) := by rw [hV49]; exact hD
            have hMV49 : rgd bM V49 := hMV.put hV49 (i_full _)
            have agV49 : agr [(0, 7), (0, 8)] [] V V49 := agV.up hV49 rfl
            refine lv_aload_n hx hb dX12_takeNumber_80 rfl (lv_at hl 0 rfl) ?_
            refine va_get (D := D) (ci := 12) (v := .int (V49 0 8)) (C := RX12) (T := TX12) (N := 100) hx hb hg inX12 hown hK hP 0 rfl rfl 8 (by decide) (hg _ w1714) (fun _ h9 => h9) rfl dX12_takeNumber_81 ?_
            refine g_top (v := (V 0 8)) (up2_k hV49 (by decide)) ?_
            refine lv_if_le (tgt := 91) hx hb dX12_takeNumber_84 (by decide) (fun c50 => ?_) (fun c50 => ?_)
            · skip
              have f51 : ((V 0 8)).toInt ≤ 0 := b_le rfl (by decide) c50
              refine lv_aload_n hx hb dX12_takeNumber_91 rfl (lv_at hl 0 rfl) ?_
              refine va_get (D := D) (ci := 12) (v := .ref (ad 6)) (C := RX12) (T := TX12) (N := 100) hx hb hg inX12 hown hK hP 0 rfl rfl 6 (by decide) (hg _ w1712) (fun _ h9 => h9) rfl dX12_takeNumber_92 ?_
              refine lv_aload_n hx hb dX12_takeNumber_95 rfl (lv_at hl 0 rfl) ?_
              refine va_get (D := D) (ci := 12) (v := .int (V49 0 7)) (C := RX12) (T := TX12) (N := 100) hx hb hg inX12 hown hK hP 0 rfl rfl 7 (by decide) (hg _ w1713) (fun _ h9 => h9) rfl dX12_takeNumber_96 ?_
              refine g_top (v := z48) (up2_s hV49) ?_
              refine lv_iconst (v := 1) hx hb dX12_takeNumber_99 (by decide) ?_
              refine lv_isub hx hb dX12_takeNumber_100 ?_
              have r52 := i_full z48
              refine lv_topi (fun z53 ez53 => ?_)
              have hz53 : Imp (-2147483648 ≤ z48.toInt - 1 ∧ z48.toInt - 1 ≤ 2147483647) (z53.toInt = z48.toInt - 1) := Imp.mk (fun hp => i_sub ez53 rfl (by decide) hp)
              have q54 : z53 = (V 0 7) := Int32.toInt_inj.mp (by first | omega | ((try (have i_x3 := Imp.go x3 (f21))); omega) | ((try (have i_hz53 := Imp.go hz53 (by omega))); (try (have i_hz48 := Imp.go hz48 (by omega))); (try (have i_t16 := Imp.go t16 (by omega))); (try (have i_x3 := Imp.go x3 (by omega))); first | omega | ((try (have i_x3 := Imp.go x3 (by omega))); (try (have i_t16 := Imp.go t16 (by omega))); (try (have i_hz48 := Imp.go hz48 (by omega))); (try (have i_hz53 := Imp.go hz53 (by omega))); omega)))
              rw [q54]
              refine va_lald (D := D) (i := (V 0 7)) hx hb hK hP 4 3 rfl rfl (i_in (a := ((V 0 7)).toInt) rfl (by first | exact om_04c3762723a1 x2 ((Imp.go x3 (f21)).1) ((Imp.go x3 (f21)).2) | first | omega | ((try (have i_x3 := Imp.go x3 (f21))); omega) | ((try (have i_hz53 := Imp.go hz53 (by omega))); (try (have i_hz48 := Imp.go hz48 (by omega))); (try (have i_t16 := Imp.go t16 (by omega))); (try (have i_x3 := Imp.go x3 (by omega))); first | omega | ((try (have i_x3 := Imp.go x3 (by omega))); (try (have i_t16 := Imp.go t16 (by omega))); (try (have i_hz48 := Imp.go hz48 (by omega))); (try (have i_hz53 := Imp.go hz53 (by omega))); omega)))) dX12_takeNumber_101 ?_
              refine lv_l2i hx hb dX12_takeNumber_102 rfl ?_
              refine lv_topi (fun z55 ez55 => ?_)
              have hz55 := l2i_f ez55
              have pq56 : (V49 0 7).toInt = z48.toInt := congrArg Int32.toInt (up2_s hV49)
              have pq57 : (V49 0 8).toInt = ((V 0 8)).toInt := congrArg Int32.toInt (up2_k hV49 (by decide))
              exact W.iret (v := z55) hx hb hr (fun t ht hW => ⟨⟨z55, (V49, L), rfl, ⟨hMV49, agV49, rfl, (Imp.mk (fun hp => have hp : (V49 0 8).toInt = 0 := hp; (show 0 ≤ (V49 0 7).toInt ∧ (V49 0 7).toInt ≤ n ∧ (V 0 8).toInt = 0 ∧ (V 0 7).toInt ≤ (V49 0 7).toInt from by first | omega | ((try (have i_x3 := Imp.go x3 (f21))); omega) | ((try (have i_hz55 := Imp.go hz55 (by omega))); (try (have i_hz53 := Imp.go hz53 (by omega))); (try (have i_hz48 := Imp.go hz48 (by omega))); (try (have i_t16 := Imp.go t16 (by omega))); first | omega | ((try (have i_x3 := Imp.go x3 (by omega))); (try (have i_x3 := Imp.go x3 (by omega))); (try (have i_t16 := Imp.go t16 (by omega))); (try (have i_hz48 := Imp.go hz48 (by omega))); (try (have i_hz53 := Imp.go hz53 (by omega))); (try (have i_hz55 := Imp.go hz55 (by omega))); omega))))), (Imp.mk (fun hp => have hp : (V49 0 8).toInt = 0 := hp; (show p0.toInt ≤ z55.toInt ∧ z55.toInt ≤ p1.toInt from by first | omega | ((try (have i_x3 := Imp.go x3 (f21))); omega) | ((try (have i_hz55 := Imp.go hz55 (by omega))); (try (have i_hz53 := Imp.go hz53 (by omega))); (try (have i_hz48 := Imp.go hz48 (by omega))); (try (have i_t16 := Imp.go t16 (by omega))); first | omega | ((try (have i_x3 := Imp.go x3 (by omega))); (try (have i_x3 := Imp.go x3 (by omega))); (try (have i_t16 := Imp.go t16 (by omega))); (try (have i_hz48 := Imp.go hz48 (by omega))); (try (have i_hz53 := Imp.go hz53 (by omega))); (try (have i_hz55 := Imp.go hz55 (by omega))); omega))))), (Imp.mk (fun hp => have hp : (V49 0 8).toInt = 0 := hp; (show (V 0 7).toInt + 1 ≤ (V49 0 7).toInt from by first | omega | ((try (have i_x3 := Imp.go x3 (f21))); omega) | ((try (have i_hz55 := Imp.go hz55 (by omega))); (try (have i_hz53 := Imp.go hz53 (by omega))); (try (have i_hz48 := Imp.go hz48 (by omega))); (try (have i_t16 := Imp.go t16 (by omega))); first | omega | ((try (have i_x3 := Imp.go x3 (by omega))); (try (have i_x3 := Imp.go x3 (by omega))); (try (have i_t16 := Imp.go t16 (by omega))); (try (have i_hz48 := Imp.go hz48 (by omega))); (try (have i_hz53 := Imp.go hz53 (by omega))); (try (have i_hz55 := Imp.go hz55 (by omega))); omega))))), (Imp.mk (fun hp => have hp : p0.toInt ≤ 0 ∧ 0 ≤ p1.toInt := hp; (show p0.toInt ≤ z55.toInt ∧ z55.toInt ≤ p1.toInt from by first | omega | ((try (have i_x3 := Imp.go x3 (f21))); omega) | ((try (have i_hz55 := Imp.go hz55 (by omega))); (try (have i_hz53 := Imp.go hz53 (by omega))); (try (have i_hz48 := Imp.go hz48 (by omega))); (try (have i_t16 := Imp.go t16 (by omega))); first | omega | ((try (have i_x3 := Imp.go x3 (by omega))); (try (have i_x3 := Imp.go x3 (by omega))); (try (have i_t16 := Imp.go t16 (by omega))); (try (have i_hz48 := Imp.go hz48 (by omega))); (try (have i_hz53 := Imp.go hz53 (by omega))); (try (have i_hz55 := Imp.go hz55 (by omega))); omega)))))⟩, by rw [ht]; exact hP, va_K.moved hW.alike hK, hD⟩, hS.F ht⟩) hS.2.2 dX12_takeNumber_103
            · skip
              have f58 : 0 < ((V 0 8)).toInt := b_nle rfl (by decide) c50
              exfalso; first | exact om_bf2beb62232e f15 f58 | first | omega | ((try (have i_hz48 := Imp.go hz48 (by omega))); (try (have i_t16 := Imp.go t16 (by omega))); (try (have i_x3 := Imp.go x3 (by omega))); (try (have i_x3 := Imp.go x3 (by omega))); (try (have i_t16 := Imp.go t16 (by omega))); (try (have i_hz48 := Imp.go hz48 (by omega))); omega)
          · skip
            have f59 : 0 < z44.toInt := b_nle rfl (by decide) c45
            refine lv_aload_n hx hb dX12_takeNumber_65 rfl (lv_at hl 0 rfl) ?_
            refine lv_iconst (v := 4) hx hb dX12_takeNumber_66 (by decide) ?_
            have r60 : Int32.toInt 4 = 4 := by decide
            refine gA_void (gA_runV (As := [.int 4]) (rest := []) (ci := 12) (q0 := 0) hx hb hml hown hg hP hD hK hS hA hnw hgk (s_wrong l D ks H.size ad kk V L 4 (n) hMV (by decide) (show (V 4 (n)).toInt = 0 from by first | exact om_b66ba74381d5 x1 | first | omega | ((try (have i_t16 := Imp.go t16 (by omega))); (try (have i_x3 := Imp.go x3 (by omega))); (try (have i_x3 := Imp.go x3 (by omega))); (try (have i_t16 := Imp.go t16 (by omega))); omega)) (show (n) ≤ 4000 from by first | exact om_af64e361c991 x2 | first | omega | ((try (have i_t16 := Imp.go t16 (by omega))); (try (have i_x3 := Imp.go x3 (by omega))); (try (have i_x3 := Imp.go x3 (by omega))); (try (have i_t16 := Imp.go t16 (by omega))); omega)) (Imp.mk (fun hp => have hp : (V 0 8).toInt = 0 := hp; (show 0 ≤ (V 0 7).toInt ∧ (V 0 7).toInt ≤ (n) from by first | exact om_408b46baf51e ((Imp.go x3 (hp)).1) ((Imp.go x3 (hp)).2) | first | omega | ((try (have i_t16 := Imp.go t16 (by omega))); (try (have i_x3 := Imp.go x3 (by omega))); (try (have i_x3 := Imp.go x3 (by omega))); (try (have i_t16 := Imp.go t16 (by omega))); omega))))) w2035 w2037 w86 w172 w2038 rfl rfl hdV_yX12_wrong ⟨Nat.le_of_ble_eq_true rfl, Nat.le_of_ble_eq_true rfl⟩ rfl hl.1 rfl (Nat.le_of_ble_eq_true rfl) dX12_takeNumber_67 ⟨Nat.le_of_ble_eq_true rfl, Nat.le_of_ble_eq_true rfl⟩) hP hD hK hS hA (fun u62 H locs w63 hP hD hK hS => ?_)
            obtain ⟨V65, L66⟩ := u62
            obtain ⟨hMV65, ajV65, axL66, t64⟩ := w63
            have axL66 : L = L66 := Eq.symm axL66
            subst axL66
            have hP : va_P D vwCl (mw ad kk ks.1 V65 L) H := hP
            have hD : va_D A (mw ad kk ks.1 V65 L) := hD
            have hMV65 : rgd bM V65 := hMV65
            have ajV65 : agr [(0, 8)] [] V V65 := ajV65
            have agV65 : agr [(0, 7), (0, 8)] [] V V65 := agV.tr ajV65 (by decide) (by decide)
            have t64 : 1 ≤ (V65 0 8).toInt := t64
            have r67 : 0 ≤ ((V65 0 8)).toInt ∧ ((V65 0 8)).toInt ≤ 70000 := hMV65 0 8
            refine lv_aload_n hx hb dX12_takeNumber_70 rfl (lv_at hl 0 rfl) ?_
            refine lv_dup hx hb dX12_takeNumber_71 rfl ?_
            refine va_get (D := D) (ci := 12) (v := .int (V65 0 7)) (C := RX12) (T := TX12) (N := 100) hx hb hg inX12 hown hK hP 0 rfl rfl 7 (by decide) (hg _ w1713) (fun _ h9 => h9) rfl dX12_takeNumber_72 ?_
            refine g_top (v := (V 0 7)) (ajV65 0 7 rfl) ?_
            refine lv_iconst (v := 1) hx hb dX12_takeNumber_75 (by decide) ?_
            refine lv_iadd hx hb dX12_takeNumber_76 ?_
            have r68 := i_full (V 0 7)
            refine lv_topi (fun z69 ez69 => ?_)
            have hz69 : Imp (-2147483648 ≤ ((V 0 7)).toInt + 1 ∧ ((V 0 7)).toInt + 1 ≤ 2147483647) (z69.toInt = ((V 0 7)).toInt + 1) := Imp.mk (fun hp => i_add ez69 rfl (by decide) hp)
            refine va_put (D := D) (ci := 12) (v := .int z69) (ty := tyX12 7) (C := RX12) (T := TX12) (N := 100) hx hb hg inX12 tyX12 tyX12_ok nmX12 hown hK hP hD hS 0 rfl rfl 7 (by decide) (hg _ w1713) (fun _ h9 => h9) rfl (tyX12_ok 7 (by decide)) rfl rfl (Nat.le_of_ble_eq_true rfl) dX12_takeNumber_77 (fun H locs hP hD hS => ?_)
            obtain ⟨V70, hV70⟩ : ∃ z, z = up2 V65 0 7 z69 := ⟨_, rfl⟩
            have hP : va_P D vwCl (mw ad kk ks.1 V70 L) H := by rw [hV70]; exact hP
            have hD : va_D A (mw ad kk ks.1 V70 L) := by rw [hV70]; exact hD
            have hMV70 : rgd bM V70 := hMV65.put hV70 (i_full _)
            have agV70 : agr [(0, 7), (0, 8)] [] V V70 := agV65.up hV70 rfl
            refine lv_aload_n hx hb dX12_takeNumber_80 rfl (lv_at hl 0 rfl) ?_
            refine va_get (D := D) (ci := 12) (v := .int (V70 0 8)) (C := RX12) (T := TX12) (N := 100) hx hb hg inX12 hown hK hP 0 rfl rfl 8 (by decide) (hg _ w1714) (fun _ h9 => h9) rfl dX12_takeNumber_81 ?_
            refine g_top (v := (V65 0 8)) (up2_k hV70 (by decide)) ?_
            refine lv_if_le (tgt := 91) hx hb dX12_takeNumber_84 (by decide) (fun c71 => ?_) (fun c71 => ?_)
            · skip
              have f72 : ((V65 0 8)).toInt ≤ 0 := b_le rfl (by decide) c71
              exfalso; first | exact om_f4ec09d15507 t64 f72 | first | omega | ((try (have i_hz69 := Imp.go hz69 (by omega))); (try (have i_t16 := Imp.go t16 (by omega))); (try (have i_x3 := Imp.go x3 (by omega))); (try (have i_x3 := Imp.go x3 (by omega))); (try (have i_t16 := Imp.go t16 (by omega))); (try (have i_hz69 := Imp.go hz69 (by omega))); omega)
            · skip
              have f73 : 0 < ((V65 0 8)).toInt := b_nle rfl (by decide) c71
              refine lv_iconst (v := 0) hx hb dX12_takeNumber_87 (by decide) ?_
              refine lv_goto (tgt := 103) hx hb dX12_takeNumber_88 (by decide) ?_
              have pq74 : (V70 0 7).toInt = z69.toInt := congrArg Int32.toInt (up2_s hV70)
              have pq75 : (V70 0 8).toInt = ((V65 0 8)).toInt := congrArg Int32.toInt (up2_k hV70 (by decide))
              exact W.iret (v := 0) hx hb hr (fun t ht hW => ⟨⟨0, (V70, L), rfl, ⟨hMV70, agV70, rfl, (Imp.mk (fun hp => have hp : (V70 0 8).toInt = 0 := hp; (show 0 ≤ (V70 0 7).toInt ∧ (V70 0 7).toInt ≤ n ∧ (V 0 8).toInt = 0 ∧ (V 0 7).toInt ≤ (V70 0 7).toInt from by first | omega | ((try (have i_hz69 := Imp.go hz69 (by omega))); (try (have i_t16 := Imp.go t16 (by omega))); (try (have i_x3 := Imp.go x3 (by omega))); (try (have i_x3 := Imp.go x3 (by omega))); (try (have i_t16 := Imp.go t16 (by omega))); (try (have i_hz69 := Imp.go hz69 (by omega))); omega)))), (Imp.mk (fun hp => have hp : (V70 0 8).toInt = 0 := hp; (show p0.toInt ≤ 0 ∧ 0 ≤ p1.toInt from by first | omega | ((try (have i_hz69 := Imp.go hz69 (by omega))); (try (have i_t16 := Imp.go t16 (by omega))); (try (have i_x3 := Imp.go x3 (by omega))); (try (have i_x3 := Imp.go x3 (by omega))); (try (have i_t16 := Imp.go t16 (by omega))); (try (have i_hz69 := Imp.go hz69 (by omega))); omega)))), (Imp.mk (fun hp => have hp : (V70 0 8).toInt = 0 := hp; (show (V 0 7).toInt + 1 ≤ (V70 0 7).toInt from by first | omega | ((try (have i_hz69 := Imp.go hz69 (by omega))); (try (have i_t16 := Imp.go t16 (by omega))); (try (have i_x3 := Imp.go x3 (by omega))); (try (have i_x3 := Imp.go x3 (by omega))); (try (have i_t16 := Imp.go t16 (by omega))); (try (have i_hz69 := Imp.go hz69 (by omega))); omega)))), (Imp.mk (fun hp => have hp : p0.toInt ≤ 0 ∧ 0 ≤ p1.toInt := hp; (show p0.toInt ≤ 0 ∧ 0 ≤ p1.toInt from by first | exact om_a38752192ad4 hp.1 hp.2 | first | omega | ((try (have i_hz69 := Imp.go hz69 (by omega))); (try (have i_t16 := Imp.go t16 (by omega))); (try (have i_x3 := Imp.go x3 (by omega))); (try (have i_x3 := Imp.go x3 (by omega))); (try (have i_t16 := Imp.go t16 (by omega))); (try (have i_hz69 := Imp.go hz69 (by omega))); omega))))⟩, by rw [ht]; exact hP, va_K.moved hW.alike hK, hD⟩, hS.F ht⟩) hS.2.2 dX12_takeNumber_103
    · skip
      have f76 : ((V 4 (Int32.toNatClampNeg (V 0 7)))).toInt ≠ 2 := b_neq rfl (by decide) c17
      refine lv_aload_n hx hb dX12_takeNumber_20 rfl (lv_at hl 0 rfl) ?_
      refine lv_iconst (v := 1) hx hb dX12_takeNumber_21 (by decide) ?_
      have r77 : Int32.toInt 1 = 1 := by decide
      refine gA_void (gA_runV (As := [.int 1]) (rest := []) (ci := 12) (q0 := 0) hx hb hml hown hg hP hD hK hS hA hnw hgk (s_wrong l D ks H.size ad kk V L 1 (n) hMV (by decide) (show (V 4 (n)).toInt = 0 from by first | exact om_b66ba74381d5 x1 | first | omega | ((try (have i_t16 := Imp.go t16 (by omega))); (try (have i_x3 := Imp.go x3 (by omega))); (try (have i_x3 := Imp.go x3 (by omega))); (try (have i_t16 := Imp.go t16 (by omega))); omega)) (show (n) ≤ 4000 from by first | exact om_af64e361c991 x2 | first | omega | ((try (have i_t16 := Imp.go t16 (by omega))); (try (have i_x3 := Imp.go x3 (by omega))); (try (have i_x3 := Imp.go x3 (by omega))); (try (have i_t16 := Imp.go t16 (by omega))); omega)) (Imp.mk (fun hp => have hp : (V 0 8).toInt = 0 := hp; (show 0 ≤ (V 0 7).toInt ∧ (V 0 7).toInt ≤ (n) from by first | exact om_408b46baf51e ((Imp.go x3 (hp)).1) ((Imp.go x3 (hp)).2) | first | omega | ((try (have i_t16 := Imp.go t16 (by omega))); (try (have i_x3 := Imp.go x3 (by omega))); (try (have i_x3 := Imp.go x3 (by omega))); (try (have i_t16 := Imp.go t16 (by omega))); omega))))) w2035 w2037 w86 w172 w2038 rfl rfl hdV_yX12_wrong ⟨Nat.le_of_ble_eq_true rfl, Nat.le_of_ble_eq_true rfl⟩ rfl hl.1 rfl (Nat.le_of_ble_eq_true rfl) dX12_takeNumber_22 ⟨Nat.le_of_ble_eq_true rfl, Nat.le_of_ble_eq_true rfl⟩) hP hD hK hS hA (fun u79 H locs w80 hP hD hK hS => ?_)
      obtain ⟨V82, L83⟩ := u79
      obtain ⟨hMV82, ajV82, axL83, t81⟩ := w80
      have axL83 : L = L83 := Eq.symm axL83
      subst axL83
      have hP : va_P D vwCl (mw ad kk ks.1 V82 L) H := hP
      have hD : va_D A (mw ad kk ks.1 V82 L) := hD
      have hMV82 : rgd bM V82 := hMV82
      have ajV82 : agr [(0, 8)] [] V V82 := ajV82
      have agV82 : agr [(0, 7), (0, 8)] [] V V82 := agV.tr ajV82 (by decide) (by decide)
      have t81 : 1 ≤ (V82 0 8).toInt := t81
      have r84 : 0 ≤ ((V82 0 8)).toInt ∧ ((V82 0 8)).toInt ≤ 70000 := hMV82 0 8
      refine lv_goto (tgt := 70) hx hb dX12_takeNumber_25 (by decide) ?_
      refine lv_aload_n hx hb dX12_takeNumber_70 rfl (lv_at hl 0 rfl) ?_
      refine lv_dup hx hb dX12_takeNumber_71 rfl ?_
      refine va_get (D := D) (ci := 12) (v := .int (V82 0 7)) (C := RX12) (T := TX12) (N := 100) hx hb hg inX12 hown hK hP 0 rfl rfl 7 (by decide) (hg _ w1713) (fun _ h9 => h9) rfl dX12_takeNumber_72 ?_
      refine g_top (v := (V 0 7)) (ajV82 0 7 rfl) ?_
      refine lv_iconst (v := 1) hx hb dX12_takeNumber_75 (by decide) ?_
      refine lv_iadd hx hb dX12_takeNumber_76 ?_
      have r85 := i_full (V 0 7)
      refine lv_topi (fun z86 ez86 => ?_)
      have hz86 : Imp (-2147483648 ≤ ((V 0 7)).toInt + 1 ∧ ((V 0 7)).toInt + 1 ≤ 2147483647) (z86.toInt = ((V 0 7)).toInt + 1) := Imp.mk (fun hp => i_add ez86 rfl (by decide) hp)
      refine va_put (D := D) (ci := 12) (v := .int z86) (ty := tyX12 7) (C := RX12) (T := TX12) (N := 100) hx hb hg inX12 tyX12 tyX12_ok nmX12 hown hK hP hD hS 0 rfl rfl 7 (by decide) (hg _ w1713) (fun _ h9 => h9) rfl (tyX12_ok 7 (by decide)) rfl rfl (Nat.le_of_ble_eq_true rfl) dX12_takeNumber_77 (fun H locs hP hD hS => ?_)
      obtain ⟨V87, hV87⟩ : ∃ z, z = up2 V82 0 7 z86 := ⟨_, rfl⟩
      have hP : va_P D vwCl (mw ad kk ks.1 V87 L) H := by rw [hV87]; exact hP
      have hD : va_D A (mw ad kk ks.1 V87 L) := by rw [hV87]; exact hD
      have hMV87 : rgd bM V87 := hMV82.put hV87 (i_full _)
      have agV87 : agr [(0, 7), (0, 8)] [] V V87 := agV82.up hV87 rfl
      refine lv_aload_n hx hb dX12_takeNumber_80 rfl (lv_at hl 0 rfl) ?_
      refine va_get (D := D) (ci := 12) (v := .int (V87 0 8)) (C := RX12) (T := TX12) (N := 100) hx hb hg inX12 hown hK hP 0 rfl rfl 8 (by decide) (hg _ w1714) (fun _ h9 => h9) rfl dX12_takeNumber_81 ?_
      refine g_top (v := (V82 0 8)) (up2_k hV87 (by decide)) ?_
      refine lv_if_le (tgt := 91) hx hb dX12_takeNumber_84 (by decide) (fun c88 => ?_) (fun c88 => ?_)
      · skip
        have f89 : ((V82 0 8)).toInt ≤ 0 := b_le rfl (by decide) c88
        exfalso; first | exact om_f4ec09d15507 t81 f89 | first | omega | ((try (have i_hz86 := Imp.go hz86 (by omega))); (try (have i_t16 := Imp.go t16 (by omega))); (try (have i_x3 := Imp.go x3 (by omega))); (try (have i_x3 := Imp.go x3 (by omega))); (try (have i_t16 := Imp.go t16 (by omega))); (try (have i_hz86 := Imp.go hz86 (by omega))); omega)
      · skip
        have f90 : 0 < ((V82 0 8)).toInt := b_nle rfl (by decide) c88
        refine lv_iconst (v := 0) hx hb dX12_takeNumber_87 (by decide) ?_
        refine lv_goto (tgt := 103) hx hb dX12_takeNumber_88 (by decide) ?_
        have pq91 : (V87 0 7).toInt = z86.toInt := congrArg Int32.toInt (up2_s hV87)
        have pq92 : (V87 0 8).toInt = ((V82 0 8)).toInt := congrArg Int32.toInt (up2_k hV87 (by decide))
        exact W.iret (v := 0) hx hb hr (fun t ht hW => ⟨⟨0, (V87, L), rfl, ⟨hMV87, agV87, rfl, (Imp.mk (fun hp => have hp : (V87 0 8).toInt = 0 := hp; (show 0 ≤ (V87 0 7).toInt ∧ (V87 0 7).toInt ≤ n ∧ (V 0 8).toInt = 0 ∧ (V 0 7).toInt ≤ (V87 0 7).toInt from by first | omega | ((try (have i_hz86 := Imp.go hz86 (by omega))); (try (have i_t16 := Imp.go t16 (by omega))); (try (have i_x3 := Imp.go x3 (by omega))); (try (have i_x3 := Imp.go x3 (by omega))); (try (have i_t16 := Imp.go t16 (by omega))); (try (have i_hz86 := Imp.go hz86 (by omega))); omega)))), (Imp.mk (fun hp => have hp : (V87 0 8).toInt = 0 := hp; (show p0.toInt ≤ 0 ∧ 0 ≤ p1.toInt from by first | omega | ((try (have i_hz86 := Imp.go hz86 (by omega))); (try (have i_t16 := Imp.go t16 (by omega))); (try (have i_x3 := Imp.go x3 (by omega))); (try (have i_x3 := Imp.go x3 (by omega))); (try (have i_t16 := Imp.go t16 (by omega))); (try (have i_hz86 := Imp.go hz86 (by omega))); omega)))), (Imp.mk (fun hp => have hp : (V87 0 8).toInt = 0 := hp; (show (V 0 7).toInt + 1 ≤ (V87 0 7).toInt from by first | omega | ((try (have i_hz86 := Imp.go hz86 (by omega))); (try (have i_t16 := Imp.go t16 (by omega))); (try (have i_x3 := Imp.go x3 (by omega))); (try (have i_x3 := Imp.go x3 (by omega))); (try (have i_t16 := Imp.go t16 (by omega))); (try (have i_hz86 := Imp.go hz86 (by omega))); omega)))), (Imp.mk (fun hp => have hp : p0.toInt ≤ 0 ∧ 0 ≤ p1.toInt := hp; (show p0.toInt ≤ 0 ∧ 0 ≤ p1.toInt from by first | exact om_a38752192ad4 hp.1 hp.2 | first | omega | ((try (have i_hz86 := Imp.go hz86 (by omega))); (try (have i_t16 := Imp.go t16 (by omega))); (try (have i_x3 := Imp.go x3 (by omega))); (try (have i_x3 := Imp.go x3 (by omega))); (try (have i_t16 := Imp.go t16 (by omega))); (try (have i_hz86 := Imp.go hz86 (by omega))); omega))))⟩, by rw [ht]; exact hP, va_K.moved hW.alike hK, hD⟩, hS.F ht⟩) hS.2.2 dX12_takeNumber_103
abbrev r_s_toldComponent : Room := { frames := 96, cells := 0, slots := 0, locals := 2886 }
abbrev q_s_toldComponent (D : va_G) (ks : KS) (ad : Nat → Nat) (kk : Nat → ClassId) (V : Vf) (L : Lf) (n : Nat) (gc : Nat) (nx : Nat) (A : Nat → Prop) : Array Value → State → Outcome → State → Prop := va_Qv (fun (u : Vf × Lf) => rgd bM u.1 ∧ agr [(0, 7), (0, 8), (0, 48), (0, 50), (0, 51), (0, 52)] [15, 19, 20, 21, 22, 23, 24, 25, 26, 27, 28, 29, 30, 31, 32, 33, 34, 35, 36, 37, 38, 45, 46, 47, 53] V u.1 ∧ agL [15, 19, 20, 21, 22, 23, 24, 25, 26, 27, 28, 29, 30, 31, 32, 33, 34, 35, 36, 37, 38, 45, 46, 47, 53] L u.2 ∧ fr (tC gc nx) V u.1 ∧ (Imp ((u.1 0 8).toInt = 0) (0 ≤ (u.1 0 7).toInt ∧ (u.1 0 7).toInt ≤ n ∧ (V 0 8).toInt = 0 ∧ (V 0 7).toInt ≤ (u.1 0 7).toInt)) ∧ (Imp ((u.1 0 8).toInt = 0) ((V 0 7).toInt + 1 ≤ (u.1 0 7).toInt)) ∧ (Imp ((u.1 0 8).toInt = 0) ((u.1 0 48).toInt ≤ 2 * (u.1 0 7).toInt)) ∧ ((V 0 48).toInt ≤ (u.1 0 48).toInt) ∧ ((u.1 0 48).toInt ≤ 8200) ∧ (sameX V u.1 (pA V) (pE V)) ∧ (Imp ((u.1 0 8).toInt = 0) (TBL u.1 nx (pA u.1)))) (fun u t => gq D A (mw ad kk ks.1 u.1 u.2) (mty kk) t) A