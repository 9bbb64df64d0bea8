theorem dk9_dX12_joinsAll_0_0 : dOk cX12_joinsAll [(0, .iconst 0, 1), (1, .istore 4, 2), (3, .iload 4, 2), (5, .aload_n 0, 1), (6, .getfield 86, 3), (9, .bipush 24, 2), (11, .aload_n 0, 1), (12, .getfield 286, 3), (15, .imul, 1), (16, .iload_n 2, 1), (17, .iadd, 1), (18, .iaload, 1), (19, .if_icmp .ge 154, 3), (173, .iconst 0, 1), (174, .ireturn, 1), (22, .bipush 8, 2), (24, .bipush 24, 2), (26, .aload_n 0, 1), (27, .getfield 286, 3), (30, .imul, 1), (31, .iload_n 2, 1), (32, .iadd, 1), (33, .imul, 1), (34, .iload 4, 2)] = true ∧ dOk cX12_joinsAll [(36, .iadd, 1), (37, .istore 5, 2), (39, .iconst 0, 1), (40, .istore 6, 2), (42, .iload 6, 2), (44, .aload_n 0, 1), (45, .getfield 62, 3), (48, .aload_n 0, 1), (49, .getfield 286, 3), (52, .iaload, 1), (53, .if_icmp .ge 114, 3), (167, .iinc 4 1, 3), (170, .goto (-167), 3), (56, .aload_n 0, 1), (57, .getfield 92, 3), (60, .iload 5, 2), (62, .baload, 1), (63, .ifCond .ne 104, 3), (66, .aload_n 0, 1), (67, .iload 5, 2), (69, .iload 6, 2), (71, .invokevirtual 465, 3), (74, .ifCond .ne 6, 3), (80, .aload_n 0, 1)] = true ∧ dOk cX12_joinsAll [(81, .iload 6, 2), (83, .iload_n 3, 1), (84, .invokevirtual 510, 3), (87, .istore 7, 2), (89, .iload 7, 2), (91, .iconst 1, 1), (92, .if_icmp .ne 13, 3), (105, .iload 7, 2), (107, .ifCond .le 6, 3), (113, .aload_n 0, 1), (114, .getfield 180, 3), (117, .bipush 24, 2), (119, .bipush 8, 2), (121, .iload_n 1, 1), (122, .imul, 1), (123, .iload 4, 2), (125, .iadd, 1), (126, .imul, 1), (127, .aload_n 0, 1), (128, .getfield 176, 3), (131, .bipush 8, 2), (133, .iload_n 1, 1), (134, .imul, 1), (135, .iload 4, 2)] = true ∧ dOk cX12_joinsAll [(137, .iadd, 1), (138, .iaload, 1), (139, .iadd, 1), (140, .aload_n 0, 1), (141, .getfield 490, 3), (144, .iastore, 1), (145, .aload_n 0, 1), (146, .getfield 176, 3), (149, .bipush 8, 2), (151, .iload_n 1, 1), (152, .imul, 1), (153, .iload 4, 2), (155, .iadd, 1), (156, .dup2, 1), (157, .iaload, 1), (158, .iconst 1, 1), (159, .iadd, 1), (160, .iastore, 1), (161, .iinc 6 1, 3), (164, .goto (-122), 3), (110, .iload 7, 2), (112, .ireturn, 1), (95, .aload_n 0, 1), (96, .dup, 1)] = true ∧ dOk cX12_joinsAll [(97, .getfield 471, 3), (100, .iconst 1, 1), (101, .iadd, 1), (102, .putfield 471, 3), (77, .goto 84, 3)] = true := by decide +kernel
theorem dX12_joinsAll_0 : decode cX12_joinsAll 0 = .ok (.iconst 0, 1) := dr9 dk9_dX12_joinsAll_0_0.1 0 (0, .iconst 0, 1) rfl
theorem dX12_joinsAll_1 : decode cX12_joinsAll 1 = .ok (.istore 4, 2) := dr9 dk9_dX12_joinsAll_0_0.1 1 (1, .istore 4, 2) rfl
theorem dX12_joinsAll_3 : decode cX12_joinsAll 3 = .ok (.iload 4, 2) := dr9 dk9_dX12_joinsAll_0_0.1 2 (3, .iload 4, 2) rfl
theorem dX12_joinsAll_5 : decode cX12_joinsAll 5 = .ok (.aload_n 0, 1) := dr9 dk9_dX12_joinsAll_0_0.1 3 (5, .aload_n 0, 1) rfl
theorem dX12_joinsAll_6 : decode cX12_joinsAll 6 = .ok (.getfield 86, 3) := dr9 dk9_dX12_joinsAll_0_0.1 4 (6, .getfield 86, 3) rfl
theorem dX12_joinsAll_9 : decode cX12_joinsAll 9 = .ok (.bipush 24, 2) := dr9 dk9_dX12_joinsAll_0_0.1 5 (9, .bipush 24, 2) rfl
theorem dX12_joinsAll_11 : decode cX12_joinsAll 11 = .ok (.aload_n 0, 1) := dr9 dk9_dX12_joinsAll_0_0.1 6 (11, .aload_n 0, 1) rfl
theorem dX12_joinsAll_12 : decode cX12_joinsAll 12 = .ok (.getfield 286, 3) := dr9 dk9_dX12_joinsAll_0_0.1 7 (12, .getfield 286, 3) rfl
theorem dX12_joinsAll_15 : decode cX12_joinsAll 15 = .ok (.imul, 1) := dr9 dk9_dX12_joinsAll_0_0.1 8 (15, .imul, 1) rfl
theorem dX12_joinsAll_16 : decode cX12_joinsAll 16 = .ok (.iload_n 2, 1) := dr9 dk9_dX12_joinsAll_0_0.1 9 (16, .iload_n 2, 1) rfl
theorem dX12_joinsAll_17 : decode cX12_joinsAll 17 = .ok (.iadd, 1) := dr9 dk9_dX12_joinsAll_0_0.1 10 (17, .iadd, 1) rfl
theorem dX12_joinsAll_18 : decode cX12_joinsAll 18 = .ok (.iaload, 1) := dr9 dk9_dX12_joinsAll_0_0.1 11 (18, .iaload, 1) rfl
theorem dX12_joinsAll_19 : decode cX12_joinsAll 19 = .ok (.if_icmp .ge 154, 3) := dr9 dk9_dX12_joinsAll_0_0.1 12 (19, .if_icmp .ge 154, 3) rfl
theorem dX12_joinsAll_173 : decode cX12_joinsAll 173 = .ok (.iconst 0, 1) := dr9 dk9_dX12_joinsAll_0_0.1 13 (173, .iconst 0, 1) rfl
theorem dX12_joinsAll_174 : decode cX12_joinsAll 174 = .ok (.ireturn, 1) := dr9 dk9_dX12_joinsAll_0_0.1 14 (174, .ireturn, 1) rfl
theorem dX12_joinsAll_22 : decode cX12_joinsAll 22 = .ok (.bipush 8, 2) := dr9 dk9_dX12_joinsAll_0_0.1 15 (22, .bipush 8, 2) rfl
theorem dX12_joinsAll_24 : decode cX12_joinsAll 24 = .ok (.bipush 24, 2) := dr9 dk9_dX12_joinsAll_0_0.1 16 (24, .bipush 24, 2) rfl
theorem dX12_joinsAll_26 : decode cX12_joinsAll 26 = .ok (.aload_n 0, 1) := dr9 dk9_dX12_joinsAll_0_0.1 17 (26, .aload_n 0, 1) rfl
theorem dX12_joinsAll_27 : decode cX12_joinsAll 27 = .ok (.getfield 286, 3) := dr9 dk9_dX12_joinsAll_0_0.1 18 (27, .getfield 286, 3) rfl
theorem dX12_joinsAll_30 : decode cX12_joinsAll 30 = .ok (.imul, 1) := dr9 dk9_dX12_joinsAll_0_0.1 19 (30, .imul, 1) rfl
theorem dX12_joinsAll_31 : decode cX12_joinsAll 31 = .ok (.iload_n 2, 1) := dr9 dk9_dX12_joinsAll_0_0.1 20 (31, .iload_n 2, 1) rfl
theorem dX12_joinsAll_32 : decode cX12_joinsAll 32 = .ok (.iadd, 1) := dr9 dk9_dX12_joinsAll_0_0.1 21 (32, .iadd, 1) rfl
theorem dX12_joinsAll_33 : decode cX12_joinsAll 33 = .ok (.imul, 1) := dr9 dk9_dX12_joinsAll_0_0.1 22 (33, .imul, 1) rfl
theorem dX12_joinsAll_34 : decode cX12_joinsAll 34 = .ok (.iload 4, 2) := dr9 dk9_dX12_joinsAll_0_0.1 23 (34, .iload 4, 2) rfl
theorem dX12_joinsAll_36 : decode cX12_joinsAll 36 = .ok (.iadd, 1) := dr9 dk9_dX12_joinsAll_0_0.2.1 0 (36, .iadd, 1) rfl
theorem dX12_joinsAll_37 : decode cX12_joinsAll 37 = .ok (.istore 5, 2) := dr9 dk9_dX12_joinsAll_0_0.2.1 1 (37, .istore 5, 2) rfl
theorem dX12_joinsAll_39 : decode cX12_joinsAll 39 = .ok (.iconst 0, 1) := dr9 dk9_dX12_joinsAll_0_0.2.1 2 (39, .iconst 0, 1) rfl
theorem dX12_joinsAll_40 : decode cX12_joinsAll 40 = .ok (.istore 6, 2) := dr9 dk9_dX12_joinsAll_0_0.2.1 3 (40, .istore 6, 2) rfl
theorem dX12_joinsAll_42 : decode cX12_joinsAll 42 = .ok (.iload 6, 2) := dr9 dk9_dX12_joinsAll_0_0.2.1 4 (42, .iload 6, 2) rfl
theorem dX12_joinsAll_44 : decode cX12_joinsAll 44 = .ok (.aload_n 0, 1) := dr9 dk9_dX12_joinsAll_0_0.2.1 5 (44, .aload_n 0, 1) rfl
theorem dX12_joinsAll_45 : decode cX12_joinsAll 45 = .ok (.getfield 62, 3) := dr9 dk9_dX12_joinsAll_0_0.2.1 6 (45, .getfield 62, 3) rfl
theorem dX12_joinsAll_48 : decode cX12_joinsAll 48 = .ok (.aload_n 0, 1) := dr9 dk9_dX12_joinsAll_0_0.2.1 7 (48, .aload_n 0, 1) rfl
theorem dX12_joinsAll_49 : decode cX12_joinsAll 49 = .ok (.getfield 286, 3) := dr9 dk9_dX12_joinsAll_0_0.2.1 8 (49, .getfield 286, 3) rfl
theorem dX12_joinsAll_52 : decode cX12_joinsAll 52 = .ok (.iaload, 1) := dr9 dk9_dX12_joinsAll_0_0.2.1 9 (52, .iaload, 1) rfl
theorem dX12_joinsAll_53 : decode cX12_joinsAll 53 = .ok (.if_icmp .ge 114, 3) := dr9 dk9_dX12_joinsAll_0_0.2.1 10 (53, .if_icmp .ge 114, 3) rfl
theorem dX12_joinsAll_167 : decode cX12_joinsAll 167 = .ok (.iinc 4 1, 3) := dr9 dk9_dX12_joinsAll_0_0.2.1 11 (167, .iinc 4 1, 3) rfl
theorem dX12_joinsAll_170 : decode cX12_joinsAll 170 = .ok (.goto (-167), 3) := dr9 dk9_dX12_joinsAll_0_0.2.1 12 (170, .goto (-167), 3) rfl
theorem dX12_joinsAll_56 : decode cX12_joinsAll 56 = .ok (.aload_n 0, 1) := dr9 dk9_dX12_joinsAll_0_0.2.1 13 (56, .aload_n 0, 1) rfl
theorem dX12_joinsAll_57 : decode cX12_joinsAll 57 = .ok (.getfield 92, 3) := dr9 dk9_dX12_joinsAll_0_0.2.1 14 (57, .getfield 92, 3) rfl
theorem dX12_joinsAll_60 : decode cX12_joinsAll 60 = .ok (.iload 5, 2) := dr9 dk9_dX12_joinsAll_0_0.2.1 15 (60, .iload 5, 2) rfl
theorem dX12_joinsAll_62 : decode cX12_joinsAll 62 = .ok (.baload, 1) := dr9 dk9_dX12_joinsAll_0_0.2.1 16 (62, .baload, 1) rfl
theorem dX12_joinsAll_63 : decode cX12_joinsAll 63 = .ok (.ifCond .ne 104, 3) := dr9 dk9_dX12_joinsAll_0_0.2.1 17 (63, .ifCond .ne 104, 3) rfl
theorem dX12_joinsAll_66 : decode cX12_joinsAll 66 = .ok (.aload_n 0, 1) := dr9 dk9_dX12_joinsAll_0_0.2.1 18 (66, .aload_n 0, 1) rfl
theorem dX12_joinsAll_67 : decode cX12_joinsAll 67 = .ok (.iload 5, 2) := dr9 dk9_dX12_joinsAll_0_0.2.1 19 (67, .iload 5, 2) rfl
theorem dX12_joinsAll_69 : decode cX12_joinsAll 69 = .ok (.iload 6, 2) := dr9 dk9_dX12_joinsAll_0_0.2.1 20 (69, .iload 6, 2) rfl
theorem dX12_joinsAll_71 : decode cX12_joinsAll 71 = .ok (.invokevirtual 465, 3) := dr9 dk9_dX12_joinsAll_0_0.2.1 21 (71, .invokevirtual 465, 3) rfl
theorem dX12_joinsAll_74 : decode cX12_joinsAll 74 = .ok (.ifCond .ne 6, 3) := dr9 dk9_dX12_joinsAll_0_0.2.1 22 (74, .ifCond .ne 6, 3) rfl
theorem dX12_joinsAll_80 : decode cX12_joinsAll 80 = .ok (.aload_n 0, 1) := dr9 dk9_dX12_joinsAll_0_0.2.1 23 (80, .aload_n 0, 1) rfl
theorem dX12_joinsAll_81 : decode cX12_joinsAll 81 = .ok (.iload 6, 2) := dr9 dk9_dX12_joinsAll_0_0.2.2.1 0 (81, .iload 6, 2) rfl
theorem dX12_joinsAll_83 : decode cX12_joinsAll 83 = .ok (.iload_n 3, 1) := dr9 dk9_dX12_joinsAll_0_0.2.2.1 1 (83, .iload_n 3, 1) rfl
theorem dX12_joinsAll_84 : decode cX12_joinsAll 84 = .ok (.invokevirtual 510, 3) := dr9 dk9_dX12_joinsAll_0_0.2.2.1 2 (84, .invokevirtual 510, 3) rfl
theorem dX12_joinsAll_87 : decode cX12_joinsAll 87 = .ok (.istore 7, 2) := dr9 dk9_dX12_joinsAll_0_0.2.2.1 3 (87, .istore 7, 2) rfl
theorem dX12_joinsAll_89 : decode cX12_joinsAll 89 = .ok (.iload 7, 2) := dr9 dk9_dX12_joinsAll_0_0.2.2.1 4 (89, .iload 7, 2) rfl
theorem dX12_joinsAll_91 : decode cX12_joinsAll 91 = .ok (.iconst 1, 1) := dr9 dk9_dX12_joinsAll_0_0.2.2.1 5 (91, .iconst 1, 1) rfl
theorem dX12_joinsAll_92 : decode cX12_joinsAll 92 = .ok (.if_icmp .ne 13, 3) := dr9 dk9_dX12_joinsAll_0_0.2.2.1 6 (92, .if_icmp .ne 13, 3) rfl
theorem dX12_joinsAll_105 : decode cX12_joinsAll 105 = .ok (.iload 7, 2) := dr9 dk9_dX12_joinsAll_0_0.2.2.1 7 (105, .iload 7, 2) rfl
theorem dX12_joinsAll_107 : decode cX12_joinsAll 107 = .ok (.ifCond .le 6, 3) := dr9 dk9_dX12_joinsAll_0_0.2.2.1 8 (107, .ifCond .le 6, 3) rfl
theorem dX12_joinsAll_113 : decode cX12_joinsAll 113 = .ok (.aload_n 0, 1) := dr9 dk9_dX12_joinsAll_0_0.2.2.1 9 (113, .aload_n 0, 1) rfl
theorem dX12_joinsAll_114 : decode cX12_joinsAll 114 = .ok (.getfield 180, 3) := dr9 dk9_dX12_joinsAll_0_0.2.2.1 10 (114, .getfield 180, 3) rfl
theorem dX12_joinsAll_117 : decode cX12_joinsAll 117 = .ok (.bipush 24, 2) := dr9 dk9_dX12_joinsAll_0_0.2.2.1 11 (117, .bipush 24, 2) rfl
theorem dX12_joinsAll_119 : decode cX12_joinsAll 119 = .ok (.bipush 8, 2) := dr9 dk9_dX12_joinsAll_0_0.2.2.1 12 (119, .bipush 8, 2) rfl
theorem dX12_joinsAll_121 : decode cX12_joinsAll 121 = .ok (.iload_n 1, 1) := dr9 dk9_dX12_joinsAll_0_0.2.2.1 13 (121, .iload_n 1, 1) rfl
theorem dX12_joinsAll_122 : decode cX12_joinsAll 122 = .ok (.imul, 1) := dr9 dk9_dX12_joinsAll_0_0.2.2.1 14 (122, .imul, 1) rfl
theorem dX12_joinsAll_123 : decode cX12_joinsAll 123 = .ok (.iload 4, 2) := dr9 dk9_dX12_joinsAll_0_0.2.2.1 15 (123, .iload 4, 2) rfl
theorem dX12_joinsAll_125 : decode cX12_joinsAll 125 = .ok (.iadd, 1) := dr9 dk9_dX12_joinsAll_0_0.2.2.1 16 (125, .iadd, 1) rfl
theorem dX12_joinsAll_126 : decode cX12_joinsAll 126 = .ok (.imul, 1) := dr9 dk9_dX12_joinsAll_0_0.2.2.1 17 (126, .imul, 1) rfl
theorem dX12_joinsAll_127 : decode cX12_joinsAll 127 = .ok (.aload_n 0, 1) := dr9 dk9_dX12_joinsAll_0_0.2.2.1 18 (127, .aload_n 0, 1) rfl
theorem dX12_joinsAll_128 : decode cX12_joinsAll 128 = .ok (.getfield 176, 3) := dr9 dk9_dX12_joinsAll_0_0.2.2.1 19 (128, .getfield 176, 3) rfl
theorem dX12_joinsAll_131 : decode cX12_joinsAll 131 = .ok (.bipush 8, 2) := dr9 dk9_dX12_joinsAll_0_0.2.2.1 20 (131, .bipush 8, 2) rfl
theorem dX12_joinsAll_133 : decode cX12_joinsAll 133 = .ok (.iload_n 1, 1) := dr9 dk9_dX12_joinsAll_0_0.2.2.1 21 (133, .iload_n 1, 1) rfl
theorem dX12_joinsAll_134 : decode cX12_joinsAll 134 = .ok (.imul, 1) := dr9 dk9_dX12_joinsAll_0_0.2.2.1 22 (134, .imul, 1) rfl
theorem dX12_joinsAll_135 : decode cX12_joinsAll 135 = .ok (.iload 4, 2) := dr9 dk9_dX12_joinsAll_0_0.2.2.1 23 (135, .iload 4, 2) rfl
theorem dX12_joinsAll_137 : decode cX12_joinsAll 137 = .ok (.iadd, 1) := dr9 dk9_dX12_joinsAll_0_0.2.2.2.1 0 (137, .iadd, 1) rfl
theorem dX12_joinsAll_138 : decode cX12_joinsAll 138 = .ok (.iaload, 1) := dr9 dk9_dX12_joinsAll_0_0.2.2.2.1 1 (138, .iaload, 1) rfl
theorem dX12_joinsAll_139 : decode cX12_joinsAll 139 = .ok (.iadd, 1) := dr9 dk9_dX12_joinsAll_0_0.2.2.2.1 2 (139, .iadd, 1) rfl
theorem dX12_joinsAll_140 : decode cX12_joinsAll 140 = .ok (.aload_n 0, 1) := dr9 dk9_dX12_joinsAll_0_0.2.2.2.1 3 (140, .aload_n 0, 1) rfl
theorem dX12_joinsAll_141 : decode cX12_joinsAll 141 = .ok (.getfield 490, 3) := dr9 dk9_dX12_joinsAll_0_0.2.2.2.1 4 (141, .getfield 490, 3) rfl
theorem dX12_joinsAll_144 : decode cX12_joinsAll 144 = .ok (.iastore, 1) := dr9 dk9_dX12_joinsAll_0_0.2.2.2.1 5 (144, .iastore, 1) rfl
theorem dX12_joinsAll_145 : decode cX12_joinsAll 145 = .ok (.aload_n 0, 1) := dr9 dk9_dX12_joinsAll_0_0.2.2.2.1 6 (145, .aload_n 0, 1) rfl
theorem dX12_joinsAll_146 : decode cX12_joinsAll 146 = .ok (.getfield 176, 3) := dr9 dk9_dX12_joinsAll_0_0.2.2.2.1 7 (146, .getfield 176, 3) rfl
theorem dX12_joinsAll_149 : decode cX12_joinsAll 149 = .ok (.bipush 8, 2) := dr9 dk9_dX12_joinsAll_0_0.2.2.2.1 8 (149, .bipush 8, 2) rfl
theorem dX12_joinsAll_151 : decode cX12_joinsAll 151 = .ok (.iload_n 1, 1) := dr9 dk9_dX12_joinsAll_0_0.2.2.2.1 9 (151, .iload_n 1, 1) rfl
theorem dX12_joinsAll_152 : decode cX12_joinsAll 152 = .ok (.imul, 1) := dr9 dk9_dX12_joinsAll_0_0.2.2.2.1 10 (152, .imul, 1) rfl
theorem dX12_joinsAll_153 : decode cX12_joinsAll 153 = .ok (.iload 4, 2) := dr9 dk9_dX12_joinsAll_0_0.2.2.2.1 11 (153, .iload 4, 2) rfl
theorem dX12_joinsAll_155 : decode cX12_joinsAll 155 = .ok (.iadd, 1) := dr9 dk9_dX12_joinsAll_0_0.2.2.2.1 12 (155, .iadd, 1) rfl
theorem dX12_joinsAll_156 : decode cX12_joinsAll 156 = .ok (.dup2, 1) := dr9 dk9_dX12_joinsAll_0_0.2.2.2.1 13 (156, .dup2, 1) rfl
theorem dX12_joinsAll_157 : decode cX12_joinsAll 157 = .ok (.iaload, 1) := dr9 dk9_dX12_joinsAll_0_0.2.2.2.1 14 (157, .iaload, 1) rfl
theorem dX12_joinsAll_158 : decode cX12_joinsAll 158 = .ok (.iconst 1, 1) := dr9 dk9_dX12_joinsAll_0_0.2.2.2.1 15 (158, .iconst 1, 1) rfl
theorem dX12_joinsAll_159 : decode cX12_joinsAll 159 = .ok (.iadd, 1) := dr9 dk9_dX12_joinsAll_0_0.2.2.2.1 16 (159, .iadd, 1) rfl
theorem dX12_joinsAll_160 : decode cX12_joinsAll 160 = .ok (.iastore, 1) := dr9 dk9_dX12_joinsAll_0_0.2.2.2.1 17 (160, .iastore, 1) rfl
theorem dX12_joinsAll_161 : decode cX12_joinsAll 161 = .ok (.iinc 6 1, 3) := dr9 dk9_dX12_joinsAll_0_0.2.2.2.1 18 (161, .iinc 6 1, 3) rfl
theorem dX12_joinsAll_164 : decode cX12_joinsAll 164 = .ok (.goto (-122), 3) := dr9 dk9_dX12_joinsAll_0_0.2.2.2.1 19 (164, .goto (-122), 3) rfl
theorem dX12_joinsAll_110 : decode cX12_joinsAll 110 = .ok (.iload 7, 2) := dr9 dk9_dX12_joinsAll_0_0.2.2.2.1 20 (110, .iload 7, 2) rfl
theorem dX12_joinsAll_112 : decode cX12_joinsAll 112 = .ok (.ireturn, 1) := dr9 dk9_dX12_joinsAll_0_0.2.2.2.1 21 (112, .ireturn, 1) rfl
theorem dX12_joinsAll_95 : decode cX12_joinsAll 95 = .ok (.aload_n 0, 1) := dr9 dk9_dX12_joinsAll_0_0.2.2.2.1 22 (95, .aload_n 0, 1) rfl
theorem dX12_joinsAll_96 : decode cX12_joinsAll 96 = .ok (.dup, 1) := dr9 dk9_dX12_joinsAll_0_0.2.2.2.1 23 (96, .dup, 1) rfl
theorem dX12_joinsAll_97 : decode cX12_joinsAll 97 = .ok (.getfield 471, 3) := dr9 dk9_dX12_joinsAll_0_0.2.2.2.2 0 (97, .getfield 471, 3) rfl
theorem dX12_joinsAll_100 : decode cX12_joinsAll 100 = .ok (.iconst 1, 1) := dr9 dk9_dX12_joinsAll_0_0.2.2.2.2 1 (100, .iconst 1, 1) rfl
theorem dX12_joinsAll_101 : decode cX12_joinsAll 101 = .ok (.iadd, 1) := dr9 dk9_dX12_joinsAll_0_0.2.2.2.2 2 (101, .iadd, 1) rfl
theorem dX12_joinsAll_102 : decode cX12_joinsAll 102 = .ok (.putfield 471, 3) := dr9 dk9_dX12_joinsAll_0_0.2.2.2.2 3 (102, .putfield 471, 3) rfl
theorem dX12_joinsAll_77 : decode cX12_joinsAll 77 = .ok (.goto 84, 3) := dr9 dk9_dX12_joinsAll_0_0.2.2.2.2 4 (77, .goto 84, 3) rfl