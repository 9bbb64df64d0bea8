theorem dk9_dX12_inside_0_0 : dOk cX12_inside [(0, .iload 4, 2), (2, .istore 5, 2), (4, .aload_n 0, 1), (5, .iload_n 1, 1), (6, .iload_n 2, 1), (7, .iconst 0, 1), (8, .invokevirtual 542, 3), (11, .istore 6, 2), (13, .iconst 0, 1), (14, .istore 7, 2), (16, .iload 7, 2), (18, .iload 6, 2), (20, .if_icmp .ge 69, 3), (89, .aload_n 0, 1), (90, .getfield 107, 3), (93, .bipush 20, 2), (95, .bipush 24, 2), (97, .aload_n 0, 1), (98, .getfield 286, 3), (101, .imul, 1), (102, .aload_n 0, 1), (103, .getfield 164, 3), (106, .iload_n 1, 1), (107, .iaload, 1)] = true ∧ dOk cX12_inside [(108, .iadd, 1), (109, .imul, 1), (110, .iload_n 2, 1), (111, .iadd, 1), (112, .iaload, 1), (113, .istore 7, 2), (115, .iload 7, 2), (117, .ifCond .ge 10, 3), (127, .aload_n 0, 1), (128, .iconst 4, 1), (129, .iload_n 1, 1), (130, .iload 5, 2), (132, .invokevirtual 535, 3), (135, .aload_n 0, 1), (136, .iload 7, 2), (138, .iload_n 1, 1), (139, .iload_n 3, 1), (140, .iload 5, 2), (142, .iconst (-1), 1), (143, .invokevirtual 503, 3), (146, .istore 8, 2), (148, .aload_n 0, 1), (149, .iload_n 1, 1), (150, .iload_n 2, 1)] = true ∧ dOk cX12_inside [(151, .iconst 2, 1), (152, .invokevirtual 542, 3), (155, .istore 6, 2), (157, .iload 6, 2), (159, .iconst 1, 1), (160, .isub, 1), (161, .istore 9, 2), (163, .iload 9, 2), (165, .ifCond .lt 66, 3), (231, .iload 8, 2), (233, .ireturn, 1), (168, .iload 8, 2), (170, .ifCond .ne 61, 3), (173, .aload_n 0, 1), (174, .iload 9, 2), (176, .iload_n 1, 1), (177, .iload_n 2, 1), (178, .iconst 2, 1), (179, .invokevirtual 529, 3), (182, .istore 10, 2), (184, .aload_n 0, 1), (185, .getfield 545, 3), (188, .istore 5, 2), (190, .aload_n 0, 1)] = true ∧ dOk cX12_inside [(191, .iconst 2, 1), (192, .iload 10, 2), (194, .iload 5, 2), (196, .invokevirtual 535, 3), (199, .aload_n 0, 1), (200, .aload_n 0, 1), (201, .getfield 137, 3), (204, .bipush 12, 2), (206, .aload_n 0, 1), (207, .getfield 286, 3), (210, .imul, 1), (211, .iload 10, 2), (213, .iadd, 1), (214, .iaload, 1), (215, .iload_n 1, 1), (216, .iload_n 3, 1), (217, .iload 5, 2), (219, .iconst (-1), 1), (220, .invokevirtual 503, 3), (223, .istore 8, 2), (225, .iinc 9 (-1), 3), (228, .goto (-65), 3), (120, .aload_n 0, 1), (121, .bipush 11, 2)] = true ∧ dOk cX12_inside [(123, .invokevirtual 484, 3), (126, .ireturn, 1), (23, .aload_n 0, 1), (24, .iload 7, 2), (26, .iload_n 1, 1), (27, .iload_n 2, 1), (28, .iconst 0, 1), (29, .invokevirtual 529, 3), (32, .istore 8, 2), (34, .aload_n 0, 1), (35, .iconst 0, 1), (36, .iload 8, 2), (38, .iload 5, 2), (40, .invokevirtual 535, 3), (43, .aload_n 0, 1), (44, .aload_n 0, 1), (45, .getfield 137, 3), (48, .bipush 12, 2), (50, .aload_n 0, 1), (51, .getfield 286, 3), (54, .imul, 1), (55, .iload 8, 2), (57, .iadd, 1), (58, .iaload, 1)] = true ∧ dOk cX12_inside [(59, .iload_n 1, 1), (60, .iload_n 3, 1), (61, .iload 5, 2), (63, .iconst (-1), 1), (64, .invokevirtual 503, 3), (67, .istore 9, 2), (69, .iload 9, 2), (71, .ifCond .le 6, 3), (77, .aload_n 0, 1), (78, .getfield 545, 3), (81, .istore 5, 2), (83, .iinc 7 1, 3), (86, .goto (-70), 3), (74, .iload 9, 2), (76, .ireturn, 1)] = true := by decide +kernel
theorem dX12_inside_0 : decode cX12_inside 0 = .ok (.iload 4, 2) := dr9 dk9_dX12_inside_0_0.1 0 (0, .iload 4, 2) rfl
theorem dX12_inside_2 : decode cX12_inside 2 = .ok (.istore 5, 2) := dr9 dk9_dX12_inside_0_0.1 1 (2, .istore 5, 2) rfl
theorem dX12_inside_4 : decode cX12_inside 4 = .ok (.aload_n 0, 1) := dr9 dk9_dX12_inside_0_0.1 2 (4, .aload_n 0, 1) rfl
theorem dX12_inside_5 : decode cX12_inside 5 = .ok (.iload_n 1, 1) := dr9 dk9_dX12_inside_0_0.1 3 (5, .iload_n 1, 1) rfl
theorem dX12_inside_6 : decode cX12_inside 6 = .ok (.iload_n 2, 1) := dr9 dk9_dX12_inside_0_0.1 4 (6, .iload_n 2, 1) rfl
theorem dX12_inside_7 : decode cX12_inside 7 = .ok (.iconst 0, 1) := dr9 dk9_dX12_inside_0_0.1 5 (7, .iconst 0, 1) rfl
theorem dX12_inside_8 : decode cX12_inside 8 = .ok (.invokevirtual 542, 3) := dr9 dk9_dX12_inside_0_0.1 6 (8, .invokevirtual 542, 3) rfl
theorem dX12_inside_11 : decode cX12_inside 11 = .ok (.istore 6, 2) := dr9 dk9_dX12_inside_0_0.1 7 (11, .istore 6, 2) rfl
theorem dX12_inside_13 : decode cX12_inside 13 = .ok (.iconst 0, 1) := dr9 dk9_dX12_inside_0_0.1 8 (13, .iconst 0, 1) rfl
theorem dX12_inside_14 : decode cX12_inside 14 = .ok (.istore 7, 2) := dr9 dk9_dX12_inside_0_0.1 9 (14, .istore 7, 2) rfl
theorem dX12_inside_16 : decode cX12_inside 16 = .ok (.iload 7, 2) := dr9 dk9_dX12_inside_0_0.1 10 (16, .iload 7, 2) rfl
theorem dX12_inside_18 : decode cX12_inside 18 = .ok (.iload 6, 2) := dr9 dk9_dX12_inside_0_0.1 11 (18, .iload 6, 2) rfl
theorem dX12_inside_20 : decode cX12_inside 20 = .ok (.if_icmp .ge 69, 3) := dr9 dk9_dX12_inside_0_0.1 12 (20, .if_icmp .ge 69, 3) rfl
theorem dX12_inside_89 : decode cX12_inside 89 = .ok (.aload_n 0, 1) := dr9 dk9_dX12_inside_0_0.1 13 (89, .aload_n 0, 1) rfl
theorem dX12_inside_90 : decode cX12_inside 90 = .ok (.getfield 107, 3) := dr9 dk9_dX12_inside_0_0.1 14 (90, .getfield 107, 3) rfl
theorem dX12_inside_93 : decode cX12_inside 93 = .ok (.bipush 20, 2) := dr9 dk9_dX12_inside_0_0.1 15 (93, .bipush 20, 2) rfl
theorem dX12_inside_95 : decode cX12_inside 95 = .ok (.bipush 24, 2) := dr9 dk9_dX12_inside_0_0.1 16 (95, .bipush 24, 2) rfl
theorem dX12_inside_97 : decode cX12_inside 97 = .ok (.aload_n 0, 1) := dr9 dk9_dX12_inside_0_0.1 17 (97, .aload_n 0, 1) rfl
theorem dX12_inside_98 : decode cX12_inside 98 = .ok (.getfield 286, 3) := dr9 dk9_dX12_inside_0_0.1 18 (98, .getfield 286, 3) rfl
theorem dX12_inside_101 : decode cX12_inside 101 = .ok (.imul, 1) := dr9 dk9_dX12_inside_0_0.1 19 (101, .imul, 1) rfl
theorem dX12_inside_102 : decode cX12_inside 102 = .ok (.aload_n 0, 1) := dr9 dk9_dX12_inside_0_0.1 20 (102, .aload_n 0, 1) rfl
theorem dX12_inside_103 : decode cX12_inside 103 = .ok (.getfield 164, 3) := dr9 dk9_dX12_inside_0_0.1 21 (103, .getfield 164, 3) rfl
theorem dX12_inside_106 : decode cX12_inside 106 = .ok (.iload_n 1, 1) := dr9 dk9_dX12_inside_0_0.1 22 (106, .iload_n 1, 1) rfl
theorem dX12_inside_107 : decode cX12_inside 107 = .ok (.iaload, 1) := dr9 dk9_dX12_inside_0_0.1 23 (107, .iaload, 1) rfl
theorem dX12_inside_108 : decode cX12_inside 108 = .ok (.iadd, 1) := dr9 dk9_dX12_inside_0_0.2.1 0 (108, .iadd, 1) rfl
theorem dX12_inside_109 : decode cX12_inside 109 = .ok (.imul, 1) := dr9 dk9_dX12_inside_0_0.2.1 1 (109, .imul, 1) rfl
theorem dX12_inside_110 : decode cX12_inside 110 = .ok (.iload_n 2, 1) := dr9 dk9_dX12_inside_0_0.2.1 2 (110, .iload_n 2, 1) rfl
theorem dX12_inside_111 : decode cX12_inside 111 = .ok (.iadd, 1) := dr9 dk9_dX12_inside_0_0.2.1 3 (111, .iadd, 1) rfl
theorem dX12_inside_112 : decode cX12_inside 112 = .ok (.iaload, 1) := dr9 dk9_dX12_inside_0_0.2.1 4 (112, .iaload, 1) rfl
theorem dX12_inside_113 : decode cX12_inside 113 = .ok (.istore 7, 2) := dr9 dk9_dX12_inside_0_0.2.1 5 (113, .istore 7, 2) rfl
theorem dX12_inside_115 : decode cX12_inside 115 = .ok (.iload 7, 2) := dr9 dk9_dX12_inside_0_0.2.1 6 (115, .iload 7, 2) rfl
theorem dX12_inside_117 : decode cX12_inside 117 = .ok (.ifCond .ge 10, 3) := dr9 dk9_dX12_inside_0_0.2.1 7 (117, .ifCond .ge 10, 3) rfl
theorem dX12_inside_127 : decode cX12_inside 127 = .ok (.aload_n 0, 1) := dr9 dk9_dX12_inside_0_0.2.1 8 (127, .aload_n 0, 1) rfl
theorem dX12_inside_128 : decode cX12_inside 128 = .ok (.iconst 4, 1) := dr9 dk9_dX12_inside_0_0.2.1 9 (128, .iconst 4, 1) rfl
theorem dX12_inside_129 : decode cX12_inside 129 = .ok (.iload_n 1, 1) := dr9 dk9_dX12_inside_0_0.2.1 10 (129, .iload_n 1, 1) rfl
theorem dX12_inside_130 : decode cX12_inside 130 = .ok (.iload 5, 2) := dr9 dk9_dX12_inside_0_0.2.1 11 (130, .iload 5, 2) rfl
theorem dX12_inside_132 : decode cX12_inside 132 = .ok (.invokevirtual 535, 3) := dr9 dk9_dX12_inside_0_0.2.1 12 (132, .invokevirtual 535, 3) rfl
theorem dX12_inside_135 : decode cX12_inside 135 = .ok (.aload_n 0, 1) := dr9 dk9_dX12_inside_0_0.2.1 13 (135, .aload_n 0, 1) rfl
theorem dX12_inside_136 : decode cX12_inside 136 = .ok (.iload 7, 2) := dr9 dk9_dX12_inside_0_0.2.1 14 (136, .iload 7, 2) rfl
theorem dX12_inside_138 : decode cX12_inside 138 = .ok (.iload_n 1, 1) := dr9 dk9_dX12_inside_0_0.2.1 15 (138, .iload_n 1, 1) rfl
theorem dX12_inside_139 : decode cX12_inside 139 = .ok (.iload_n 3, 1) := dr9 dk9_dX12_inside_0_0.2.1 16 (139, .iload_n 3, 1) rfl
theorem dX12_inside_140 : decode cX12_inside 140 = .ok (.iload 5, 2) := dr9 dk9_dX12_inside_0_0.2.1 17 (140, .iload 5, 2) rfl
theorem dX12_inside_142 : decode cX12_inside 142 = .ok (.iconst (-1), 1) := dr9 dk9_dX12_inside_0_0.2.1 18 (142, .iconst (-1), 1) rfl
theorem dX12_inside_143 : decode cX12_inside 143 = .ok (.invokevirtual 503, 3) := dr9 dk9_dX12_inside_0_0.2.1 19 (143, .invokevirtual 503, 3) rfl
theorem dX12_inside_146 : decode cX12_inside 146 = .ok (.istore 8, 2) := dr9 dk9_dX12_inside_0_0.2.1 20 (146, .istore 8, 2) rfl
theorem dX12_inside_148 : decode cX12_inside 148 = .ok (.aload_n 0, 1) := dr9 dk9_dX12_inside_0_0.2.1 21 (148, .aload_n 0, 1) rfl
theorem dX12_inside_149 : decode cX12_inside 149 = .ok (.iload_n 1, 1) := dr9 dk9_dX12_inside_0_0.2.1 22 (149, .iload_n 1, 1) rfl
theorem dX12_inside_150 : decode cX12_inside 150 = .ok (.iload_n 2, 1) := dr9 dk9_dX12_inside_0_0.2.1 23 (150, .iload_n 2, 1) rfl
theorem dX12_inside_151 : decode cX12_inside 151 = .ok (.iconst 2, 1) := dr9 dk9_dX12_inside_0_0.2.2.1 0 (151, .iconst 2, 1) rfl
theorem dX12_inside_152 : decode cX12_inside 152 = .ok (.invokevirtual 542, 3) := dr9 dk9_dX12_inside_0_0.2.2.1 1 (152, .invokevirtual 542, 3) rfl
theorem dX12_inside_155 : decode cX12_inside 155 = .ok (.istore 6, 2) := dr9 dk9_dX12_inside_0_0.2.2.1 2 (155, .istore 6, 2) rfl
theorem dX12_inside_157 : decode cX12_inside 157 = .ok (.iload 6, 2) := dr9 dk9_dX12_inside_0_0.2.2.1 3 (157, .iload 6, 2) rfl
theorem dX12_inside_159 : decode cX12_inside 159 = .ok (.iconst 1, 1) := dr9 dk9_dX12_inside_0_0.2.2.1 4 (159, .iconst 1, 1) rfl
theorem dX12_inside_160 : decode cX12_inside 160 = .ok (.isub, 1) := dr9 dk9_dX12_inside_0_0.2.2.1 5 (160, .isub, 1) rfl
theorem dX12_inside_161 : decode cX12_inside 161 = .ok (.istore 9, 2) := dr9 dk9_dX12_inside_0_0.2.2.1 6 (161, .istore 9, 2) rfl
theorem dX12_inside_163 : decode cX12_inside 163 = .ok (.iload 9, 2) := dr9 dk9_dX12_inside_0_0.2.2.1 7 (163, .iload 9, 2) rfl
theorem dX12_inside_165 : decode cX12_inside 165 = .ok (.ifCond .lt 66, 3) := dr9 dk9_dX12_inside_0_0.2.2.1 8 (165, .ifCond .lt 66, 3) rfl
theorem dX12_inside_231 : decode cX12_inside 231 = .ok (.iload 8, 2) := dr9 dk9_dX12_inside_0_0.2.2.1 9 (231, .iload 8, 2) rfl
theorem dX12_inside_233 : decode cX12_inside 233 = .ok (.ireturn, 1) := dr9 dk9_dX12_inside_0_0.2.2.1 10 (233, .ireturn, 1) rfl
theorem dX12_inside_168 : decode cX12_inside 168 = .ok (.iload 8, 2) := dr9 dk9_dX12_inside_0_0.2.2.1 11 (168, .iload 8, 2) rfl
theorem dX12_inside_170 : decode cX12_inside 170 = .ok (.ifCond .ne 61, 3) := dr9 dk9_dX12_inside_0_0.2.2.1 12 (170, .ifCond .ne 61, 3) rfl
theorem dX12_inside_173 : decode cX12_inside 173 = .ok (.aload_n 0, 1) := dr9 dk9_dX12_inside_0_0.2.2.1 13 (173, .aload_n 0, 1) rfl
theorem dX12_inside_174 : decode cX12_inside 174 = .ok (.iload 9, 2) := dr9 dk9_dX12_inside_0_0.2.2.1 14 (174, .iload 9, 2) rfl
theorem dX12_inside_176 : decode cX12_inside 176 = .ok (.iload_n 1, 1) := dr9 dk9_dX12_inside_0_0.2.2.1 15 (176, .iload_n 1, 1) rfl
theorem dX12_inside_177 : decode cX12_inside 177 = .ok (.iload_n 2, 1) := dr9 dk9_dX12_inside_0_0.2.2.1 16 (177, .iload_n 2, 1) rfl
theorem dX12_inside_178 : decode cX12_inside 178 = .ok (.iconst 2, 1) := dr9 dk9_dX12_inside_0_0.2.2.1 17 (178, .iconst 2, 1) rfl
theorem dX12_inside_179 : decode cX12_inside 179 = .ok (.invokevirtual 529, 3) := dr9 dk9_dX12_inside_0_0.2.2.1 18 (179, .invokevirtual 529, 3) rfl
theorem dX12_inside_182 : decode cX12_inside 182 = .ok (.istore 10, 2) := dr9 dk9_dX12_inside_0_0.2.2.1 19 (182, .istore 10, 2) rfl
theorem dX12_inside_184 : decode cX12_inside 184 = .ok (.aload_n 0, 1) := dr9 dk9_dX12_inside_0_0.2.2.1 20 (184, .aload_n 0, 1) rfl
theorem dX12_inside_185 : decode cX12_inside 185 = .ok (.getfield 545, 3) := dr9 dk9_dX12_inside_0_0.2.2.1 21 (185, .getfield 545, 3) rfl
theorem dX12_inside_188 : decode cX12_inside 188 = .ok (.istore 5, 2) := dr9 dk9_dX12_inside_0_0.2.2.1 22 (188, .istore 5, 2) rfl
theorem dX12_inside_190 : decode cX12_inside 190 = .ok (.aload_n 0, 1) := dr9 dk9_dX12_inside_0_0.2.2.1 23 (190, .aload_n 0, 1) rfl
theorem dX12_inside_191 : decode cX12_inside 191 = .ok (.iconst 2, 1) := dr9 dk9_dX12_inside_0_0.2.2.2.1 0 (191, .iconst 2, 1) rfl
theorem dX12_inside_192 : decode cX12_inside 192 = .ok (.iload 10, 2) := dr9 dk9_dX12_inside_0_0.2.2.2.1 1 (192, .iload 10, 2) rfl
theorem dX12_inside_194 : decode cX12_inside 194 = .ok (.iload 5, 2) := dr9 dk9_dX12_inside_0_0.2.2.2.1 2 (194, .iload 5, 2) rfl
theorem dX12_inside_196 : decode cX12_inside 196 = .ok (.invokevirtual 535, 3) := dr9 dk9_dX12_inside_0_0.2.2.2.1 3 (196, .invokevirtual 535, 3) rfl
theorem dX12_inside_199 : decode cX12_inside 199 = .ok (.aload_n 0, 1) := dr9 dk9_dX12_inside_0_0.2.2.2.1 4 (199, .aload_n 0, 1) rfl
theorem dX12_inside_200 : decode cX12_inside 200 = .ok (.aload_n 0, 1) := dr9 dk9_dX12_inside_0_0.2.2.2.1 5 (200, .aload_n 0, 1) rfl
theorem dX12_inside_201 : decode cX12_inside 201 = .ok (.getfield 137, 3) := dr9 dk9_dX12_inside_0_0.2.2.2.1 6 (201, .getfield 137, 3) rfl
theorem dX12_inside_204 : decode cX12_inside 204 = .ok (.bipush 12, 2) := dr9 dk9_dX12_inside_0_0.2.2.2.1 7 (204, .bipush 12, 2) rfl
theorem dX12_inside_206 : decode cX12_inside 206 = .ok (.aload_n 0, 1) := dr9 dk9_dX12_inside_0_0.2.2.2.1 8 (206, .aload_n 0, 1) rfl
theorem dX12_inside_207 : decode cX12_inside 207 = .ok (.getfield 286, 3) := dr9 dk9_dX12_inside_0_0.2.2.2.1 9 (207, .getfield 286, 3) rfl
theorem dX12_inside_210 : decode cX12_inside 210 = .ok (.imul, 1) := dr9 dk9_dX12_inside_0_0.2.2.2.1 10 (210, .imul, 1) rfl
theorem dX12_inside_211 : decode cX12_inside 211 = .ok (.iload 10, 2) := dr9 dk9_dX12_inside_0_0.2.2.2.1 11 (211, .iload 10, 2) rfl
theorem dX12_inside_213 : decode cX12_inside 213 = .ok (.iadd, 1) := dr9 dk9_dX12_inside_0_0.2.2.2.1 12 (213, .iadd, 1) rfl
theorem dX12_inside_214 : decode cX12_inside 214 = .ok (.iaload, 1) := dr9 dk9_dX12_inside_0_0.2.2.2.1 13 (214, .iaload, 1) rfl
theorem dX12_inside_215 : decode cX12_inside 215 = .ok (.iload_n 1, 1) := dr9 dk9_dX12_inside_0_0.2.2.2.1 14 (215, .iload_n 1, 1) rfl
theorem dX12_inside_216 : decode cX12_inside 216 = .ok (.iload_n 3, 1) := dr9 dk9_dX12_inside_0_0.2.2.2.1 15 (216, .iload_n 3, 1) rfl
theorem dX12_inside_217 : decode cX12_inside 217 = .ok (.iload 5, 2) := dr9 dk9_dX12_inside_0_0.2.2.2.1 16 (217, .iload 5, 2) rfl
theorem dX12_inside_219 : decode cX12_inside 219 = .ok (.iconst (-1), 1) := dr9 dk9_dX12_inside_0_0.2.2.2.1 17 (219, .iconst (-1), 1) rfl
theorem dX12_inside_220 : decode cX12_inside 220 = .ok (.invokevirtual 503, 3) := dr9 dk9_dX12_inside_0_0.2.2.2.1 18 (220, .invokevirtual 503, 3) rfl
theorem dX12_inside_223 : decode cX12_inside 223 = .ok (.istore 8, 2) := dr9 dk9_dX12_inside_0_0.2.2.2.1 19 (223, .istore 8, 2) rfl
theorem dX12_inside_225 : decode cX12_inside 225 = .ok (.iinc 9 (-1), 3) := dr9 dk9_dX12_inside_0_0.2.2.2.1 20 (225, .iinc 9 (-1), 3) rfl
theorem dX12_inside_228 : decode cX12_inside 228 = .ok (.goto (-65), 3) := dr9 dk9_dX12_inside_0_0.2.2.2.1 21 (228, .goto (-65), 3) rfl
theorem dX12_inside_120 : decode cX12_inside 120 = .ok (.aload_n 0, 1) := dr9 dk9_dX12_inside_0_0.2.2.2.1 22 (120, .aload_n 0, 1) rfl
theorem dX12_inside_121 : decode cX12_inside 121 = .ok (.bipush 11, 2) := dr9 dk9_dX12_inside_0_0.2.2.2.1 23 (121, .bipush 11, 2) rfl
theorem dX12_inside_123 : decode cX12_inside 123 = .ok (.invokevirtual 484, 3) := dr9 dk9_dX12_inside_0_0.2.2.2.2.1 0 (123, .invokevirtual 484, 3) rfl
theorem dX12_inside_126 : decode cX12_inside 126 = .ok (.ireturn, 1) := dr9 dk9_dX12_inside_0_0.2.2.2.2.1 1 (126, .ireturn, 1) rfl
theorem dX12_inside_23 : decode cX12_inside 23 = .ok (.aload_n 0, 1) := dr9 dk9_dX12_inside_0_0.2.2.2.2.1 2 (23, .aload_n 0, 1) rfl
theorem dX12_inside_24 : decode cX12_inside 24 = .ok (.iload 7, 2) := dr9 dk9_dX12_inside_0_0.2.2.2.2.1 3 (24, .iload 7, 2) rfl
theorem dX12_inside_26 : decode cX12_inside 26 = .ok (.iload_n 1, 1) := dr9 dk9_dX12_inside_0_0.2.2.2.2.1 4 (26, .iload_n 1, 1) rfl
theorem dX12_inside_27 : decode cX12_inside 27 = .ok (.iload_n 2, 1) := dr9 dk9_dX12_inside_0_0.2.2.2.2.1 5 (27, .iload_n 2, 1) rfl
theorem dX12_inside_28 : decode cX12_inside 28 = .ok (.iconst 0, 1) := dr9 dk9_dX12_inside_0_0.2.2.2.2.1 6 (28, .iconst 0, 1) rfl
theorem dX12_inside_29 : decode cX12_inside 29 = .ok (.invokevirtual 529, 3) := dr9 dk9_dX12_inside_0_0.2.2.2.2.1 7 (29, .invokevirtual 529, 3) rfl
theorem dX12_inside_32 : decode cX12_inside 32 = .ok (.istore 8, 2) := dr9 dk9_dX12_inside_0_0.2.2.2.2.1 8 (32, .istore 8, 2) rfl
theorem dX12_inside_34 : decode cX12_inside 34 = .ok (.aload_n 0, 1) := dr9 dk9_dX12_inside_0_0.2.2.2.2.1 9 (34, .aload_n 0, 1) rfl
theorem dX12_inside_35 : decode cX12_inside 35 = .ok (.iconst 0, 1) := dr9 dk9_dX12_inside_0_0.2.2.2.2.1 10 (35, .iconst 0, 1) rfl
theorem dX12_inside_36 : decode cX12_inside 36 = .ok (.iload 8, 2) := dr9 dk9_dX12_inside_0_0.2.2.2.2.1 11 (36, .iload 8, 2) rfl
theorem dX12_inside_38 : decode cX12_inside 38 = .ok (.iload 5, 2) := dr9 dk9_dX12_inside_0_0.2.2.2.2.1 12 (38, .iload 5, 2) rfl
theorem dX12_inside_40 : decode cX12_inside 40 = .ok (.invokevirtual 535, 3) := dr9 dk9_dX12_inside_0_0.2.2.2.2.1 13 (40, .invokevirtual 535, 3) rfl
theorem dX12_inside_43 : decode cX12_inside 43 = .ok (.aload_n 0, 1) := dr9 dk9_dX12_inside_0_0.2.2.2.2.1 14 (43, .aload_n 0, 1) rfl
theorem dX12_inside_44 : decode cX12_inside 44 = .ok (.aload_n 0, 1) := dr9 dk9_dX12_inside_0_0.2.2.2.2.1 15 (44, .aload_n 0, 1) rfl
theorem dX12_inside_45 : decode cX12_inside 45 = .ok (.getfield 137, 3) := dr9 dk9_dX12_inside_0_0.2.2.2.2.1 16 (45, .getfield 137, 3) rfl
theorem dX12_inside_48 : decode cX12_inside 48 = .ok (.bipush 12, 2) := dr9 dk9_dX12_inside_0_0.2.2.2.2.1 17 (48, .bipush 12, 2) rfl
theorem dX12_inside_50 : decode cX12_inside 50 = .ok (.aload_n 0, 1) := dr9 dk9_dX12_inside_0_0.2.2.2.2.1 18 (50, .aload_n 0, 1) rfl
theorem dX12_inside_51 : decode cX12_inside 51 = .ok (.getfield 286, 3) := dr9 dk9_dX12_inside_0_0.2.2.2.2.1 19 (51, .getfield 286, 3) rfl
theorem dX12_inside_54 : decode cX12_inside 54 = .ok (.imul, 1) := dr9 dk9_dX12_inside_0_0.2.2.2.2.1 20 (54, .imul, 1) rfl
theorem dX12_inside_55 : decode cX12_inside 55 = .ok (.iload 8, 2) := dr9 dk9_dX12_inside_0_0.2.2.2.2.1 21 (55, .iload 8, 2) rfl
theorem dX12_inside_57 : decode cX12_inside 57 = .ok (.iadd, 1) := dr9 dk9_dX12_inside_0_0.2.2.2.2.1 22 (57, .iadd, 1) rfl
theorem dX12_inside_58 : decode cX12_inside 58 = .ok (.iaload, 1) := dr9 dk9_dX12_inside_0_0.2.2.2.2.1 23 (58, .iaload, 1) rfl
theorem dX12_inside_59 : decode cX12_inside 59 = .ok (.iload_n 1, 1) := dr9 dk9_dX12_inside_0_0.2.2.2.2.2 0 (59, .iload_n 1, 1) rfl
theorem dX12_inside_60 : decode cX12_inside 60 = .ok (.iload_n 3, 1) := dr9 dk9_dX12_inside_0_0.2.2.2.2.2 1 (60, .iload_n 3, 1) rfl
theorem dX12_inside_61 : decode cX12_inside 61 = .ok (.iload 5, 2) := dr9 dk9_dX12_inside_0_0.2.2.2.2.2 2 (61, .iload 5, 2) rfl
theorem dX12_inside_63 : decode cX12_inside 63 = .ok (.iconst (-1), 1) := dr9 dk9_dX12_inside_0_0.2.2.2.2.2 3 (63, .iconst (-1), 1) rfl
theorem dX12_inside_64 : decode cX12_inside 64 = .ok (.invokevirtual 503, 3) := dr9 dk9_dX12_inside_0_0.2.2.2.2.2 4 (64, .invokevirtual 503, 3) rfl
theorem dX12_inside_67 : decode cX12_inside 67 = .ok (.istore 9, 2) := dr9 dk9_dX12_inside_0_0.2.2.2.2.2 5 (67, .istore 9, 2) rfl
theorem dX12_inside_69 : decode cX12_inside 69 = .ok (.iload 9, 2) := dr9 dk9_dX12_inside_0_0.2.2.2.2.2 6 (69, .iload 9, 2) rfl
theorem dX12_inside_71 : decode cX12_inside 71 = .ok (.ifCond .le 6, 3) := dr9 dk9_dX12_inside_0_0.2.2.2.2.2 7 (71, .ifCond .le 6, 3) rfl
theorem dX12_inside_77 : decode cX12_inside 77 = .ok (.aload_n 0, 1) := dr9 dk9_dX12_inside_0_0.2.2.2.2.2 8 (77, .aload_n 0, 1) rfl
theorem dX12_inside_78 : decode cX12_inside 78 = .ok (.getfield 545, 3) := dr9 dk9_dX12_inside_0_0.2.2.2.2.2 9 (78, .getfield 545, 3) rfl
theorem dX12_inside_81 : decode cX12_inside 81 = .ok (.istore 5, 2) := dr9 dk9_dX12_inside_0_0.2.2.2.2.2 10 (81, .istore 5, 2) rfl
theorem dX12_inside_83 : decode cX12_inside 83 = .ok (.iinc 7 1, 3) := dr9 dk9_dX12_inside_0_0.2.2.2.2.2 11 (83, .iinc 7 1, 3) rfl
theorem dX12_inside_86 : decode cX12_inside 86 = .ok (.goto (-70), 3) := dr9 dk9_dX12_inside_0_0.2.2.2.2.2 12 (86, .goto (-70), 3) rfl
theorem dX12_inside_74 : decode cX12_inside 74 = .ok (.iload 9, 2) := dr9 dk9_dX12_inside_0_0.2.2.2.2.2 13 (74, .iload 9, 2) rfl
theorem dX12_inside_76 : decode cX12_inside 76 = .ok (.ireturn, 1) := dr9 dk9_dX12_inside_0_0.2.2.2.2.2 14 (76, .ireturn, 1) rfl