theorem w1793 : Cond.fieldLink RX12 216 "WiringHouseModel" "visit" "[I" ∈ GW := gw_k tk9_7 198 (by decide +kernel) rfl
theorem w2194 : Cond.code yX12_isCandidate cX12_isCandidate 6 (some .boolean) ∈ GW := gw_k tk9_9 119 (rfl) rfl
theorem w2191 : Cond.methodLink RX12 465 yX12_isCandidate ∈ GW := gw_k tk9_9 116 (by decide +kernel) rfl
theorem w2193 : Cond.instanceMethod yX12_isCandidate ∈ GW := gw_k tk9_9 118 (by decide +kernel) rfl
theorem w123 : Cond.selects RX12 yX12_isCandidate yX12_isCandidate ∈ GW := gw_mem 123 (by decide +kernel) rfl
theorem hdV_yX12_isCandidate : yX12_isCandidate.cls = RX12 ∧ yX12_isCandidate.cls ≠ "java/lang/invoke/MethodHandle" ∧ yX12_isCandidate.cls ≠ "java/lang/invoke/VarHandle" ∧ (parseMethodDescriptor yX12_isCandidate.desc).map (fun d => d.parameters.length) = some 2 := by decide +kernel
theorem w2190 : Cond.code yX12_visits cX12_visits 5 none ∈ GW := gw_k tk9_9 115 (rfl) rfl
theorem w2187 : Cond.methodLink RX12 452 yX12_visits ∈ GW := gw_k tk9_9 112 (by decide +kernel) rfl
theorem w2189 : Cond.instanceMethod yX12_visits ∈ GW := gw_k tk9_9 114 (by decide +kernel) rfl
theorem w122 : Cond.selects RX12 yX12_visits yX12_visits ∈ GW := gw_mem 122 (by decide +kernel) rfl
theorem hdV_yX12_visits : yX12_visits.cls = RX12 ∧ yX12_visits.cls ≠ "java/lang/invoke/MethodHandle" ∧ yX12_visits.cls ≠ "java/lang/invoke/VarHandle" ∧ (parseMethodDescriptor yX12_visits.desc).map (fun d => d.parameters.length) = some 1 := by decide +kernel
theorem w2198 : Cond.code yX12_addCycle cX12_addCycle 4 none ∈ GW := gw_k tk9_9 123 (rfl) rfl
theorem w2195 : Cond.methodLink RX12 468 yX12_addCycle ∈ GW := gw_k tk9_9 120 (by decide +kernel) rfl
theorem w2197 : Cond.instanceMethod yX12_addCycle ∈ GW := gw_k tk9_9 122 (by decide +kernel) rfl
theorem w124 : Cond.selects RX12 yX12_addCycle yX12_addCycle ∈ GW := gw_mem 124 (by decide +kernel) rfl
theorem hdV_yX12_addCycle : yX12_addCycle.cls = RX12 ∧ yX12_addCycle.cls ≠ "java/lang/invoke/MethodHandle" ∧ yX12_addCycle.cls ≠ "java/lang/invoke/VarHandle" ∧ (parseMethodDescriptor yX12_addCycle.desc).map (fun d => d.parameters.length) = some 1 := by decide +kernel
theorem dk9_dX12_visits_0_0 : dOk cX12_visits [(0, .aload_n 0, 1), (1, .getfield 216, 3), (4, .iload_n 1, 1), (5, .iconst 1, 1), (6, .iastore, 1), (7, .aload_n 0, 1), (8, .getfield 219, 3), (11, .aload_n 0, 1), (12, .getfield 449, 3), (15, .iload_n 1, 1), (16, .iastore, 1), (17, .aload_n 0, 1), (18, .dup, 1), (19, .getfield 449, 3), (22, .iconst 1, 1), (23, .iadd, 1), (24, .putfield 449, 3), (27, .iconst 0, 1), (28, .istore_n 2, 1), (29, .iload_n 2, 1), (30, .aload_n 0, 1), (31, .getfield 86, 3), (34, .bipush 24, 2), (36, .aload_n 0, 1)] = true ∧ dOk cX12_visits [(37, .getfield 286, 3), (40, .imul, 1), (41, .iload_n 1, 1), (42, .iadd, 1), (43, .iaload, 1), (44, .if_icmp .ge 122, 3), (166, .aload_n 0, 1), (167, .dup, 1), (168, .getfield 449, 3), (171, .iconst 1, 1), (172, .isub, 1), (173, .putfield 449, 3), (176, .aload_n 0, 1), (177, .getfield 216, 3), (180, .iload_n 1, 1), (181, .iconst 2, 1), (182, .iastore, 1), (183, .return_, 1), (47, .bipush 8, 2), (49, .bipush 24, 2), (51, .aload_n 0, 1), (52, .getfield 286, 3), (55, .imul, 1), (56, .iload_n 1, 1)] = true ∧ dOk cX12_visits [(57, .iadd, 1), (58, .imul, 1), (59, .iload_n 2, 1), (60, .iadd, 1), (61, .istore_n 3, 1), (62, .aload_n 0, 1), (63, .getfield 92, 3), (66, .iload_n 3, 1), (67, .baload, 1), (68, .ifCond .ne 92, 3), (160, .iinc 2 1, 3), (163, .goto (-134), 3), (71, .aload_n 0, 1), (72, .getfield 213, 3), (75, .bipush 8, 2), (77, .iload_n 1, 1), (78, .imul, 1), (79, .iload_n 2, 1), (80, .iadd, 1), (81, .baload, 1), (82, .ifCond .eq 6, 3), (88, .iconst 0, 1), (89, .istore 4, 2), (91, .iload 4, 2)] = true ∧ dOk cX12_visits [(93, .aload_n 0, 1), (94, .getfield 62, 3), (97, .aload_n 0, 1), (98, .getfield 286, 3), (101, .iaload, 1), (102, .if_icmp .ge 58, 3), (105, .aload_n 0, 1), (106, .iload_n 3, 1), (107, .iload 4, 2), (109, .invokevirtual 465, 3), (112, .ifCond .ne 6, 3), (118, .aload_n 0, 1), (119, .getfield 216, 3), (122, .iload 4, 2), (124, .iaload, 1), (125, .iconst 1, 1), (126, .if_icmp .ne 12, 3), (138, .aload_n 0, 1), (139, .getfield 216, 3), (142, .iload 4, 2), (144, .iaload, 1), (145, .ifCond .ne 9, 3), (154, .iinc 4 1, 3), (157, .goto (-66), 3)] = true ∧ dOk cX12_visits [(148, .aload_n 0, 1), (149, .iload 4, 2), (151, .invokevirtual 452, 3), (129, .aload_n 0, 1), (130, .iload 4, 2), (132, .invokevirtual 468, 3), (135, .goto 19, 3), (115, .goto 39, 3), (85, .goto 75, 3)] = true := by decide +kernel
theorem dX12_visits_0 : decode cX12_visits 0 = .ok (.aload_n 0, 1) := dr9 dk9_dX12_visits_0_0.1 0 (0, .aload_n 0, 1) rfl
theorem dX12_visits_1 : decode cX12_visits 1 = .ok (.getfield 216, 3) := dr9 dk9_dX12_visits_0_0.1 1 (1, .getfield 216, 3) rfl
theorem dX12_visits_4 : decode cX12_visits 4 = .ok (.iload_n 1, 1) := dr9 dk9_dX12_visits_0_0.1 2 (4, .iload_n 1, 1) rfl
theorem dX12_visits_5 : decode cX12_visits 5 = .ok (.iconst 1, 1) := dr9 dk9_dX12_visits_0_0.1 3 (5, .iconst 1, 1) rfl
theorem dX12_visits_6 : decode cX12_visits 6 = .ok (.iastore, 1) := dr9 dk9_dX12_visits_0_0.1 4 (6, .iastore, 1) rfl
theorem dX12_visits_7 : decode cX12_visits 7 = .ok (.aload_n 0, 1) := dr9 dk9_dX12_visits_0_0.1 5 (7, .aload_n 0, 1) rfl
theorem dX12_visits_8 : decode cX12_visits 8 = .ok (.getfield 219, 3) := dr9 dk9_dX12_visits_0_0.1 6 (8, .getfield 219, 3) rfl
theorem dX12_visits_11 : decode cX12_visits 11 = .ok (.aload_n 0, 1) := dr9 dk9_dX12_visits_0_0.1 7 (11, .aload_n 0, 1) rfl
theorem dX12_visits_12 : decode cX12_visits 12 = .ok (.getfield 449, 3) := dr9 dk9_dX12_visits_0_0.1 8 (12, .getfield 449, 3) rfl
theorem dX12_visits_15 : decode cX12_visits 15 = .ok (.iload_n 1, 1) := dr9 dk9_dX12_visits_0_0.1 9 (15, .iload_n 1, 1) rfl
theorem dX12_visits_16 : decode cX12_visits 16 = .ok (.iastore, 1) := dr9 dk9_dX12_visits_0_0.1 10 (16, .iastore, 1) rfl
theorem dX12_visits_17 : decode cX12_visits 17 = .ok (.aload_n 0, 1) := dr9 dk9_dX12_visits_0_0.1 11 (17, .aload_n 0, 1) rfl
theorem dX12_visits_18 : decode cX12_visits 18 = .ok (.dup, 1) := dr9 dk9_dX12_visits_0_0.1 12 (18, .dup, 1) rfl
theorem dX12_visits_19 : decode cX12_visits 19 = .ok (.getfield 449, 3) := dr9 dk9_dX12_visits_0_0.1 13 (19, .getfield 449, 3) rfl
theorem dX12_visits_22 : decode cX12_visits 22 = .ok (.iconst 1, 1) := dr9 dk9_dX12_visits_0_0.1 14 (22, .iconst 1, 1) rfl
theorem dX12_visits_23 : decode cX12_visits 23 = .ok (.iadd, 1) := dr9 dk9_dX12_visits_0_0.1 15 (23, .iadd, 1) rfl
theorem dX12_visits_24 : decode cX12_visits 24 = .ok (.putfield 449, 3) := dr9 dk9_dX12_visits_0_0.1 16 (24, .putfield 449, 3) rfl
theorem dX12_visits_27 : decode cX12_visits 27 = .ok (.iconst 0, 1) := dr9 dk9_dX12_visits_0_0.1 17 (27, .iconst 0, 1) rfl
theorem dX12_visits_28 : decode cX12_visits 28 = .ok (.istore_n 2, 1) := dr9 dk9_dX12_visits_0_0.1 18 (28, .istore_n 2, 1) rfl
theorem dX12_visits_29 : decode cX12_visits 29 = .ok (.iload_n 2, 1) := dr9 dk9_dX12_visits_0_0.1 19 (29, .iload_n 2, 1) rfl
theorem dX12_visits_30 : decode cX12_visits 30 = .ok (.aload_n 0, 1) := dr9 dk9_dX12_visits_0_0.1 20 (30, .aload_n 0, 1) rfl
theorem dX12_visits_31 : decode cX12_visits 31 = .ok (.getfield 86, 3) := dr9 dk9_dX12_visits_0_0.1 21 (31, .getfield 86, 3) rfl
theorem dX12_visits_34 : decode cX12_visits 34 = .ok (.bipush 24, 2) := dr9 dk9_dX12_visits_0_0.1 22 (34, .bipush 24, 2) rfl
theorem dX12_visits_36 : decode cX12_visits 36 = .ok (.aload_n 0, 1) := dr9 dk9_dX12_visits_0_0.1 23 (36, .aload_n 0, 1) rfl
theorem dX12_visits_37 : decode cX12_visits 37 = .ok (.getfield 286, 3) := dr9 dk9_dX12_visits_0_0.2.1 0 (37, .getfield 286, 3) rfl
theorem dX12_visits_40 : decode cX12_visits 40 = .ok (.imul, 1) := dr9 dk9_dX12_visits_0_0.2.1 1 (40, .imul, 1) rfl
theorem dX12_visits_41 : decode cX12_visits 41 = .ok (.iload_n 1, 1) := dr9 dk9_dX12_visits_0_0.2.1 2 (41, .iload_n 1, 1) rfl
theorem dX12_visits_42 : decode cX12_visits 42 = .ok (.iadd, 1) := dr9 dk9_dX12_visits_0_0.2.1 3 (42, .iadd, 1) rfl
theorem dX12_visits_43 : decode cX12_visits 43 = .ok (.iaload, 1) := dr9 dk9_dX12_visits_0_0.2.1 4 (43, .iaload, 1) rfl
theorem dX12_visits_44 : decode cX12_visits 44 = .ok (.if_icmp .ge 122, 3) := dr9 dk9_dX12_visits_0_0.2.1 5 (44, .if_icmp .ge 122, 3) rfl
theorem dX12_visits_166 : decode cX12_visits 166 = .ok (.aload_n 0, 1) := dr9 dk9_dX12_visits_0_0.2.1 6 (166, .aload_n 0, 1) rfl
theorem dX12_visits_167 : decode cX12_visits 167 = .ok (.dup, 1) := dr9 dk9_dX12_visits_0_0.2.1 7 (167, .dup, 1) rfl
theorem dX12_visits_168 : decode cX12_visits 168 = .ok (.getfield 449, 3) := dr9 dk9_dX12_visits_0_0.2.1 8 (168, .getfield 449, 3) rfl
theorem dX12_visits_171 : decode cX12_visits 171 = .ok (.iconst 1, 1) := dr9 dk9_dX12_visits_0_0.2.1 9 (171, .iconst 1, 1) rfl
theorem dX12_visits_172 : decode cX12_visits 172 = .ok (.isub, 1) := dr9 dk9_dX12_visits_0_0.2.1 10 (172, .isub, 1) rfl
theorem dX12_visits_173 : decode cX12_visits 173 = .ok (.putfield 449, 3) := dr9 dk9_dX12_visits_0_0.2.1 11 (173, .putfield 449, 3) rfl
theorem dX12_visits_176 : decode cX12_visits 176 = .ok (.aload_n 0, 1) := dr9 dk9_dX12_visits_0_0.2.1 12 (176, .aload_n 0, 1) rfl
theorem dX12_visits_177 : decode cX12_visits 177 = .ok (.getfield 216, 3) := dr9 dk9_dX12_visits_0_0.2.1 13 (177, .getfield 216, 3) rfl
theorem dX12_visits_180 : decode cX12_visits 180 = .ok (.iload_n 1, 1) := dr9 dk9_dX12_visits_0_0.2.1 14 (180, .iload_n 1, 1) rfl
theorem dX12_visits_181 : decode cX12_visits 181 = .ok (.iconst 2, 1) := dr9 dk9_dX12_visits_0_0.2.1 15 (181, .iconst 2, 1) rfl
theorem dX12_visits_182 : decode cX12_visits 182 = .ok (.iastore, 1) := dr9 dk9_dX12_visits_0_0.2.1 16 (182, .iastore, 1) rfl
theorem dX12_visits_183 : decode cX12_visits 183 = .ok (.return_, 1) := dr9 dk9_dX12_visits_0_0.2.1 17 (183, .return_, 1) rfl
theorem dX12_visits_47 : decode cX12_visits 47 = .ok (.bipush 8, 2) := dr9 dk9_dX12_visits_0_0.2.1 18 (47, .bipush 8, 2) rfl
theorem dX12_visits_49 : decode cX12_visits 49 = .ok (.bipush 24, 2) := dr9 dk9_dX12_visits_0_0.2.1 19 (49, .bipush 24, 2) rfl
theorem dX12_visits_51 : decode cX12_visits 51 = .ok (.aload_n 0, 1) := dr9 dk9_dX12_visits_0_0.2.1 20 (51, .aload_n 0, 1) rfl
theorem dX12_visits_52 : decode cX12_visits 52 = .ok (.getfield 286, 3) := dr9 dk9_dX12_visits_0_0.2.1 21 (52, .getfield 286, 3) rfl
theorem dX12_visits_55 : decode cX12_visits 55 = .ok (.imul, 1) := dr9 dk9_dX12_visits_0_0.2.1 22 (55, .imul, 1) rfl
theorem dX12_visits_56 : decode cX12_visits 56 = .ok (.iload_n 1, 1) := dr9 dk9_dX12_visits_0_0.2.1 23 (56, .iload_n 1, 1) rfl
theorem dX12_visits_57 : decode cX12_visits 57 = .ok (.iadd, 1) := dr9 dk9_dX12_visits_0_0.2.2.1 0 (57, .iadd, 1) rfl
theorem dX12_visits_58 : decode cX12_visits 58 = .ok (.imul, 1) := dr9 dk9_dX12_visits_0_0.2.2.1 1 (58, .imul, 1) rfl
theorem dX12_visits_59 : decode cX12_visits 59 = .ok (.iload_n 2, 1) := dr9 dk9_dX12_visits_0_0.2.2.1 2 (59, .iload_n 2, 1) rfl
theorem dX12_visits_60 : decode cX12_visits 60 = .ok (.iadd, 1) := dr9 dk9_dX12_visits_0_0.2.2.1 3 (60, .iadd, 1) rfl
theorem dX12_visits_61 : decode cX12_visits 61 = .ok (.istore_n 3, 1) := dr9 dk9_dX12_visits_0_0.2.2.1 4 (61, .istore_n 3, 1) rfl
theorem dX12_visits_62 : decode cX12_visits 62 = .ok (.aload_n 0, 1) := dr9 dk9_dX12_visits_0_0.2.2.1 5 (62, .aload_n 0, 1) rfl
theorem dX12_visits_63 : decode cX12_visits 63 = .ok (.getfield 92, 3) := dr9 dk9_dX12_visits_0_0.2.2.1 6 (63, .getfield 92, 3) rfl
theorem dX12_visits_66 : decode cX12_visits 66 = .ok (.iload_n 3, 1) := dr9 dk9_dX12_visits_0_0.2.2.1 7 (66, .iload_n 3, 1) rfl
theorem dX12_visits_67 : decode cX12_visits 67 = .ok (.baload, 1) := dr9 dk9_dX12_visits_0_0.2.2.1 8 (67, .baload, 1) rfl
theorem dX12_visits_68 : decode cX12_visits 68 = .ok (.ifCond .ne 92, 3) := dr9 dk9_dX12_visits_0_0.2.2.1 9 (68, .ifCond .ne 92, 3) rfl
theorem dX12_visits_160 : decode cX12_visits 160 = .ok (.iinc 2 1, 3) := dr9 dk9_dX12_visits_0_0.2.2.1 10 (160, .iinc 2 1, 3) rfl
theorem dX12_visits_163 : decode cX12_visits 163 = .ok (.goto (-134), 3) := dr9 dk9_dX12_visits_0_0.2.2.1 11 (163, .goto (-134), 3) rfl
theorem dX12_visits_71 : decode cX12_visits 71 = .ok (.aload_n 0, 1) := dr9 dk9_dX12_visits_0_0.2.2.1 12 (71, .aload_n 0, 1) rfl
theorem dX12_visits_72 : decode cX12_visits 72 = .ok (.getfield 213, 3) := dr9 dk9_dX12_visits_0_0.2.2.1 13 (72, .getfield 213, 3) rfl
theorem dX12_visits_75 : decode cX12_visits 75 = .ok (.bipush 8, 2) := dr9 dk9_dX12_visits_0_0.2.2.1 14 (75, .bipush 8, 2) rfl
theorem dX12_visits_77 : decode cX12_visits 77 = .ok (.iload_n 1, 1) := dr9 dk9_dX12_visits_0_0.2.2.1 15 (77, .iload_n 1, 1) rfl
theorem dX12_visits_78 : decode cX12_visits 78 = .ok (.imul, 1) := dr9 dk9_dX12_visits_0_0.2.2.1 16 (78, .imul, 1) rfl
theorem dX12_visits_79 : decode cX12_visits 79 = .ok (.iload_n 2, 1) := dr9 dk9_dX12_visits_0_0.2.2.1 17 (79, .iload_n 2, 1) rfl
theorem dX12_visits_80 : decode cX12_visits 80 = .ok (.iadd, 1) := dr9 dk9_dX12_visits_0_0.2.2.1 18 (80, .iadd, 1) rfl
theorem dX12_visits_81 : decode cX12_visits 81 = .ok (.baload, 1) := dr9 dk9_dX12_visits_0_0.2.2.1 19 (81, .baload, 1) rfl
theorem dX12_visits_82 : decode cX12_visits 82 = .ok (.ifCond .eq 6, 3) := dr9 dk9_dX12_visits_0_0.2.2.1 20 (82, .ifCond .eq 6, 3) rfl
theorem dX12_visits_88 : decode cX12_visits 88 = .ok (.iconst 0, 1) := dr9 dk9_dX12_visits_0_0.2.2.1 21 (88, .iconst 0, 1) rfl
theorem dX12_visits_89 : decode cX12_visits 89 = .ok (.istore 4, 2) := dr9 dk9_dX12_visits_0_0.2.2.1 22 (89, .istore 4, 2) rfl
theorem dX12_visits_91 : decode cX12_visits 91 = .ok (.iload 4, 2) := dr9 dk9_dX12_visits_0_0.2.2.1 23 (91, .iload 4, 2) rfl
theorem dX12_visits_93 : decode cX12_visits 93 = .ok (.aload_n 0, 1) := dr9 dk9_dX12_visits_0_0.2.2.2.1 0 (93, .aload_n 0, 1) rfl
theorem dX12_visits_94 : decode cX12_visits 94 = .ok (.getfield 62, 3) := dr9 dk9_dX12_visits_0_0.2.2.2.1 1 (94, .getfield 62, 3) rfl
theorem dX12_visits_97 : decode cX12_visits 97 = .ok (.aload_n 0, 1) := dr9 dk9_dX12_visits_0_0.2.2.2.1 2 (97, .aload_n 0, 1) rfl
theorem dX12_visits_98 : decode cX12_visits 98 = .ok (.getfield 286, 3) := dr9 dk9_dX12_visits_0_0.2.2.2.1 3 (98, .getfield 286, 3) rfl
theorem dX12_visits_101 : decode cX12_visits 101 = .ok (.iaload, 1) := dr9 dk9_dX12_visits_0_0.2.2.2.1 4 (101, .iaload, 1) rfl
theorem dX12_visits_102 : decode cX12_visits 102 = .ok (.if_icmp .ge 58, 3) := dr9 dk9_dX12_visits_0_0.2.2.2.1 5 (102, .if_icmp .ge 58, 3) rfl
theorem dX12_visits_105 : decode cX12_visits 105 = .ok (.aload_n 0, 1) := dr9 dk9_dX12_visits_0_0.2.2.2.1 6 (105, .aload_n 0, 1) rfl
theorem dX12_visits_106 : decode cX12_visits 106 = .ok (.iload_n 3, 1) := dr9 dk9_dX12_visits_0_0.2.2.2.1 7 (106, .iload_n 3, 1) rfl
theorem dX12_visits_107 : decode cX12_visits 107 = .ok (.iload 4, 2) := dr9 dk9_dX12_visits_0_0.2.2.2.1 8 (107, .iload 4, 2) rfl
theorem dX12_visits_109 : decode cX12_visits 109 = .ok (.invokevirtual 465, 3) := dr9 dk9_dX12_visits_0_0.2.2.2.1 9 (109, .invokevirtual 465, 3) rfl
theorem dX12_visits_112 : decode cX12_visits 112 = .ok (.ifCond .ne 6, 3) := dr9 dk9_dX12_visits_0_0.2.2.2.1 10 (112, .ifCond .ne 6, 3) rfl
theorem dX12_visits_118 : decode cX12_visits 118 = .ok (.aload_n 0, 1) := dr9 dk9_dX12_visits_0_0.2.2.2.1 11 (118, .aload_n 0, 1) rfl
theorem dX12_visits_119 : decode cX12_visits 119 = .ok (.getfield 216, 3) := dr9 dk9_dX12_visits_0_0.2.2.2.1 12 (119, .getfield 216, 3) rfl
theorem dX12_visits_122 : decode cX12_visits 122 = .ok (.iload 4, 2) := dr9 dk9_dX12_visits_0_0.2.2.2.1 13 (122, .iload 4, 2) rfl
theorem dX12_visits_124 : decode cX12_visits 124 = .ok (.iaload, 1) := dr9 dk9_dX12_visits_0_0.2.2.2.1 14 (124, .iaload, 1) rfl
theorem dX12_visits_125 : decode cX12_visits 125 = .ok (.iconst 1, 1) := dr9 dk9_dX12_visits_0_0.2.2.2.1 15 (125, .iconst 1, 1) rfl
theorem dX12_visits_126 : decode cX12_visits 126 = .ok (.if_icmp .ne 12, 3) := dr9 dk9_dX12_visits_0_0.2.2.2.1 16 (126, .if_icmp .ne 12, 3) rfl
theorem dX12_visits_138 : decode cX12_visits 138 = .ok (.aload_n 0, 1) := dr9 dk9_dX12_visits_0_0.2.2.2.1 17 (138, .aload_n 0, 1) rfl
theorem dX12_visits_139 : decode cX12_visits 139 = .ok (.getfield 216, 3) := dr9 dk9_dX12_visits_0_0.2.2.2.1 18 (139, .getfield 216, 3) rfl
theorem dX12_visits_142 : decode cX12_visits 142 = .ok (.iload 4, 2) := dr9 dk9_dX12_visits_0_0.2.2.2.1 19 (142, .iload 4, 2) rfl
theorem dX12_visits_144 : decode cX12_visits 144 = .ok (.iaload, 1) := dr9 dk9_dX12_visits_0_0.2.2.2.1 20 (144, .iaload, 1) rfl
theorem dX12_visits_145 : decode cX12_visits 145 = .ok (.ifCond .ne 9, 3) := dr9 dk9_dX12_visits_0_0.2.2.2.1 21 (145, .ifCond .ne 9, 3) rfl
theorem dX12_visits_154 : decode cX12_visits 154 = .ok (.iinc 4 1, 3) := dr9 dk9_dX12_visits_0_0.2.2.2.1 22 (154, .iinc 4 1, 3) rfl
theorem dX12_visits_157 : decode cX12_visits 157 = .ok (.goto (-66), 3) := dr9 dk9_dX12_visits_0_0.2.2.2.1 23 (157, .goto (-66), 3) rfl
theorem dX12_visits_148 : decode cX12_visits 148 = .ok (.aload_n 0, 1) := dr9 dk9_dX12_visits_0_0.2.2.2.2 0 (148, .aload_n 0, 1) rfl
theorem dX12_visits_149 : decode cX12_visits 149 = .ok (.iload 4, 2) := dr9 dk9_dX12_visits_0_0.2.2.2.2 1 (149, .iload 4, 2) rfl
theorem dX12_visits_151 : decode cX12_visits 151 = .ok (.invokevirtual 452, 3) := dr9 dk9_dX12_visits_0_0.2.2.2.2 2 (151, .invokevirtual 452, 3) rfl
theorem dX12_visits_129 : decode cX12_visits 129 = .ok (.aload_n 0, 1) := dr9 dk9_dX12_visits_0_0.2.2.2.2 3 (129, .aload_n 0, 1) rfl
theorem dX12_visits_130 : decode cX12_visits 130 = .ok (.iload 4, 2) := dr9 dk9_dX12_visits_0_0.2.2.2.2 4 (130, .iload 4, 2) rfl
theorem dX12_visits_132 : decode cX12_visits 132 = .ok (.invokevirtual 468, 3) := dr9 dk9_dX12_visits_0_0.2.2.2.2 5 (132, .invokevirtual 468, 3) rfl
theorem dX12_visits_135 : decode cX12_visits 135 = .ok (.goto 19, 3) := dr9 dk9_dX12_visits_0_0.2.2.2.2 6 (135, .goto 19, 3) rfl
theorem dX12_visits_115 : decode cX12_visits 115 = .ok (.goto 39, 3) := dr9 dk9_dX12_visits_0_0.2.2.2.2 7 (115, .goto 39, 3) rfl
theorem dX12_visits_85 : decode cX12_visits 85 = .ok (.goto 75, 3) := dr9 dk9_dX12_visits_0_0.2.2.2.2 8 (85, .goto 75, 3) rfl
abbrev q_s_visits (D : va_G) (ks : KS) (ad : Nat → Nat) (kk : Nat → ClassId) (V : Vf) (L : Lf) (p0 : Int32) (FM : Int) (A : Nat → Prop) : Array Value → State → Outcome → State → Prop := va_Qv (fun (u : Vf × Lf) => rgd bM u.1 ∧ agr [(0, 81), (0, 89)] [80, 82, 83, 84, 85, 87, 88] V u.1 ∧ u.2 = L ∧ ((u.1 0 89).toInt = (V 0 89).toInt) ∧ ((cz u.1 24 : Int) + 1 ≤ (cz V 24 : Int)) ∧ ((u.1 0 81).toInt + 192 * (cz u.1 24 : Int) ≤ FM) ∧ ((V 0 81).toInt ≤ (u.1 0 81).toInt) ∧ (visP V u.1) ∧ (c0k V u.1)) (fun u t => gq D A (mw ad kk ks.1 u.1 u.2) (mty kk) t) A
def K_s_visits (l : Launch) (D : va_G) (ks : KS) (dd : Nat) : Prop := ∀ (sz : Nat) (ad : Nat → Nat) (kk : Nat → ClassId) (V : Vf) (L : Lf) (p0 : Int32) (FM : Int) (hMV : rgd bM V) (rg_p0 : 0 ≤ p0.toInt ∧ p0.toInt ≤ 23) (v1 : (cz V 24 : Int) ≤ (dd : Int)) (v2 : (V 0 89).toInt + (cz V 24 : Int) ≤ 24) (v3 : (V 87 (Int32.toNatClampNeg p0)).toInt = 0) (v4 : WY V) (v5 : (V 0 81).toInt + 192 * (cz V 24 : Int) ≤ FM) (v7 : FM ≤ 999000) (v6 : p0.toInt < (V 19 (nwh V)).toInt) (tb : TB V) , Met l yX12_visits (Cond.code yX12_visits cX12_visits 5 none :: GW) (rK 8 260 dd) (va_Pc [.ref (ad 0), .int p0] (gp D ks (mw ad kk ks.1 V L) (mty kk) sz)) (q_s_visits D ks ad kk V L p0 FM (va_A (mw ad kk ks.1 V L) sz)) 0 0 (va_A (mw ad kk ks.1 V L) sz)
set_option maxHeartbeats 4000000 in
set_option maxRecDepth 100000 in
theorem s_visits {l : Launch} {D : va_G} {ks : KS} {dd : Nat} (hk_s_visits : ∀ d9, dd = d9 + 1 → K_s_visits l D ks d9) : K_s_visits l D ks dd := by
  intro sz ad kk V L p0 FM hMV rg_p0 v1 v2 v3 v4 v5 v7 v6 tb
  refine g_met (q_s_visits D ks ad kk V L p0 FM) (by decide) (Nat.le_of_ble_eq_true rfl) ?_
  intro p e s m below meth c A ls H locs hx hb hr hml hown hg hlocks hin hnw hgk hP hK hD hS hA hl
  have hown : s.vm.findClass RX12 = some m.cls := hown
  have hl : lv_has ls 5 [(0, .ref (ad 0)), (1, .int p0)] := hl
  have hP : va_P D vwCl (mw ad kk ks.1 V L) H := hP
  have hD : va_D A (mw ad kk ks.1 V L) := hD
  have hK : va_K D vwCl (mty kk) s := hK
  have agV : agr [(0, 81), (0, 89)] [80, 82, 83, 84, 85, 87, 88] V V := agr.rf
  have r1 : 0 ≤ ((V 0 89)).toInt ∧ ((V 0 89)).toInt ≤ 24 := hMV 0 89
  have r2 : 0 ≤ ((V 87 (Int32.toNatClampNeg p0))).toInt ∧ ((V 87 (Int32.toNatClampNeg p0))).toInt ≤ 2 := hMV 87 (Int32.toNatClampNeg p0)
  have r3 : 0 ≤ ((V 0 81)).toInt ∧ ((V 0 81)).toInt ≤ 1000000 := hMV 0 81
  have v6b : p0.toInt < (V 19 (Int32.toNatClampNeg (V 0 11))).toInt := v6
  have v6c : p0.toInt < (V 19 (nwh V)).toInt := v6
  have czl := cz_le V 24
  have czp := cz_pos (V := V) (k := Int32.toNatClampNeg p0) (n := 24) (by have h9 := i_clamp (x := p0) rfl (by omega); omega) v3
  refine lv_aload_n hx hb dX12_visits_0 rfl (lv_at hl 0 rfl) ?_
  refine va_get (D := D) (ci := 12) (v := .ref (ad 87)) (C := RX12) (T := TX12) (N := 100) hx hb hg inX12 hown hK hP 0 rfl rfl 87 (by decide) (hg _ w1793) (fun _ h9 => h9) rfl dX12_visits_1 ?_
  refine lv_iload_n hx hb dX12_visits_4 rfl (lv_at hl 1 rfl) ?_
  refine lv_iconst (v := 1) hx hb dX12_visits_5 (by decide) ?_
  refine va_iast (D := D) (i := p0) (x := 1) hx hb hK hP hD hS 63 62 rfl rfl (i_in (a := p0.toInt) rfl (by first | omega | ((try (have i_tb := Imp.go tb (by omega))); (try (have i_v6 := Imp.go v6 (by omega))); (try (have i_v4 := Imp.go v4 (by omega))); (try (have i_v4 := Imp.go v4 (by omega))); (try (have i_v6 := Imp.go v6 (by omega))); (try (have i_tb := Imp.go tb (by omega))); omega))) dX12_visits_6 (fun H locs hP hD hS => ?_)
  obtain ⟨V4, hV4⟩ : ∃ z, z = up2 V 87 (Int32.toNatClampNeg p0) 1 := ⟨_, rfl⟩
  have hP : va_P D vwCl (mw ad kk ks.1 V4 L) H := by rw [hV4]; exact hP
  have hD : va_D A (mw ad kk ks.1 V4 L) := by rw [hV4]; exact hD
  have hMV4 : rgd bM V4 := hMV.put hV4 (show 0 ≤ Int32.toInt 1 ∧ Int32.toInt 1 ≤ 2 from by decide)
  have agV4 : agr [(0, 81), (0, 89)] [80, 82, 83, 84, 85, 87, 88] V V4 := agV.up hV4 rfl
  refine lv_aload_n hx hb dX12_visits_7 rfl (lv_at hl 0 rfl) ?_
  refine va_get (D := D) (ci := 12) (v := .ref (ad 88)) (C := RX12) (T := TX12) (N := 100) hx hb hg inX12 hown hK hP 0 rfl rfl 88 (by decide) (hg _ w1794) (fun _ h9 => h9) rfl dX12_visits_8 ?_
  refine lv_aload_n hx hb dX12_visits_11 rfl (lv_at hl 0 rfl) ?_
  refine va_get (D := D) (ci := 12) (v := .int (V4 0 89)) (C := RX12) (T := TX12) (N := 100) hx hb hg inX12 hown hK hP 0 rfl rfl 89 (by decide) (hg _ w1795) (fun _ h9 => h9) rfl dX12_visits_12 ?_
  refine g_top (v := (V 0 89)) (up2_o hV4 (by decide)) ?_
  refine lv_iload_n hx hb dX12_visits_15 rfl (lv_at hl 1 rfl) ?_
  refine va_iast (D := D) (i := (V 0 89)) (x := p0) hx hb hK hP hD hS 64 63 rfl rfl (i_in (a := ((V 0 89)).toInt) rfl (by first | omega | ((try (have i_tb := Imp.go tb (by omega))); (try (have i_v6 := Imp.go v6 (by omega))); (try (have i_v4 := Imp.go v4 (by omega))); (try (have i_v4 := Imp.go v4 (by omega))); (try (have i_v6 := Imp.go v6 (by omega))); (try (have i_tb := Imp.go tb (by omega))); omega))) dX12_visits_16 (fun H locs hP hD hS => ?_)
  obtain ⟨V5, hV5⟩ : ∃ z, z = up2 V4 88 (Int32.toNatClampNeg (V 0 89)) p0 := ⟨_, rfl⟩
  have hP : va_P D vwCl (mw ad kk ks.1 V5 L) H := by rw [hV5]; exact hP
  have hD : va_D A (mw ad kk ks.1 V5 L) := by rw [hV5]; exact hD
  have hMV5 : rgd bM V5 := hMV4.put hV5 (show 0 ≤ p0.toInt ∧ p0.toInt ≤ 23 from by first | omega | ((try (have i_tb := Imp.go tb (by omega))); (try (have i_v6 := Imp.go v6 (by omega))); (try (have i_v4 := Imp.go v4 (by omega))); (try (have i_v4 := Imp.go v4 (by omega))); (try (have i_v6 := Imp.go v6 (by omega))); (try (have i_tb := Imp.go tb (by omega))); omega))
  have agV5 : agr [(0, 81), (0, 89)] [80, 82, 83, 84, 85, 87, 88] V V5 := agV4.up hV5 rfl
  refine lv_aload_n hx hb dX12_visits_17 rfl (lv_at hl 0 rfl) ?_
  refine lv_dup hx hb dX12_visits_18 rfl ?_
  refine va_get (D := D) (ci := 12) (v := .int (V5 0 89)) (C := RX12) (T := TX12) (N := 100) hx hb hg inX12 hown hK hP 0 rfl rfl 89 (by decide) (hg _ w1795) (fun _ h9 => h9) rfl dX12_visits_19 ?_
  refine g_top (v := (V 0 89)) ((up2_o hV5 (by decide)).trans (up2_o hV4 (by decide))) ?_
  refine lv_iconst (v := 1) hx hb dX12_visits_22 (by decide) ?_
  refine lv_iadd hx hb dX12_visits_23 ?_
  refine lv_topi (fun z6 ez6 => ?_)
  have hz6 : z6.toInt = ((V 0 89)).toInt + 1 := i_add ez6 rfl (by decide) (by omega)
  refine va_put (D := D) (ci := 12) (v := .int z6) (ty := tyX12 89) (C := RX12) (T := TX12) (N := 100) hx hb hg inX12 tyX12 tyX12_ok nmX12 hown hK hP hD hS 0 rfl rfl 89 (by decide) (hg _ w1795) (fun _ h9 => h9) rfl (tyX12_ok 89 (by decide)) rfl rfl (Nat.le_of_ble_eq_true rfl) dX12_visits_24 (fun H locs hP hD hS => ?_)
  obtain ⟨V7, hV7⟩ : ∃ z, z = up2 V5 0 89 z6 := ⟨_, rfl⟩
  have hP : va_P D vwCl (mw ad kk ks.1 V7 L) H := by rw [hV7]; exact hP
  have hD : va_D A (mw ad kk ks.1 V7 L) := by rw [hV7]; exact hD
  have hMV7 : rgd bM V7 := hMV5.put hV7 (show 0 ≤ z6.toInt ∧ z6.toInt ≤ 24 from by first | omega | ((try (have i_tb := Imp.go tb (by omega))); (try (have i_v6 := Imp.go v6 (by omega))); (try (have i_v4 := Imp.go v4 (by omega))); (try (have i_v4 := Imp.go v4 (by omega))); (try (have i_v6 := Imp.go v6 (by omega))); (try (have i_tb := Imp.go tb (by omega))); omega))
  have agV7 : agr [(0, 81), (0, 89)] [80, 82, 83, 84, 85, 87, 88] V V7 := agV5.up hV7 rfl
  refine lv_iconst (v := 0) hx hb dX12_visits_27 (by decide) ?_
  refine lv_istore_n (lv' := [(2, .int 0), (0, .ref (ad 0)), (1, .int p0)]) hx hb dX12_visits_28 rfl hl (by decide) rfl (fun ls hl => ?_)
  have lp10 : ∀ (fulp10 : Nat) (y8 : Int32) (V9 : Vf) (H : Heap) (locs : List Loc) (ls : Array Slot), 0 ≤ y8.toInt ∧ y8.toInt ≤ 8 → (V9 0 89).toInt = (V 0 89).toInt + 1 → (cz V9 24 : Int) + 1 ≤ (cz V 24 : Int) → (V9 0 81).toInt + 192 * (cz V9 24 : Int) + 192 ≤ FM + 24 * y8.toInt → (V 0 81).toInt ≤ (V9 0 81).toInt → visI V V9 (Int32.toNatClampNeg p0) → c0k V V9 → 8 - y8.toInt < (fulp10 : Int) → agr [(0, 81), (0, 89)] [80, 82, 83, 84, 85, 87, 88] V7 V9 → rgd bM V9 → va_P D vwCl (mw ad kk ks.1 V9 L) H → va_D A (mw ad kk ks.1 V9 L) → va_S A s.heap H locs → lv_has ls 5 [(2, .int y8), (0, .ref (ad 0)), (1, .int p0)] → W p l e (rK 8 260 dd) s m ([.ref (ad 0), .int p0] : List Value).toArray below meth c H locs 0 0 (MQ below (q_s_visits D ks ad kk V L p0 FM A) ([.ref (ad 0), .int p0] : List Value).toArray s 0 0 A) (F0 m 29 ls []) := by
    intro fulp10
    induction fulp10 with
    | zero =>
      intro y8 V9 H locs ls klp10_0 xlp10_0 xlp10_1 xlp10_2 xlp10_3 xlp10_4 xlp10_5 hn ajV9 hMV9 hP hD hS hl
      exfalso; omega
    | succ fulp10 ihlp10 =>
      intro y8 V9 H locs ls klp10_0 xlp10_0 xlp10_1 xlp10_2 xlp10_3 xlp10_4 xlp10_5 hn ajV9 hMV9 hP hD hS hl
      have agV9 : agr [(0, 81), (0, 89)] [80, 82, 83, 84, 85, 87, 88] V V9 := agV7.tr ajV9 (by decide) (by decide)
      have r11 : 0 ≤ ((V9 0 89)).toInt ∧ ((V9 0 89)).toInt ≤ 24 := hMV9 0 89
      have r12 : 0 ≤ ((V9 0 81)).toInt ∧ ((V9 0 81)).toInt ≤ 1000000 := hMV9 0 81
      refine lv_iload_n hx hb dX12_visits_29 rfl (lv_at hl 0 rfl) ?_
      refine lv_aload_n hx hb dX12_visits_30 rfl (lv_at hl 1 rfl) ?_
      refine va_get (D := D) (ci := 12) (v := .ref (ad 27)) (C := RX12) (T := TX12) (N := 100) hx hb hg inX12 hown hK hP 0 rfl rfl 27 (by decide) (hg _ w1733) (fun _ h9 => h9) rfl dX12_visits_31 ?_
      refine lv_bipush (v := 24) hx hb dX12_visits_34 (by decide) ?_
      refine lv_aload_n hx hb dX12_visits_36 rfl (lv_at hl 1 rfl) ?_
      refine va_get (D := D) (ci := 12) (v := .int (V9 0 11)) (C := RX12) (T := TX12) (N := 100) hx hb hg inX12 hown hK hP 0 rfl rfl 11 (by decide) (hg _ w1717) (fun _ h9 => h9) rfl dX12_visits_37 ?_
      refine g_top (v := (V 0 11)) ((ajV9 0 11 rfl).trans ((up2_k hV7 (by decide)).trans ((up2_o hV5 (by decide)).trans (up2_o hV4 (by decide))))) ?_
      have r13 : 0 ≤ ((V 0 11)).toInt ∧ ((V 0 11)).toInt ≤ 1 := hMV 0 11
      refine lv_imul hx hb dX12_visits_40 ?_
      refine lv_topi (fun z14 ez14 => ?_)
      have hz14 : z14.toInt = 24 * ((V 0 11)).toInt := i_mul ez14 (by decide) rfl (by omega)
      refine lv_iload_n hx hb dX12_visits_41 rfl (lv_at hl 2 rfl) ?_
      refine lv_iadd hx hb dX12_visits_42 ?_
      refine lv_topi (fun z15 ez15 => ?_)
      have hz15 : z15.toInt = z14.toInt + p0.toInt := i_add ez15 rfl rfl (by omega)
      refine va_iald (D := D) (i := z15) hx hb hK hP 20 19 rfl rfl (i_in (a := z15.toInt) rfl (by first | omega | ((try (have i_tb := Imp.go tb (by omega))); (try (have i_v6 := Imp.go v6 (by omega))); (try (have i_v4 := Imp.go v4 (by omega))); (try (have i_v4 := Imp.go v4 (by omega))); (try (have i_v6 := Imp.go v6 (by omega))); (try (have i_tb := Imp.go tb (by omega))); omega))) dX12_visits_43 ?_
      refine g_top (v := (V 27 (Int32.toNatClampNeg z15))) ((ajV9 27 (Int32.toNatClampNeg z15) rfl).trans ((up2_o hV7 (by decide)).trans ((up2_o hV5 (by decide)).trans (up2_o hV4 (by decide))))) ?_
      have r16 : 0 ≤ ((V 27 (Int32.toNatClampNeg z15))).toInt ∧ ((V 27 (Int32.toNatClampNeg z15))).toInt ≤ 8 := hMV 27 (Int32.toNatClampNeg z15)
      refine lv_icmp_ge (tgt := 166) hx hb dX12_visits_44 (by decide) (fun c17 => ?_) (fun c17 => ?_)
      · skip
        have f18 : ((V 27 (Int32.toNatClampNeg z15))).toInt ≤ y8.toInt := b_le rfl rfl c17
        refine lv_aload_n hx hb dX12_visits_166 rfl (lv_at hl 1 rfl) ?_
        refine lv_dup hx hb dX12_visits_167 rfl ?_
        refine va_get (D := D) (ci := 12) (v := .int (V9 0 89)) (C := RX12) (T := TX12) (N := 100) hx hb hg inX12 hown hK hP 0 rfl rfl 89 (by decide) (hg _ w1795) (fun _ h9 => h9) rfl dX12_visits_168 ?_
        refine lv_iconst (v := 1) hx hb dX12_visits_171 (by decide) ?_
        refine lv_isub hx hb dX12_visits_172 ?_
        refine lv_topi (fun z19 ez19 => ?_)
        have hz19 : z19.toInt = ((V9 0 89)).toInt - 1 := i_sub ez19 rfl (by decide) (by omega)
        refine va_put (D := D) (ci := 12) (v := .int z19) (ty := tyX12 89) (C := RX12) (T := TX12) (N := 100) hx hb hg inX12 tyX12 tyX12_ok nmX12 hown hK hP hD hS 0 rfl rfl 89 (by decide) (hg _ w1795) (fun _ h9 => h9) rfl (tyX12_ok 89 (by decide)) rfl rfl (Nat.le_of_ble_eq_true rfl) dX12_visits_173 (fun H locs hP hD hS => ?_)
        obtain ⟨V20, hV20⟩ : ∃ z, z = up2 V9 0 89 z19 := ⟨_, rfl⟩
        have hP : va_P D vwCl (mw ad kk ks.1 V20 L) H := by rw [hV20]; exact hP
        have hD : va_D A (mw ad kk ks.1 V20 L) := by rw [hV20]; exact hD
        have hMV20 : rgd bM V20 := hMV9.put hV20 (show 0 ≤ z19.toInt ∧ z19.toInt ≤ 24 from by first | omega | ((try (have i_tb := Imp.go tb (by omega))); (try (have i_v6 := Imp.go v6 (by omega))); (try (have i_v4 := Imp.go v4 (by omega))); (try (have i_v4 := Imp.go v4 (by omega))); (try (have i_v6 := Imp.go v6 (by omega))); (try (have i_tb := Imp.go tb (by omega))); omega))
        have agV20 : agr [(0, 81), (0, 89)] [80, 82, 83, 84, 85, 87, 88] V V20 := agV9.up hV20 rfl
        refine lv_aload_n hx hb dX12_visits_176 rfl (lv_at hl 1 rfl) ?_
        refine va_get (D := D) (ci := 12) (v := .ref (ad 87)) (C := RX12) (T := TX12) (N := 100) hx hb hg inX12 hown hK hP 0 rfl rfl 87 (by decide) (hg _ w1793) (fun _ h9 => h9) rfl dX12_visits_177 ?_
        refine lv_iload_n hx hb dX12_visits_180 rfl (lv_at hl 2 rfl) ?_
        refine lv_iconst (v := 2) hx hb dX12_visits_181 (by decide) ?_
        refine va_iast (D := D) (i := p0) (x := 2) hx hb hK hP hD hS 63 62 rfl rfl (i_in (a := p0.toInt) rfl (by first | omega | ((try (have i_tb := Imp.go tb (by omega))); (try (have i_v6 := Imp.go v6 (by omega))); (try (have i_v4 := Imp.go v4 (by omega))); (try (have i_v4 := Imp.go v4 (by omega))); (try (have i_v6 := Imp.go v6 (by omega))); (try (have i_tb := Imp.go tb (by omega))); omega))) dX12_visits_182 (fun H locs hP hD hS => ?_)
        obtain ⟨V21, hV21⟩ : ∃ z, z = up2 V20 87 (Int32.toNatClampNeg p0) 2 := ⟨_, rfl⟩
        have hP : va_P D vwCl (mw ad kk ks.1 V21 L) H := by rw [hV21]; exact hP
        have hD : va_D A (mw ad kk ks.1 V21 L) := by rw [hV21]; exact hD
        have hMV21 : rgd bM V21 := hMV20.put hV21 (show 0 ≤ Int32.toInt 2 ∧ Int32.toInt 2 ≤ 2 from by decide)
        have agV21 : agr [(0, 81), (0, 89)] [80, 82, 83, 84, 85, 87, 88] V V21 := agV20.up hV21 rfl
        have pq22 : (V21 0 89).toInt = z19.toInt := congrArg Int32.toInt ((up2_o hV21 (by decide)).trans (up2_s hV20))
        have cz23 : cz V20 24 = cz V9 24 := cz_o hV20 (by decide)
        have cz24 : cz V21 24 ≤ cz V20 24 := (cz_put hV21 (by decide) 24).1
        have pq25 : (V21 0 81).toInt = ((V9 0 81)).toInt := congrArg Int32.toInt ((up2_o hV21 (by decide)).trans (up2_k hV20 (by decide)))
        have c026 : c0k V V21 := (c0k.tr (V := V) (W := V20) (X := V21) (c0k.tr (V := V) (W := V9) (X := V20) xlp10_5 (Or.inl (up2_o hV20 (by decide))) agV9 ⟨rfl, fun _ => rfl, fun _ => rfl, fun _ => rfl, fun _ => rfl, fun _ => rfl, fun _ => rfl⟩) (Or.inl (up2_o hV21 (by decide))) agV20 ⟨rfl, fun _ => rfl, fun _ => rfl, fun _ => rfl, fun _ => rfl, fun _ => rfl, fun _ => rfl⟩)
        exact W.vret hx hb hr (fun t ht hW => ⟨⟨(V21, L), rfl, ⟨hMV21, agV21, rfl, (show (V21 0 89).toInt = (V 0 89).toInt from by first | omega | ((try (have i_tb := Imp.go tb (by omega))); (try (have i_v6 := Imp.go v6 (by omega))); (try (have i_v4 := Imp.go v4 (by omega))); (try (have i_v4 := Imp.go v4 (by omega))); (try (have i_v6 := Imp.go v6 (by omega))); (try (have i_tb := Imp.go tb (by omega))); omega)), (show (cz V21 24 : Int) + 1 ≤ (cz V 24 : Int) from by first | omega | ((try (have i_tb := Imp.go tb (by omega))); (try (have i_v6 := Imp.go v6 (by omega))); (try (have i_v4 := Imp.go v4 (by omega))); (try (have i_v4 := Imp.go v4 (by omega))); (try (have i_v6 := Imp.go v6 (by omega))); (try (have i_tb := Imp.go tb (by omega))); omega)), (show (V21 0 81).toInt + 192 * (cz V21 24 : Int) ≤ FM from by first | omega | ((try (have i_tb := Imp.go tb (by omega))); (try (have i_v6 := Imp.go v6 (by omega))); (try (have i_v4 := Imp.go v4 (by omega))); (try (have i_v4 := Imp.go v4 (by omega))); (try (have i_v6 := Imp.go v6 (by omega))); (try (have i_tb := Imp.go tb (by omega))); omega)), (show (V 0 81).toInt ≤ (V21 0 81).toInt from by first | omega | ((try (have i_tb := Imp.go tb (by omega))); (try (have i_v6 := Imp.go v6 (by omega))); (try (have i_v4 := Imp.go v4 (by omega))); (try (have i_v4 := Imp.go v4 (by omega))); (try (have i_v6 := Imp.go v6 (by omega))); (try (have i_tb := Imp.go tb (by omega))); omega)), (visP.fin xlp10_4 hV20 hV21 rfl (by decide)), c026⟩, by rw [ht]; exact hP, va_K.moved hW.alike hK, hD⟩, hS.F ht⟩) hS.2.2 dX12_visits_183
      · skip
        have f27 : y8.toInt < ((V 27 (Int32.toNatClampNeg z15))).toInt := b_nle rfl rfl c17
        refine lv_bipush (v := 8) hx hb dX12_visits_47 (by decide) ?_
        refine lv_bipush (v := 24) hx hb dX12_visits_49 (by decide) ?_
        refine lv_aload_n hx hb dX12_visits_51 rfl (lv_at hl 1 rfl) ?_
        refine va_get (D := D) (ci := 12) (v := .int (V9 0 11)) (C := RX12) (T := TX12) (N := 100) hx hb hg inX12 hown hK hP 0 rfl rfl 11 (by decide) (hg _ w1717) (fun _ h9 => h9) rfl dX12_visits_52 ?_
        refine g_top (v := (V 0 11)) ((ajV9 0 11 rfl).trans ((up2_k hV7 (by decide)).trans ((up2_o hV5 (by decide)).trans (up2_o hV4 (by decide))))) ?_
        refine lv_imul hx hb dX12_visits_55 ?_
        refine lv_topi (fun z28 ez28 => ?_)
        have hz28 : z28.toInt = 24 * ((V 0 11)).toInt := i_mul ez28 (by decide) rfl (by omega)
        refine lv_iload_n hx hb dX12_visits_56 rfl (lv_at hl 2 rfl) ?_
        refine lv_iadd hx hb dX12_visits_57 ?_
        refine lv_topi (fun z29 ez29 => ?_)
        have hz29 : z29.toInt = z28.toInt + p0.toInt := i_add ez29 rfl rfl (by omega)
        refine lv_imul hx hb dX12_visits_58 ?_
        refine lv_topi (fun z30 ez30 => ?_)
        have hz30 : z30.toInt = 8 * z29.toInt := i_mul ez30 (by decide) rfl (by omega)
        refine lv_iload_n hx hb dX12_visits_59 rfl (lv_at hl 0 rfl) ?_
        refine lv_iadd hx hb dX12_visits_60 ?_
        refine lv_topi (fun z31 ez31 => ?_)
        have hz31 : z31.toInt = z30.toInt + y8.toInt := i_add ez31 rfl rfl (by omega)
        refine lv_istore_n (lv' := [(3, .int z31), (2, .int y8), (0, .ref (ad 0)), (1, .int p0)]) hx hb dX12_visits_61 rfl hl (by decide) rfl (fun ls hl => ?_)
        have kn : (nwh V : Int) = (V 0 11).toInt := i_clamp (x := V 0 11) rfl (by omega)
        have kp0 := i_clamp (x := p0) rfl (by omega)
        have kl2 := i_clamp (x := y8) rfl (by omega)
        have ki : Int32.toNatClampNeg z15 = 24 * nwh V + Int32.toNatClampNeg p0 := by have h9 := i_clamp (x := z15) rfl (by omega); omega
        have k3 : Int32.toNatClampNeg z31 = 8 * (24 * nwh V + Int32.toNatClampNeg p0) + Int32.toNatClampNeg y8 := by have h9 := i_clamp (x := z31) rfl (by omega); omega
        have q27 : (V 27 (24 * nwh V + Int32.toNatClampNeg p0)).toInt = (V 27 (Int32.toNatClampNeg z15)).toInt := by rw [ki]
        have nt : 0 ≤ (V 28 (Int32.toNatClampNeg z31)).toInt := by rw [k3]; exact (((show TBL V (nwh V) _ from tb).1 (Int32.toNatClampNeg p0) (by omega)).2.2.2 (Int32.toNatClampNeg y8) (by omega)).1
        refine lv_aload_n hx hb dX12_visits_62 rfl (lv_at hl 2 rfl) ?_
        refine va_get (D := D) (ci := 12) (v := .ref (ad 29)) (C := RX12) (T := TX12) (N := 100) hx hb hg inX12 hown hK hP 0 rfl rfl 29 (by decide) (hg _ w1735) (fun _ h9 => h9) rfl dX12_visits_63 ?_
        refine lv_iload_n hx hb dX12_visits_66 rfl (lv_at hl 0 rfl) ?_
        refine va_zald (D := D) (i := z31) hx hb hK hP 22 21 rfl rfl (i_in (a := z31.toInt) rfl (by first | omega | ((try (have i_tb := Imp.go tb (by omega))); (try (have i_v6 := Imp.go v6 (by omega))); (try (have i_v4 := Imp.go v4 (by omega))); (try (have i_v4 := Imp.go v4 (by omega))); (try (have i_v6 := Imp.go v6 (by omega))); (try (have i_tb := Imp.go tb (by omega))); omega))) dX12_visits_67 ?_
        refine g_top (v := (V 29 (Int32.toNatClampNeg z31))) ((ajV9 29 (Int32.toNatClampNeg z31) rfl).trans ((up2_o hV7 (by decide)).trans ((up2_o hV5 (by decide)).trans (up2_o hV4 (by decide))))) ?_
        have r32 : 0 ≤ ((V 29 (Int32.toNatClampNeg z31))).toInt ∧ ((V 29 (Int32.toNatClampNeg z31))).toInt ≤ 1 := hMV 29 (Int32.toNatClampNeg z31)
        refine lv_if_ne (tgt := 160) hx hb dX12_visits_68 (by decide) (fun c33 => ?_) (fun c33 => ?_)
        · skip
          have f34 : ((V 29 (Int32.toNatClampNeg z31))).toInt ≠ 0 := b_neq rfl (by decide) c33
          obtain ⟨z35, ez35⟩ : ∃ y : Int32, y = y8 + 1 := ⟨_, rfl⟩
          have hz35 : z35.toInt = y8.toInt + 1 := i_add ez35 rfl (by decide) (by omega)
          refine lv_iinc (v := z35) (lv' := [(2, .int z35), (3, .int z31), (0, .ref (ad 0)), (1, .int p0)]) hx hb dX12_visits_160 hl (k := 1) rfl (by rw [ez35]; rfl) (by decide) rfl (fun ls hl => ?_)
          refine lv_goto (tgt := 29) hx hb dX12_visits_163 (by decide) ?_
          have c036 : c0k V V9 := xlp10_5
          exact ihlp10 z35 V9 H locs ls (by first | omega | ((try (have i_tb := Imp.go tb (by omega))); (try (have i_v6 := Imp.go v6 (by omega))); (try (have i_v4 := Imp.go v4 (by omega))); (try (have i_v4 := Imp.go v4 (by omega))); (try (have i_v6 := Imp.go v6 (by omega))); (try (have i_tb := Imp.go tb (by omega))); omega)) (show (V9 0 89).toInt = (V 0 89).toInt + 1 from by first | omega | ((try (have i_tb := Imp.go tb (by omega))); (try (have i_v6 := Imp.go v6 (by omega))); (try (have i_v4 := Imp.go v4 (by omega))); (try (have i_v4 := Imp.go v4 (by omega))); (try (have i_v6 := Imp.go v6 (by omega))); (try (have i_tb := Imp.go tb (by omega))); omega)) (show (cz V9 24 : Int) + 1 ≤ (cz V 24 : Int) from by first | omega | ((try (have i_tb := Imp.go tb (by omega))); (try (have i_v6 := Imp.go v6 (by omega))); (try (have i_v4 := Imp.go v4 (by omega))); (try (have i_v4 := Imp.go v4 (by omega))); (try (have i_v6 := Imp.go v6 (by omega))); (try (have i_tb := Imp.go tb (by omega))); omega)) (show (V9 0 81).toInt + 192 * (cz V9 24 : Int) + 192 ≤ FM + 24 * z35.toInt from by first | omega | ((try (have i_tb := Imp.go tb (by omega))); (try (have i_v6 := Imp.go v6 (by omega))); (try (have i_v4 := Imp.go v4 (by omega))); (try (have i_v4 := Imp.go v4 (by omega))); (try (have i_v6 := Imp.go v6 (by omega))); (try (have i_tb := Imp.go tb (by omega))); omega)) (show (V 0 81).toInt ≤ (V9 0 81).toInt from by first | omega | ((try (have i_tb := Imp.go tb (by omega))); (try (have i_v6 := Imp.go v6 (by omega))); (try (have i_v4 := Imp.go v4 (by omega))); (try (have i_v4 := Imp.go v4 (by omega))); (try (have i_v6 := Imp.go v6 (by omega))); (try (have i_tb := Imp.go tb (by omega))); omega)) xlp10_4 c036 (by first | omega | ((try (have i_tb := Imp.go tb (by omega))); (try (have i_v6 := Imp.go v6 (by omega))); (try (have i_v4 := Imp.go v4 (by omega))); (try (have i_v4 := Imp.go v4 (by omega))); (try (have i_v6 := Imp.go v6 (by omega))); (try (have i_tb := Imp.go tb (by omega))); omega)) (agr.tr agr.rf ajV9 (by decide) (by decide)) hMV9 hP hD hS (lv_sub hl [0, 2, 3] rfl)
        · skip
          have f37 : ((V 29 (Int32.toNatClampNeg z31))).toInt = 0 := b_eq rfl (by decide) c33
          refine lv_aload_n hx hb dX12_visits_71 rfl (lv_at hl 2 rfl) ?_
          refine va_get (D := D) (ci := 12) (v := .ref (ad 86)) (C := RX12) (T := TX12) (N := 100) hx hb hg inX12 hown hK hP 0 rfl rfl 86 (by decide) (hg _ w1792) (fun _ h9 => h9) rfl dX12_visits_72 ?_
          refine lv_bipush (v := 8) hx hb dX12_visits_75 (by decide) ?_
          refine lv_iload_n hx hb dX12_visits_77 rfl (lv_at hl 3 rfl) ?_
          refine lv_imul hx hb dX12_visits_78 ?_
          refine lv_topi (fun z38 ez38 => ?_)
          have hz38 : z38.toInt = 8 * p0.toInt := i_mul ez38 (by decide) rfl (by omega)
          refine lv_iload_n hx hb dX12_visits_79 rfl (lv_at hl 1 rfl) ?_
          refine lv_iadd hx hb dX12_visits_80 ?_
          refine lv_topi (fun z39 ez39 => ?_)
          have hz39 : z39.toInt = z38.toInt + y8.toInt := i_add ez39 rfl rfl (by omega)
          refine va_zald (D := D) (i := z39) hx hb hK hP 62 61 rfl rfl (i_in (a := z39.toInt) rfl (by first | omega | ((try (have i_tb := Imp.go tb (by omega))); (try (have i_v6 := Imp.go v6 (by omega))); (try (have i_v4 := Imp.go v4 (by omega))); (try (have i_v4 := Imp.go v4 (by omega))); (try (have i_v6 := Imp.go v6 (by omega))); (try (have i_tb := Imp.go tb (by omega))); omega))) dX12_visits_81 ?_
          refine g_top (v := (V 86 (Int32.toNatClampNeg z39))) ((ajV9 86 (Int32.toNatClampNeg z39) rfl).trans ((up2_o hV7 (by decide)).trans ((up2_o hV5 (by decide)).trans (up2_o hV4 (by decide))))) ?_
          have r40 : 0 ≤ ((V 86 (Int32.toNatClampNeg z39))).toInt ∧ ((V 86 (Int32.toNatClampNeg z39))).toInt ≤ 1 := hMV 86 (Int32.toNatClampNeg z39)
          refine lv_if_eq (tgt := 88) hx hb dX12_visits_82 (by decide) (fun c41 => ?_) (fun c41 => ?_)
          · skip
            have f42 : ((V 86 (Int32.toNatClampNeg z39))).toInt = 0 := b_eq rfl (by decide) c41
            refine lv_iconst (v := 0) hx hb dX12_visits_88 (by decide) ?_
            refine lv_istore (lv' := [(4, .int 0), (3, .int z31), (2, .int y8), (0, .ref (ad 0)), (1, .int p0)]) hx hb dX12_visits_89 hl (by decide) rfl (fun ls hl => ?_)
            have lp45 : ∀ (fulp45 : Nat) (y43 : Int32) (V44 : Vf) (H : Heap) (locs : List Loc) (ls : Array Slot), 0 ≤ y43.toInt ∧ y43.toInt ≤ 24 → (V44 0 89).toInt = (V 0 89).toInt + 1 → (cz V44 24 : Int) + 1 ≤ (cz V 24 : Int) → (V44 0 81).toInt + 192 * (cz V44 24 : Int) + 192 ≤ FM + 24 * y8.toInt + y43.toInt → (V 0 81).toInt ≤ (V44 0 81).toInt → visI V V44 (Int32.toNatClampNeg p0) → c0k V V44 → 24 - y43.toInt < (fulp45 : Int) → agr [(0, 81), (0, 89)] [80, 82, 83, 84, 85, 87, 88] V9 V44 → rgd bM V44 → va_P D vwCl (mw ad kk ks.1 V44 L) H → va_D A (mw ad kk ks.1 V44 L) → va_S A s.heap H locs → lv_has ls 5 [(4, .int y43), (3, .int z31), (2, .int y8), (0, .ref (ad 0)), (1, .int p0)] → W p l e (rK 8 260 dd) s m ([.ref (ad 0), .int p0] : List Value).toArray below meth c H locs 0 0 (MQ below (q_s_visits D ks ad kk V L p0 FM A) ([.ref (ad 0), .int p0] : List Value).toArray s 0 0 A) (F0 m 91 ls []) := by
              intro fulp45
              induction fulp45 with
              | zero =>
                intro y43 V44 H locs ls klp45_0 xlp45_0 xlp45_1 xlp45_2 xlp45_3 xlp45_4 xlp45_5 hn ajV44 hMV44 hP hD hS hl
                exfalso; omega
              | succ fulp45 ihlp45 =>
                intro y43 V44 H locs ls klp45_0 xlp45_0 xlp45_1 xlp45_2 xlp45_3 xlp45_4 xlp45_5 hn ajV44 hMV44 hP hD hS hl
                have agV44 : agr [(0, 81), (0, 89)] [80, 82, 83, 84, 85, 87, 88] V V44 := agV9.tr ajV44 (by decide) (by decide)
                have r46 : 0 ≤ ((V44 0 89)).toInt ∧ ((V44 0 89)).toInt ≤ 24 := hMV44 0 89
                have r47 : 0 ≤ ((V44 0 81)).toInt ∧ ((V44 0 81)).toInt ≤ 1000000 := hMV44 0 81
                refine lv_iload hx hb dX12_visits_91 (lv_at hl 0 rfl) ?_
                refine lv_aload_n hx hb dX12_visits_93 rfl (lv_at hl 3 rfl) ?_
                refine va_get (D := D) (ci := 12) (v := .ref (ad 19)) (C := RX12) (T := TX12) (N := 100) hx hb hg inX12 hown hK hP 0 rfl rfl 19 (by decide) (hg _ w1725) (fun _ h9 => h9) rfl dX12_visits_94 ?_
                refine lv_aload_n hx hb dX12_visits_97 rfl (lv_at hl 3 rfl) ?_
                refine va_get (D := D) (ci := 12) (v := .int (V44 0 11)) (C := RX12) (T := TX12) (N := 100) hx hb hg inX12 hown hK hP 0 rfl rfl 11 (by decide) (hg _ w1717) (fun _ h9 => h9) rfl dX12_visits_98 ?_
                refine g_top (v := (V 0 11)) ((ajV44 0 11 rfl).trans ((ajV9 0 11 rfl).trans ((up2_k hV7 (by decide)).trans ((up2_o hV5 (by decide)).trans (up2_o hV4 (by decide)))))) ?_
                refine va_iald (D := D) (i := (V 0 11)) hx hb hK hP 12 11 rfl rfl (i_in (a := ((V 0 11)).toInt) rfl (by first | omega | ((try (have i_tb := Imp.go tb (by omega))); (try (have i_v6 := Imp.go v6 (by omega))); (try (have i_v4 := Imp.go v4 (by omega))); (try (have i_v4 := Imp.go v4 (by omega))); (try (have i_v6 := Imp.go v6 (by omega))); (try (have i_tb := Imp.go tb (by omega))); omega))) dX12_visits_101 ?_
                refine g_top (v := (V 19 (Int32.toNatClampNeg (V 0 11)))) ((ajV44 19 (Int32.toNatClampNeg (V 0 11)) rfl).trans ((ajV9 19 (Int32.toNatClampNeg (V 0 11)) rfl).trans ((up2_o hV7 (by decide)).trans ((up2_o hV5 (by decide)).trans (up2_o hV4 (by decide)))))) ?_
                have r48 : 0 ≤ ((V 19 (Int32.toNatClampNeg (V 0 11)))).toInt ∧ ((V 19 (Int32.toNatClampNeg (V 0 11)))).toInt ≤ 24 := hMV 19 (Int32.toNatClampNeg (V 0 11))
                refine lv_icmp_ge (tgt := 160) hx hb dX12_visits_102 (by decide) (fun c49 => ?_) (fun c49 => ?_)
                · skip
                  have f50 : ((V 19 (Int32.toNatClampNeg (V 0 11)))).toInt ≤ y43.toInt := b_le rfl rfl c49
                  obtain ⟨z51, ez51⟩ : ∃ y : Int32, y = y8 + 1 := ⟨_, rfl⟩
                  have hz51 : z51.toInt = y8.toInt + 1 := i_add ez51 rfl (by decide) (by omega)
                  refine lv_iinc (v := z51) (lv' := [(2, .int z51), (4, .int y43), (3, .int z31), (0, .ref (ad 0)), (1, .int p0)]) hx hb dX12_visits_160 hl (k := 2) rfl (by rw [ez51]; rfl) (by decide) rfl (fun ls hl => ?_)
                  refine lv_goto (tgt := 29) hx hb dX12_visits_163 (by decide) ?_
                  have c052 : c0k V V44 := xlp45_5
                  exact ihlp10 z51 V44 H locs ls (by first | omega | ((try (have i_tb := Imp.go tb (by omega))); (try (have i_v6 := Imp.go v6 (by omega))); (try (have i_v4 := Imp.go v4 (by omega))); (try (have i_v4 := Imp.go v4 (by omega))); (try (have i_v6 := Imp.go v6 (by omega))); (try (have i_tb := Imp.go tb (by omega))); omega)) (show (V44 0 89).toInt = (V 0 89).toInt + 1 from by first | omega | ((try (have i_tb := Imp.go tb (by omega))); (try (have i_v6 := Imp.go v6 (by omega))); (try (have i_v4 := Imp.go v4 (by omega))); (try (have i_v4 := Imp.go v4 (by omega))); (try (have i_v6 := Imp.go v6 (by omega))); (try (have i_tb := Imp.go tb (by omega))); omega)) (show (cz V44 24 : Int) + 1 ≤ (cz V 24 : Int) from by first | omega | ((try (have i_tb := Imp.go tb (by omega))); (try (have i_v6 := Imp.go v6 (by omega))); (try (have i_v4 := Imp.go v4 (by omega))); (try (have i_v4 := Imp.go v4 (by omega))); (try (have i_v6 := Imp.go v6 (by omega))); (try (have i_tb := Imp.go tb (by omega))); omega)) (show (V44 0 81).toInt + 192 * (cz V44 24 : Int) + 192 ≤ FM + 24 * z51.toInt from by first | omega | ((try (have i_tb := Imp.go tb (by omega))); (try (have i_v6 := Imp.go v6 (by omega))); (try (have i_v4 := Imp.go v4 (by omega))); (try (have i_v4 := Imp.go v4 (by omega))); (try (have i_v6 := Imp.go v6 (by omega))); (try (have i_tb := Imp.go tb (by omega))); omega)) (show (V 0 81).toInt ≤ (V44 0 81).toInt from by first | omega | ((try (have i_tb := Imp.go tb (by omega))); (try (have i_v6 := Imp.go v6 (by omega))); (try (have i_v4 := Imp.go v4 (by omega))); (try (have i_v4 := Imp.go v4 (by omega))); (try (have i_v6 := Imp.go v6 (by omega))); (try (have i_tb := Imp.go tb (by omega))); omega)) xlp45_4 c052 (by first | omega | ((try (have i_tb := Imp.go tb (by omega))); (try (have i_v6 := Imp.go v6 (by omega))); (try (have i_v4 := Imp.go v4 (by omega))); (try (have i_v4 := Imp.go v4 (by omega))); (try (have i_v6 := Imp.go v6 (by omega))); (try (have i_tb := Imp.go tb (by omega))); omega)) (agr.tr (agr.tr agr.rf ajV9 (by decide) (by decide)) ajV44 (by decide) (by decide)) hMV44 hP hD hS (lv_sub hl [0, 3, 4] rfl)
                · skip
                  have f53 : y43.toInt < ((V 19 (Int32.toNatClampNeg (V 0 11)))).toInt := b_nle rfl rfl c49
                  refine lv_aload_n hx hb dX12_visits_105 rfl (lv_at hl 3 rfl) ?_
                  refine lv_iload_n hx hb dX12_visits_106 rfl (lv_at hl 1 rfl) ?_
                  refine lv_iload hx hb dX12_visits_107 (lv_at hl 0 rfl) ?_
                  have pq54 : (V44 28 (Int32.toNatClampNeg z31)).toInt = ((V 28 (Int32.toNatClampNeg z31))).toInt := congrArg Int32.toInt ((ajV44 28 (Int32.toNatClampNeg z31) rfl).trans ((ajV9 28 (Int32.toNatClampNeg z31) rfl).trans ((up2_o hV7 (by decide)).trans ((up2_o hV5 (by decide)).trans (up2_o hV4 (by decide))))))
                  have r55 : (-1) ≤ ((V 28 (Int32.toNatClampNeg z31))).toInt ∧ ((V 28 (Int32.toNatClampNeg z31))).toInt ≤ 23 := hMV 28 (Int32.toNatClampNeg z31)
                  refine gA_int (gA_runV (As := [.int z31, .int y43]) (rest := []) (ci := 12) (q0 := 0) hx hb hml hown hg hP hD hK hS hA hnw hgk (s_isCandidate2 l D ks H.size ad kk V44 L z31 y43 hMV44 (by first | omega | ((try (have i_tb := Imp.go tb (by omega))); (try (have i_v6 := Imp.go v6 (by omega))); (try (have i_v4 := Imp.go v4 (by omega))); (try (have i_v4 := Imp.go v4 (by omega))); (try (have i_v6 := Imp.go v6 (by omega))); (try (have i_tb := Imp.go tb (by omega))); omega)) (show 0 ≤ (V44 28 (Int32.toNatClampNeg z31)).toInt from by first | omega | ((try (have i_tb := Imp.go tb (by omega))); (try (have i_v6 := Imp.go v6 (by omega))); (try (have i_v4 := Imp.go v4 (by omega))); (try (have i_v4 := Imp.go v4 (by omega))); (try (have i_v6 := Imp.go v6 (by omega))); (try (have i_tb := Imp.go tb (by omega))); omega))) w2191 w2193 w123 w172 w2194 rfl rfl hdV_yX12_isCandidate ⟨(by show 3 + 1 ≤ 10 * dd + 8; omega), (by show 8 + (6 + 11) + (69) ≤ 300 * dd + 260; omega)⟩ rfl hl.1 rfl (Nat.le_of_ble_eq_true rfl) dX12_visits_109 ⟨Nat.le_of_ble_eq_true rfl, Nat.le_of_ble_eq_true rfl⟩) hP hD hK hS hA (fun z56 u57 H locs w58 hP hD hK hS => ?_)
                  obtain ⟨V61, L62⟩ := u57
                  obtain ⟨hMV61, ajV61, axL62, rgz56, t59, t60⟩ := w58
                  have axL62 : L = L62 := Eq.symm axL62
                  subst axL62
                  have hP : va_P D vwCl (mw ad kk ks.1 V61 L) H := hP
                  have hD : va_D A (mw ad kk ks.1 V61 L) := hD
                  have hMV61 : rgd bM V61 := hMV61
                  have ajV61 : agr [] [80] V44 V61 := ajV61
                  have agV61 : agr [(0, 81), (0, 89)] [80, 82, 83, 84, 85, 87, 88] V V61 := agV44.tr ajV61 (by decide) (by decide)
                  have rgz56 : 0 ≤ z56.toInt ∧ z56.toInt ≤ 1 := rgz56
                  have t59 : Imp (z56.toInt = 1) (th V44 (Int32.toNatClampNeg y43)) := t59
                  have t60 : c0k V44 V61 := t60
                  refine lv_if_ne (tgt := 118) hx hb dX12_visits_112 (by decide) (fun c63 => ?_) (fun c63 => ?_)
                  · skip
                    have f64 : z56.toInt ≠ 0 := b_neq rfl (by decide) c63
                    refine lv_aload_n hx hb dX12_visits_118 rfl (lv_at hl 3 rfl) ?_
                    refine va_get (D := D) (ci := 12) (v := .ref (ad 87)) (C := RX12) (T := TX12) (N := 100) hx hb hg inX12 hown hK hP 0 rfl rfl 87 (by decide) (hg _ w1793) (fun _ h9 => h9) rfl dX12_visits_119 ?_
                    refine lv_iload hx hb dX12_visits_122 (lv_at hl 0 rfl) ?_
                    refine va_iald (D := D) (i := y43) hx hb hK hP 63 62 rfl rfl (i_in (a := y43.toInt) rfl (by first | omega | ((try (have i_tb := Imp.go tb (by omega))); (try (have i_v6 := Imp.go v6 (by omega))); (try (have i_v4 := Imp.go v4 (by omega))); (try (have i_v4 := Imp.go v4 (by omega))); (try (have i_v6 := Imp.go v6 (by omega))); (try (have i_tb := Imp.go tb (by omega))); omega))) dX12_visits_124 ?_
                    refine g_top (v := (V44 87 (Int32.toNatClampNeg y43))) (ajV61 87 (Int32.toNatClampNeg y43) rfl) ?_
                    have r65 : 0 ≤ ((V44 87 (Int32.toNatClampNeg y43))).toInt ∧ ((V44 87 (Int32.toNatClampNeg y43))).toInt ≤ 2 := hMV44 87 (Int32.toNatClampNeg y43)
                    refine lv_iconst (v := 1) hx hb dX12_visits_125 (by decide) ?_
                    refine lv_icmp_ne (tgt := 138) hx hb dX12_visits_126 (by decide) (fun c66 => ?_) (fun c66 => ?_)
                    · skip
                      have f67 : ((V44 87 (Int32.toNatClampNeg y43))).toInt ≠ 1 := b_neq rfl (by decide) c66
                      refine lv_aload_n hx hb dX12_visits_138 rfl (lv_at hl 3 rfl) ?_
                      refine va_get (D := D) (ci := 12) (v := .ref (ad 87)) (C := RX12) (T := TX12) (N := 100) hx hb hg inX12 hown hK hP 0 rfl rfl 87 (by decide) (hg _ w1793) (fun _ h9 => h9) rfl dX12_visits_139 ?_
                      refine lv_iload hx hb dX12_visits_142 (lv_at hl 0 rfl) ?_
                      refine va_iald (D := D) (i := y43) hx hb hK hP 63 62 rfl rfl (i_in (a := y43.toInt) rfl (by first | omega | ((try (have i_tb := Imp.go tb (by omega))); (try (have i_v6 := Imp.go v6 (by omega))); (try (have i_v4 := Imp.go v4 (by omega))); (try (have i_v4 := Imp.go v4 (by omega))); (try (have i_v6 := Imp.go v6 (by omega))); (try (have i_tb := Imp.go tb (by omega))); omega))) dX12_visits_144 ?_
                      refine g_top (v := (V44 87 (Int32.toNatClampNeg y43))) (ajV61 87 (Int32.toNatClampNeg y43) rfl) ?_
                      refine lv_if_ne (tgt := 154) hx hb dX12_visits_145 (by decide) (fun c68 => ?_) (fun c68 => ?_)
                      · skip
                        have f69 : ((V44 87 (Int32.toNatClampNeg y43))).toInt ≠ 0 := b_neq rfl (by decide) c68
                        obtain ⟨z70, ez70⟩ : ∃ y : Int32, y = y43 + 1 := ⟨_, rfl⟩
                        have hz70 : z70.toInt = y43.toInt + 1 := i_add ez70 rfl (by decide) (by omega)
                        refine lv_iinc (v := z70) (lv' := [(4, .int z70), (3, .int z31), (2, .int y8), (0, .ref (ad 0)), (1, .int p0)]) hx hb dX12_visits_154 hl (k := 0) rfl (by rw [ez70]; rfl) (by decide) rfl (fun ls hl => ?_)
                        refine lv_goto (tgt := 91) hx hb dX12_visits_157 (by decide) ?_
                        have pq71 : (V61 0 89).toInt = ((V44 0 89)).toInt := congrArg Int32.toInt (ajV61 0 89 rfl)
                        have cz72 : cz V61 24 = cz V44 24 := cz_ag ajV61 (fun _ => rfl)
                        have pq73 : (V61 0 81).toInt = ((V44 0 81)).toInt := congrArg Int32.toInt (ajV61 0 81 rfl)
                        have c074 : c0k V V61 := (c0k.tr (V := V) (W := V44) (X := V61) xlp45_5 t60 agV44 ⟨rfl, fun _ => rfl, fun _ => rfl, fun _ => rfl, fun _ => rfl, fun _ => rfl, fun _ => rfl⟩)
                        exact ihlp45 z70 V61 H locs ls (by first | omega | ((try (have i_tb := Imp.go tb (by omega))); (try (have i_v6 := Imp.go v6 (by omega))); (try (have i_v4 := Imp.go v4 (by omega))); (try (have i_v4 := Imp.go v4 (by omega))); (try (have i_v6 := Imp.go v6 (by omega))); (try (have i_tb := Imp.go tb (by omega))); omega)) (show (V61 0 89).toInt = (V 0 89).toInt + 1 from by first | omega | ((try (have i_tb := Imp.go tb (by omega))); (try (have i_v6 := Imp.go v6 (by omega))); (try (have i_v4 := Imp.go v4 (by omega))); (try (have i_v4 := Imp.go v4 (by omega))); (try (have i_v6 := Imp.go v6 (by omega))); (try (have i_tb := Imp.go tb (by omega))); omega)) (show (cz V61 24 : Int) + 1 ≤ (cz V 24 : Int) from by first | omega | ((try (have i_tb := Imp.go tb (by omega))); (try (have i_v6 := Imp.go v6 (by omega))); (try (have i_v4 := Imp.go v4 (by omega))); (try (have i_v4 := Imp.go v4 (by omega))); (try (have i_v6 := Imp.go v6 (by omega))); (try (have i_tb := Imp.go tb (by omega))); omega)) (show (V61 0 81).toInt + 192 * (cz V61 24 : Int) + 192 ≤ FM + 24 * y8.toInt + z70.toInt from by first | omega | ((try (have i_tb := Imp.go tb (by omega))); (try (have i_v6 := Imp.go v6 (by omega))); (try (have i_v4 := Imp.go v4 (by omega))); (try (have i_v4 := Imp.go v4 (by omega))); (try (have i_v6 := Imp.go v6 (by omega))); (try (have i_tb := Imp.go tb (by omega))); omega)) (show (V 0 81).toInt ≤ (V61 0 81).toInt from by first | omega | ((try (have i_tb := Imp.go tb (by omega))); (try (have i_v6 := Imp.go v6 (by omega))); (try (have i_v4 := Imp.go v4 (by omega))); (try (have i_v4 := Imp.go v4 (by omega))); (try (have i_v6 := Imp.go v6 (by omega))); (try (have i_tb := Imp.go tb (by omega))); omega)) (visI.ag xlp45_4 ajV61 (fun _ => rfl) (fun _ => rfl)) c074 (by first | omega | ((try (have i_tb := Imp.go tb (by omega))); (try (have i_v6 := Imp.go v6 (by omega))); (try (have i_v4 := Imp.go v4 (by omega))); (try (have i_v4 := Imp.go v4 (by omega))); (try (have i_v6 := Imp.go v6 (by omega))); (try (have i_tb := Imp.go tb (by omega))); omega)) (agr.tr (agr.tr agr.rf ajV44 (by decide) (by decide)) ajV61 (by decide) (by decide)) hMV61 hP hD hS (lv_sub hl [0, 1, 2, 3, 4] rfl)
                      · skip
                        have f75 : ((V44 87 (Int32.toNatClampNeg y43))).toInt = 0 := b_eq rfl (by decide) c68
                        have pq76 : (V61 0 89).toInt = ((V44 0 89)).toInt := congrArg Int32.toInt (ajV61 0 89 rfl)
                        have wy : WY V61 := WY.I v4 (visI.ag xlp45_4 ajV61 (fun _ => rfl) (fun _ => rfl)) (by omega) (by omega) (nwh_ag agV61 ⟨rfl, fun _ => rfl, fun _ => rfl, fun _ => rfl, fun _ => rfl, fun _ => rfl, fun _ => rfl⟩).2
                        have cz77 : cz V61 24 = cz V44 24 := cz_ag ajV61 (fun _ => rfl)
                        have pq78 : (V61 0 81).toInt = ((V44 0 81)).toInt := congrArg Int32.toInt (ajV61 0 81 rfl)
                        obtain ⟨d9, rfl⟩ : ∃ d9, dd = d9 + 1 := ⟨dd - 1, by omega⟩
                        refine lv_aload_n hx hb dX12_visits_148 rfl (lv_at hl 3 rfl) ?_
                        refine lv_iload hx hb dX12_visits_149 (lv_at hl 0 rfl) ?_
                        have pq79 : (V61 87 (Int32.toNatClampNeg y43)).toInt = ((V44 87 (Int32.toNatClampNeg y43))).toInt := congrArg Int32.toInt (ajV61 87 (Int32.toNatClampNeg y43) rfl)
                        refine gA_void (gA_runV (As := [.int y43]) (rest := []) (ci := 12) (q0 := 0) hx hb hml hown hg hP hD hK hS hA hnw hgk ((hk_s_visits d9 rfl) H.size ad kk V61 L y43 (((V61 0 81).toInt + 192 * (cz V61 24 : Int))) hMV61 (by first | omega | ((try (have i_tb := Imp.go tb (by omega))); (try (have i_v6 := Imp.go v6 (by omega))); (try (have i_v4 := Imp.go v4 (by omega))); (try (have i_v4 := Imp.go v4 (by omega))); (try (have i_v6 := Imp.go v6 (by omega))); (try (have i_tb := Imp.go tb (by omega))); omega)) (show (cz V61 24 : Int) ≤ ((d9 : Nat) : Int) from by first | omega | ((try (have i_tb := Imp.go tb (by omega))); (try (have i_v6 := Imp.go v6 (by omega))); (try (have i_v4 := Imp.go v4 (by omega))); (try (have i_v4 := Imp.go v4 (by omega))); (try (have i_v6 := Imp.go v6 (by omega))); (try (have i_tb := Imp.go tb (by omega))); omega)) (show (V61 0 89).toInt + (cz V61 24 : Int) ≤ 24 from by first | omega | ((try (have i_tb := Imp.go tb (by omega))); (try (have i_v6 := Imp.go v6 (by omega))); (try (have i_v4 := Imp.go v4 (by omega))); (try (have i_v4 := Imp.go v4 (by omega))); (try (have i_v6 := Imp.go v6 (by omega))); (try (have i_tb := Imp.go tb (by omega))); omega)) (show (V61 87 (Int32.toNatClampNeg y43)).toInt = 0 from by first | omega | ((try (have i_tb := Imp.go tb (by omega))); (try (have i_v6 := Imp.go v6 (by omega))); (try (have i_v4 := Imp.go v4 (by omega))); (try (have i_v4 := Imp.go v4 (by omega))); (try (have i_v6 := Imp.go v6 (by omega))); (try (have i_tb := Imp.go tb (by omega))); omega)) wy (show (V61 0 81).toInt + 192 * (cz V61 24 : Int) ≤ (((V61 0 81).toInt + 192 * (cz V61 24 : Int))) from by first | omega | ((try (have i_tb := Imp.go tb (by omega))); (try (have i_v6 := Imp.go v6 (by omega))); (try (have i_v4 := Imp.go v4 (by omega))); (try (have i_v4 := Imp.go v4 (by omega))); (try (have i_v6 := Imp.go v6 (by omega))); (try (have i_tb := Imp.go tb (by omega))); omega)) (show (((V61 0 81).toInt + 192 * (cz V61 24 : Int))) ≤ 999000 from by first | omega | ((try (have i_tb := Imp.go tb (by omega))); (try (have i_v6 := Imp.go v6 (by omega))); (try (have i_v4 := Imp.go v4 (by omega))); (try (have i_v4 := Imp.go v4 (by omega))); (try (have i_v6 := Imp.go v6 (by omega))); (try (have i_tb := Imp.go tb (by omega))); omega)) (by rw [(nwh_ag agV61 ⟨rfl, fun _ => rfl, fun _ => rfl, fun _ => rfl, fun _ => rfl, fun _ => rfl, fun _ => rfl⟩).2]; show y43.toInt < (V 19 (Int32.toNatClampNeg (V 0 11))).toInt; first | omega | ((try (have i_tb := Imp.go tb (by omega))); (try (have i_v6 := Imp.go v6 (by omega))); (try (have i_v4 := Imp.go v4 (by omega))); (try (have i_v4 := Imp.go v4 (by omega))); (try (have i_v6 := Imp.go v6 (by omega))); (try (have i_tb := Imp.go tb (by omega))); omega)) (TB.ag tb hMV agV61 rfl (by decide) (by decide))) w2187 w2189 w122 w172 w2190 rfl rfl hdV_yX12_visits ⟨(by show 10 * d9 + 8 + 1 ≤ 10 * (d9 + 1) + 8; omega), (by show 8 + (5 + 11) + (300 * d9 + 260) ≤ 300 * (d9 + 1) + 260; omega)⟩ rfl hl.1 rfl (Nat.le_of_ble_eq_true rfl) dX12_visits_151 ⟨Nat.le_of_ble_eq_true rfl, Nat.le_of_ble_eq_true rfl⟩) hP hD hK hS hA (fun u81 H locs w82 hP hD hK hS => ?_)
                        obtain ⟨V89, L90⟩ := u81
                        obtain ⟨hMV89, ajV89, axL90, t83, t84, t85, t86, t87, t88⟩ := w82
                        have axL90 : L = L90 := Eq.symm axL90
                        subst axL90
                        have hP : va_P D vwCl (mw ad kk ks.1 V89 L) H := hP
                        have hD : va_D A (mw ad kk ks.1 V89 L) := hD
                        have hMV89 : rgd bM V89 := hMV89
                        have ajV89 : agr [(0, 81), (0, 89)] [80, 82, 83, 84, 85, 87, 88] V61 V89 := ajV89
                        have agV89 : agr [(0, 81), (0, 89)] [80, 82, 83, 84, 85, 87, 88] V V89 := agV61.tr ajV89 (by decide) (by decide)
                        have t83 : (V89 0 89).toInt = (V61 0 89).toInt := t83
                        have t84 : (cz V89 24 : Int) + 1 ≤ (cz V61 24 : Int) := t84
                        have t85 : (V89 0 81).toInt + 192 * (cz V89 24 : Int) ≤ (((V61 0 81).toInt + 192 * (cz V61 24 : Int))) := t85
                        have t86 : (V61 0 81).toInt ≤ (V89 0 81).toInt := t86
                        have t87 : visP V61 V89 := t87
                        have t88 : c0k V61 V89 := t88
                        have r91 : 0 ≤ ((V89 0 89)).toInt ∧ ((V89 0 89)).toInt ≤ 24 := hMV89 0 89
                        have r92 : 0 ≤ ((V89 0 81)).toInt ∧ ((V89 0 81)).toInt ≤ 1000000 := hMV89 0 81
                        obtain ⟨z93, ez93⟩ : ∃ y : Int32, y = y43 + 1 := ⟨_, rfl⟩
                        have hz93 : z93.toInt = y43.toInt + 1 := i_add ez93 rfl (by decide) (by omega)
                        refine lv_iinc (v := z93) (lv' := [(4, .int z93), (3, .int z31), (2, .int y8), (0, .ref (ad 0)), (1, .int p0)]) hx hb dX12_visits_154 hl (k := 0) rfl (by rw [ez93]; rfl) (by decide) rfl (fun ls hl => ?_)
                        refine lv_goto (tgt := 91) hx hb dX12_visits_157 (by decide) ?_
                        have c094 : c0k V V89 := (c0k.tr (V := V) (W := V61) (X := V89) (c0k.tr (V := V) (W := V44) (X := V61) xlp45_5 t60 agV44 ⟨rfl, fun _ => rfl, fun _ => rfl, fun _ => rfl, fun _ => rfl, fun _ => rfl, fun _ => rfl⟩) t88 agV61 ⟨rfl, fun _ => rfl, fun _ => rfl, fun _ => rfl, fun _ => rfl, fun _ => rfl, fun _ => rfl⟩)
                        exact ihlp45 z93 V89 H locs ls (by first | omega | ((try (have i_tb := Imp.go tb (by omega))); (try (have i_v6 := Imp.go v6 (by omega))); (try (have i_v4 := Imp.go v4 (by omega))); (try (have i_v4 := Imp.go v4 (by omega))); (try (have i_v6 := Imp.go v6 (by omega))); (try (have i_tb := Imp.go tb (by omega))); omega)) (show (V89 0 89).toInt = (V 0 89).toInt + 1 from by first | omega | ((try (have i_tb := Imp.go tb (by omega))); (try (have i_v6 := Imp.go v6 (by omega))); (try (have i_v4 := Imp.go v4 (by omega))); (try (have i_v4 := Imp.go v4 (by omega))); (try (have i_v6 := Imp.go v6 (by omega))); (try (have i_tb := Imp.go tb (by omega))); omega)) (show (cz V89 24 : Int) + 1 ≤ (cz V 24 : Int) from by first | omega | ((try (have i_tb := Imp.go tb (by omega))); (try (have i_v6 := Imp.go v6 (by omega))); (try (have i_v4 := Imp.go v4 (by omega))); (try (have i_v4 := Imp.go v4 (by omega))); (try (have i_v6 := Imp.go v6 (by omega))); (try (have i_tb := Imp.go tb (by omega))); omega)) (show (V89 0 81).toInt + 192 * (cz V89 24 : Int) + 192 ≤ FM + 24 * y8.toInt + z93.toInt from by first | omega | ((try (have i_tb := Imp.go tb (by omega))); (try (have i_v6 := Imp.go v6 (by omega))); (try (have i_v4 := Imp.go v4 (by omega))); (try (have i_v4 := Imp.go v4 (by omega))); (try (have i_v6 := Imp.go v6 (by omega))); (try (have i_tb := Imp.go tb (by omega))); omega)) (show (V 0 81).toInt ≤ (V89 0 81).toInt from by first | omega | ((try (have i_tb := Imp.go tb (by omega))); (try (have i_v6 := Imp.go v6 (by omega))); (try (have i_v4 := Imp.go v4 (by omega))); (try (have i_v4 := Imp.go v4 (by omega))); (try (have i_v6 := Imp.go v6 (by omega))); (try (have i_tb := Imp.go tb (by omega))); omega)) (visI.P (visI.ag xlp45_4 ajV61 (fun _ => rfl) (fun _ => rfl)) t87 (by omega)) c094 (by first | omega | ((try (have i_tb := Imp.go tb (by omega))); (try (have i_v6 := Imp.go v6 (by omega))); (try (have i_v4 := Imp.go v4 (by omega))); (try (have i_v4 := Imp.go v4 (by omega))); (try (have i_v6 := Imp.go v6 (by omega))); (try (have i_tb := Imp.go tb (by omega))); omega)) (agr.tr (agr.tr (agr.tr agr.rf ajV44 (by decide) (by decide)) ajV61 (by decide) (by decide)) ajV89 (by decide) (by decide)) hMV89 hP hD hS (lv_sub hl [0, 1, 2, 3, 4] rfl)
                    · skip
                      have f95 : ((V44 87 (Int32.toNatClampNeg y43))).toInt = 1 := b_eq rfl (by decide) c66
                      have pq96 : (V61 0 89).toInt = ((V44 0 89)).toInt := congrArg Int32.toInt (ajV61 0 89 rfl)
                      have wy : WY V61 := WY.I v4 (visI.ag xlp45_4 ajV61 (fun _ => rfl) (fun _ => rfl)) (by omega) (by omega) (nwh_ag agV61 ⟨rfl, fun _ => rfl, fun _ => rfl, fun _ => rfl, fun _ => rfl, fun _ => rfl, fun _ => rfl⟩).2
                      have kd := i_clamp (x := y43) rfl (by omega)
                      have pq97 : (V61 87 (Int32.toNatClampNeg y43)).toInt = ((V44 87 (Int32.toNatClampNeg y43))).toInt := congrArg Int32.toInt (ajV61 87 (Int32.toNatClampNeg y43) rfl)
                      have e19 := congrArg Int32.toInt (nwh_ag agV61 ⟨rfl, fun _ => rfl, fun _ => rfl, fun _ => rfl, fun _ => rfl, fun _ => rfl, fun _ => rfl⟩).2
                      have e19b : (V 19 (nwh V)).toInt = (V 19 (Int32.toNatClampNeg (V 0 11))).toInt := rfl
                      obtain ⟨jj, hj1, hj2⟩ := wy (Int32.toNatClampNeg y43) (by omega) (by omega)
                      refine lv_aload_n hx hb dX12_visits_129 rfl (lv_at hl 3 rfl) ?_
                      refine lv_iload hx hb dX12_visits_130 (lv_at hl 0 rfl) ?_
                      have pq98 : (V61 0 81).toInt = ((V44 0 81)).toInt := congrArg Int32.toInt (ajV61 0 81 rfl)
                      have pq99 : (V61 88 jj).toInt = ((V44 88 jj)).toInt := congrArg Int32.toInt (ajV61 88 jj rfl)
                      have r100 : 0 ≤ ((V44 88 jj)).toInt ∧ ((V44 88 jj)).toInt ≤ 23 := hMV44 88 jj
                      refine gA_void (gA_runV (As := [.int y43]) (rest := []) (ci := 12) (q0 := 0) hx hb hml hown hg hP hD hK hS hA hnw hgk (s_addCycle l D ks H.size ad kk V61 L y43 (jj) hMV61 (by first | omega | ((try (have i_tb := Imp.go tb (by omega))); (try (have i_v6 := Imp.go v6 (by omega))); (try (have i_v4 := Imp.go v4 (by omega))); (try (have i_v4 := Imp.go v4 (by omega))); (try (have i_v6 := Imp.go v6 (by omega))); (try (have i_tb := Imp.go tb (by omega))); omega)) (show (V61 0 81).toInt ≤ 999999 from by first | omega | ((try (have i_tb := Imp.go tb (by omega))); (try (have i_v6 := Imp.go v6 (by omega))); (try (have i_v4 := Imp.go v4 (by omega))); (try (have i_v4 := Imp.go v4 (by omega))); (try (have i_v6 := Imp.go v6 (by omega))); (try (have i_tb := Imp.go tb (by omega))); omega)) (show (V61 88 (jj)).toInt = y43.toInt from by first | omega | ((try (have i_tb := Imp.go tb (by omega))); (try (have i_v6 := Imp.go v6 (by omega))); (try (have i_v4 := Imp.go v4 (by omega))); (try (have i_v4 := Imp.go v4 (by omega))); (try (have i_v6 := Imp.go v6 (by omega))); (try (have i_tb := Imp.go tb (by omega))); omega)) (show (jj) < (V61 0 89).toInt from by first | omega | ((try (have i_tb := Imp.go tb (by omega))); (try (have i_v6 := Imp.go v6 (by omega))); (try (have i_v4 := Imp.go v4 (by omega))); (try (have i_v4 := Imp.go v4 (by omega))); (try (have i_v6 := Imp.go v6 (by omega))); (try (have i_tb := Imp.go tb (by omega))); omega))) w2195 w2197 w124 w172 w2198 rfl rfl hdV_yX12_addCycle ⟨(by show 1 + 1 ≤ 10 * dd + 8; omega), (by show 8 + (4 + 11) + (23) ≤ 300 * dd + 260; omega)⟩ rfl hl.1 rfl (Nat.le_of_ble_eq_true rfl) dX12_visits_132 ⟨Nat.le_of_ble_eq_true rfl, Nat.le_of_ble_eq_true rfl⟩) hP hD hK hS hA (fun u102 H locs w103 hP hD hK hS => ?_)
                      obtain ⟨V105, L106⟩ := u102
                      obtain ⟨hMV105, ajV105, axL106, t104⟩ := w103
                      have axL106 : L = L106 := Eq.symm axL106
                      subst axL106
                      have hP : va_P D vwCl (mw ad kk ks.1 V105 L) H := hP
                      have hD : va_D A (mw ad kk ks.1 V105 L) := hD
                      have hMV105 : rgd bM V105 := hMV105
                      have ajV105 : agr [(0, 81)] [82, 83, 84, 85] V61 V105 := ajV105
                      have agV105 : agr [(0, 81), (0, 89)] [80, 82, 83, 84, 85, 87, 88] V V105 := agV61.tr ajV105 (by decide) (by decide)
                      have t104 : (V105 0 81).toInt = (V61 0 81).toInt + 1 := t104
                      have r107 : 0 ≤ ((V105 0 81)).toInt ∧ ((V105 0 81)).toInt ≤ 1000000 := hMV105 0 81
                      refine lv_goto (tgt := 154) hx hb dX12_visits_135 (by decide) ?_
                      obtain ⟨z108, ez108⟩ : ∃ y : Int32, y = y43 + 1 := ⟨_, rfl⟩
                      have hz108 : z108.toInt = y43.toInt + 1 := i_add ez108 rfl (by decide) (by omega)
                      refine lv_iinc (v := z108) (lv' := [(4, .int z108), (3, .int z31), (2, .int y8), (0, .ref (ad 0)), (1, .int p0)]) hx hb dX12_visits_154 hl (k := 0) rfl (by rw [ez108]; rfl) (by decide) rfl (fun ls hl => ?_)
                      refine lv_goto (tgt := 91) hx hb dX12_visits_157 (by decide) ?_
                      have pq109 : (V105 0 89).toInt = ((V44 0 89)).toInt := congrArg Int32.toInt ((ajV105 0 89 rfl).trans (ajV61 0 89 rfl))
                      have cz110 : cz V61 24 = cz V44 24 := cz_ag ajV61 (fun _ => rfl)
                      have cz111 : cz V105 24 = cz V61 24 := cz_ag ajV105 (fun _ => rfl)
                      have c0112 : c0k V V105 := (c0k.tr (V := V) (W := V61) (X := V105) (c0k.tr (V := V) (W := V44) (X := V61) xlp45_5 t60 agV44 ⟨rfl, fun _ => rfl, fun _ => rfl, fun _ => rfl, fun _ => rfl, fun _ => rfl, fun _ => rfl⟩) (c0k.ag ajV105 rfl) agV61 ⟨rfl, fun _ => rfl, fun _ => rfl, fun _ => rfl, fun _ => rfl, fun _ => rfl, fun _ => rfl⟩)
                      exact ihlp45 z108 V105 H locs ls (by first | omega | ((try (have i_tb := Imp.go tb (by omega))); (try (have i_v6 := Imp.go v6 (by omega))); (try (have i_v4 := Imp.go v4 (by omega))); (try (have i_v4 := Imp.go v4 (by omega))); (try (have i_v6 := Imp.go v6 (by omega))); (try (have i_tb := Imp.go tb (by omega))); omega)) (show (V105 0 89).toInt = (V 0 89).toInt + 1 from by first | omega | ((try (have i_tb := Imp.go tb (by omega))); (try (have i_v6 := Imp.go v6 (by omega))); (try (have i_v4 := Imp.go v4 (by omega))); (try (have i_v4 := Imp.go v4 (by omega))); (try (have i_v6 := Imp.go v6 (by omega))); (try (have i_tb := Imp.go tb (by omega))); omega)) (show (cz V105 24 : Int) + 1 ≤ (cz V 24 : Int) from by first | omega | ((try (have i_tb := Imp.go tb (by omega))); (try (have i_v6 := Imp.go v6 (by omega))); (try (have i_v4 := Imp.go v4 (by omega))); (try (have i_v4 := Imp.go v4 (by omega))); (try (have i_v6 := Imp.go v6 (by omega))); (try (have i_tb := Imp.go tb (by omega))); omega)) (show (V105 0 81).toInt + 192 * (cz V105 24 : Int) + 192 ≤ FM + 24 * y8.toInt + z108.toInt from by first | omega | ((try (have i_tb := Imp.go tb (by omega))); (try (have i_v6 := Imp.go v6 (by omega))); (try (have i_v4 := Imp.go v4 (by omega))); (try (have i_v4 := Imp.go v4 (by omega))); (try (have i_v6 := Imp.go v6 (by omega))); (try (have i_tb := Imp.go tb (by omega))); omega)) (show (V 0 81).toInt ≤ (V105 0 81).toInt from by first | omega | ((try (have i_tb := Imp.go tb (by omega))); (try (have i_v6 := Imp.go v6 (by omega))); (try (have i_v4 := Imp.go v4 (by omega))); (try (have i_v4 := Imp.go v4 (by omega))); (try (have i_v6 := Imp.go v6 (by omega))); (try (have i_tb := Imp.go tb (by omega))); omega)) (visI.ag (visI.ag xlp45_4 ajV61 (fun _ => rfl) (fun _ => rfl)) ajV105 (fun _ => rfl) (fun _ => rfl)) c0112 (by first | omega | ((try (have i_tb := Imp.go tb (by omega))); (try (have i_v6 := Imp.go v6 (by omega))); (try (have i_v4 := Imp.go v4 (by omega))); (try (have i_v4 := Imp.go v4 (by omega))); (try (have i_v6 := Imp.go v6 (by omega))); (try (have i_tb := Imp.go tb (by omega))); omega)) (agr.tr (agr.tr (agr.tr agr.rf ajV44 (by decide) (by decide)) ajV61 (by decide) (by decide)) ajV105 (by decide) (by decide)) hMV105 hP hD hS (lv_sub hl [0, 1, 2, 3, 4] rfl)
                  · skip
                    have f113 : z56.toInt = 0 := b_eq rfl (by decide) c63
                    refine lv_goto (tgt := 154) hx hb dX12_visits_115 (by decide) ?_
                    obtain ⟨z114, ez114⟩ : ∃ y : Int32, y = y43 + 1 := ⟨_, rfl⟩
                    have hz114 : z114.toInt = y43.toInt + 1 := i_add ez114 rfl (by decide) (by omega)
                    refine lv_iinc (v := z114) (lv' := [(4, .int z114), (3, .int z31), (2, .int y8), (0, .ref (ad 0)), (1, .int p0)]) hx hb dX12_visits_154 hl (k := 0) rfl (by rw [ez114]; rfl) (by decide) rfl (fun ls hl => ?_)
                    refine lv_goto (tgt := 91) hx hb dX12_visits_157 (by decide) ?_
                    have pq115 : (V61 0 89).toInt = ((V44 0 89)).toInt := congrArg Int32.toInt (ajV61 0 89 rfl)
                    have cz116 : cz V61 24 = cz V44 24 := cz_ag ajV61 (fun _ => rfl)
                    have pq117 : (V61 0 81).toInt = ((V44 0 81)).toInt := congrArg Int32.toInt (ajV61 0 81 rfl)
                    have c0118 : c0k V V61 := (c0k.tr (V := V) (W := V44) (X := V61) xlp45_5 t60 agV44 ⟨rfl, fun _ => rfl, fun _ => rfl, fun _ => rfl, fun _ => rfl, fun _ => rfl, fun _ => rfl⟩)
                    exact ihlp45 z114 V61 H locs ls (by first | omega | ((try (have i_tb := Imp.go tb (by omega))); (try (have i_v6 := Imp.go v6 (by omega))); (try (have i_v4 := Imp.go v4 (by omega))); (try (have i_v4 := Imp.go v4 (by omega))); (try (have i_v6 := Imp.go v6 (by omega))); (try (have i_tb := Imp.go tb (by omega))); omega)) (show (V61 0 89).toInt = (V 0 89).toInt + 1 from by first | omega | ((try (have i_tb := Imp.go tb (by omega))); (try (have i_v6 := Imp.go v6 (by omega))); (try (have i_v4 := Imp.go v4 (by omega))); (try (have i_v4 := Imp.go v4 (by omega))); (try (have i_v6 := Imp.go v6 (by omega))); (try (have i_tb := Imp.go tb (by omega))); omega)) (show (cz V61 24 : Int) + 1 ≤ (cz V 24 : Int) from by first | omega | ((try (have i_tb := Imp.go tb (by omega))); (try (have i_v6 := Imp.go v6 (by omega))); (try (have i_v4 := Imp.go v4 (by omega))); (try (have i_v4 := Imp.go v4 (by omega))); (try (have i_v6 := Imp.go v6 (by omega))); (try (have i_tb := Imp.go tb (by omega))); omega)) (show (V61 0 81).toInt + 192 * (cz V61 24 : Int) + 192 ≤ FM + 24 * y8.toInt + z114.toInt from by first | omega | ((try (have i_tb := Imp.go tb (by omega))); (try (have i_v6 := Imp.go v6 (by omega))); (try (have i_v4 := Imp.go v4 (by omega))); (try (have i_v4 := Imp.go v4 (by omega))); (try (have i_v6 := Imp.go v6 (by omega))); (try (have i_tb := Imp.go tb (by omega))); omega)) (show (V 0 81).toInt ≤ (V61 0 81).toInt from by first | omega | ((try (have i_tb := Imp.go tb (by omega))); (try (have i_v6 := Imp.go v6 (by omega))); (try (have i_v4 := Imp.go v4 (by omega))); (try (have i_v4 := Imp.go v4 (by omega))); (try (have i_v6 := Imp.go v6 (by omega))); (try (have i_tb := Imp.go tb (by omega))); omega)) (visI.ag xlp45_4 ajV61 (fun _ => rfl) (fun _ => rfl)) c0118 (by first | omega | ((try (have i_tb := Imp.go tb (by omega))); (try (have i_v6 := Imp.go v6 (by omega))); (try (have i_v4 := Imp.go v4 (by omega))); (try (have i_v4 := Imp.go v4 (by omega))); (try (have i_v6 := Imp.go v6 (by omega))); (try (have i_tb := Imp.go tb (by omega))); omega)) (agr.tr (agr.tr agr.rf ajV44 (by decide) (by decide)) ajV61 (by decide) (by decide)) hMV61 hP hD hS (lv_sub hl [0, 1, 2, 3, 4] rfl)
            have r119 : Int32.toInt 0 = 0 := by decide
            have c0120 : c0k V V9 := xlp10_5
            exact lp45 ((24 - (Int32.toInt 0) + 1 : Int).toNat) 0 V9 H locs ls (by decide) (show (V9 0 89).toInt = (V 0 89).toInt + 1 from by first | omega | ((try (have i_tb := Imp.go tb (by omega))); (try (have i_v6 := Imp.go v6 (by omega))); (try (have i_v4 := Imp.go v4 (by omega))); (try (have i_v4 := Imp.go v4 (by omega))); (try (have i_v6 := Imp.go v6 (by omega))); (try (have i_tb := Imp.go tb (by omega))); omega)) (show (cz V9 24 : Int) + 1 ≤ (cz V 24 : Int) from by first | omega | ((try (have i_tb := Imp.go tb (by omega))); (try (have i_v6 := Imp.go v6 (by omega))); (try (have i_v4 := Imp.go v4 (by omega))); (try (have i_v4 := Imp.go v4 (by omega))); (try (have i_v6 := Imp.go v6 (by omega))); (try (have i_tb := Imp.go tb (by omega))); omega)) (show (V9 0 81).toInt + 192 * (cz V9 24 : Int) + 192 ≤ FM + 24 * y8.toInt + (Int32.toInt 0) from by first | omega | ((try (have i_tb := Imp.go tb (by omega))); (try (have i_v6 := Imp.go v6 (by omega))); (try (have i_v4 := Imp.go v4 (by omega))); (try (have i_v4 := Imp.go v4 (by omega))); (try (have i_v6 := Imp.go v6 (by omega))); (try (have i_tb := Imp.go tb (by omega))); omega)) (show (V 0 81).toInt ≤ (V9 0 81).toInt from by first | omega | ((try (have i_tb := Imp.go tb (by omega))); (try (have i_v6 := Imp.go v6 (by omega))); (try (have i_v4 := Imp.go v4 (by omega))); (try (have i_v4 := Imp.go v4 (by omega))); (try (have i_v6 := Imp.go v6 (by omega))); (try (have i_tb := Imp.go tb (by omega))); omega)) xlp10_4 c0120 (by first | omega | ((try (have i_tb := Imp.go tb (by omega))); (try (have i_v6 := Imp.go v6 (by omega))); (try (have i_v4 := Imp.go v4 (by omega))); (try (have i_v4 := Imp.go v4 (by omega))); (try (have i_v6 := Imp.go v6 (by omega))); (try (have i_tb := Imp.go tb (by omega))); omega)) agr.rf hMV9 hP hD hS (lv_sub hl [0, 1, 2, 3, 4] rfl)
          · skip
            have f121 : ((V 86 (Int32.toNatClampNeg z39))).toInt ≠ 0 := b_neq rfl (by decide) c41
            refine lv_goto (tgt := 160) hx hb dX12_visits_85 (by decide) ?_
            obtain ⟨z122, ez122⟩ : ∃ y : Int32, y = y8 + 1 := ⟨_, rfl⟩
            have hz122 : z122.toInt = y8.toInt + 1 := i_add ez122 rfl (by decide) (by omega)
            refine lv_iinc (v := z122) (lv' := [(2, .int z122), (3, .int z31), (0, .ref (ad 0)), (1, .int p0)]) hx hb dX12_visits_160 hl (k := 1) rfl (by rw [ez122]; rfl) (by decide) rfl (fun ls hl => ?_)
            refine lv_goto (tgt := 29) hx hb dX12_visits_163 (by decide) ?_
            have c0123 : c0k V V9 := xlp10_5
            exact ihlp10 z122 V9 H locs ls (by first | omega | ((try (have i_tb := Imp.go tb (by omega))); (try (have i_v6 := Imp.go v6 (by omega))); (try (have i_v4 := Imp.go v4 (by omega))); (try (have i_v4 := Imp.go v4 (by omega))); (try (have i_v6 := Imp.go v6 (by omega))); (try (have i_tb := Imp.go tb (by omega))); omega)) (show (V9 0 89).toInt = (V 0 89).toInt + 1 from by first | omega | ((try (have i_tb := Imp.go tb (by omega))); (try (have i_v6 := Imp.go v6 (by omega))); (try (have i_v4 := Imp.go v4 (by omega))); (try (have i_v4 := Imp.go v4 (by omega))); (try (have i_v6 := Imp.go v6 (by omega))); (try (have i_tb := Imp.go tb (by omega))); omega)) (show (cz V9 24 : Int) + 1 ≤ (cz V 24 : Int) from by first | omega | ((try (have i_tb := Imp.go tb (by omega))); (try (have i_v6 := Imp.go v6 (by omega))); (try (have i_v4 := Imp.go v4 (by omega))); (try (have i_v4 := Imp.go v4 (by omega))); (try (have i_v6 := Imp.go v6 (by omega))); (try (have i_tb := Imp.go tb (by omega))); omega)) (show (V9 0 81).toInt + 192 * (cz V9 24 : Int) + 192 ≤ FM + 24 * z122.toInt from by first | omega | ((try (have i_tb := Imp.go tb (by omega))); (try (have i_v6 := Imp.go v6 (by omega))); (try (have i_v4 := Imp.go v4 (by omega))); (try (have i_v4 := Imp.go v4 (by omega))); (try (have i_v6 := Imp.go v6 (by omega))); (try (have i_tb := Imp.go tb (by omega))); omega)) (show (V 0 81).toInt ≤ (V9 0 81).toInt from by first | omega | ((try (have i_tb := Imp.go tb (by omega))); (try (have i_v6 := Imp.go v6 (by omega))); (try (have i_v4 := Imp.go v4 (by omega))); (try (have i_v4 := Imp.go v4 (by omega))); (try (have i_v6 := Imp.go v6 (by omega))); (try (have i_tb := Imp.go tb (by omega))); omega)) xlp10_4 c0123 (by first | omega | ((try (have i_tb := Imp.go tb (by omega))); (try (have i_v6 := Imp.go v6 (by omega))); (try (have i_v4 := Imp.go v4 (by omega))); (try (have i_v4 := Imp.go v4 (by omega))); (try (have i_v6 := Imp.go v6 (by omega))); (try (have i_tb := Imp.go tb (by omega))); omega)) (agr.tr agr.rf ajV9 (by decide) (by decide)) hMV9 hP hD hS (lv_sub hl [0, 2, 3] rfl)
  have r124 : Int32.toInt 0 = 0 := by decide
  have pq125 : (V7 0 89).toInt = z6.toInt := congrArg Int32.toInt (up2_s hV7)
  have cz126 : cz V4 24 + 1 = cz V 24 := (cz_put hV4 (by decide) 24).2.1 (by have h9 := i_clamp (x := p0) rfl (by omega); omega) (by omega)
  have cz127 : cz V5 24 = cz V4 24 := cz_o hV5 (by decide)
  have cz128 : cz V7 24 = cz V5 24 := cz_o hV7 (by decide)
  have pq129 : (V7 0 81).toInt = ((V 0 81)).toInt := congrArg Int32.toInt ((up2_k hV7 (by decide)).trans ((up2_o hV5 (by decide)).trans (up2_o hV4 (by decide))))
  have kq := i_clamp (x := (V 0 89)) rfl (by omega)
  have kp := i_clamp (x := p0) rfl (by omega)
  have c0130 : c0k V V7 := (c0k.tr (V := V) (W := V5) (X := V7) (c0k.tr (V := V) (W := V4) (X := V5) (c0k.tr (V := V) (W := V) (X := V4) c0k.rf (Or.inl (up2_o hV4 (by decide))) agV ⟨rfl, fun _ => rfl, fun _ => rfl, fun _ => rfl, fun _ => rfl, fun _ => rfl, fun _ => rfl⟩) (Or.inl (up2_o hV5 (by decide))) agV4 ⟨rfl, fun _ => rfl, fun _ => rfl, fun _ => rfl, fun _ => rfl, fun _ => rfl, fun _ => rfl⟩) (Or.inl (up2_o hV7 (by decide))) agV5 ⟨rfl, fun _ => rfl, fun _ => rfl, fun _ => rfl, fun _ => rfl, fun _ => rfl, fun _ => rfl⟩)
  exact lp10 ((8 - (Int32.toInt 0) + 1 : Int).toNat) 0 V7 H locs ls (by decide) (show (V7 0 89).toInt = (V 0 89).toInt + 1 from by first | omega | ((try (have i_tb := Imp.go tb (by omega))); (try (have i_v6 := Imp.go v6 (by omega))); (try (have i_v4 := Imp.go v4 (by omega))); (try (have i_v4 := Imp.go v4 (by omega))); (try (have i_v6 := Imp.go v6 (by omega))); (try (have i_tb := Imp.go tb (by omega))); omega)) (show (cz V7 24 : Int) + 1 ≤ (cz V 24 : Int) from by first | omega | ((try (have i_tb := Imp.go tb (by omega))); (try (have i_v6 := Imp.go v6 (by omega))); (try (have i_v4 := Imp.go v4 (by omega))); (try (have i_v4 := Imp.go v4 (by omega))); (try (have i_v6 := Imp.go v6 (by omega))); (try (have i_tb := Imp.go tb (by omega))); omega)) (show (V7 0 81).toInt + 192 * (cz V7 24 : Int) + 192 ≤ FM + 24 * (Int32.toInt 0) from by first | omega | ((try (have i_tb := Imp.go tb (by omega))); (try (have i_v6 := Imp.go v6 (by omega))); (try (have i_v4 := Imp.go v4 (by omega))); (try (have i_v4 := Imp.go v4 (by omega))); (try (have i_v6 := Imp.go v6 (by omega))); (try (have i_tb := Imp.go tb (by omega))); omega)) (show (V 0 81).toInt ≤ (V7 0 81).toInt from by first | omega | ((try (have i_tb := Imp.go tb (by omega))); (try (have i_v6 := Imp.go v6 (by omega))); (try (have i_v4 := Imp.go v4 (by omega))); (try (have i_v4 := Imp.go v4 (by omega))); (try (have i_v6 := Imp.go v6 (by omega))); (try (have i_tb := Imp.go tb (by omega))); omega)) (visI.new hV4 hV5 hV7 rfl (by omega) (by omega)) c0130 (by first | omega | ((try (have i_tb := Imp.go tb (by omega))); (try (have i_v6 := Imp.go v6 (by omega))); (try (have i_v4 := Imp.go v4 (by omega))); (try (have i_v4 := Imp.go v4 (by omega))); (try (have i_v6 := Imp.go v6 (by omega))); (try (have i_tb := Imp.go tb (by omega))); omega)) agr.rf hMV7 hP hD hS (lv_sub hl [0, 1, 2] rfl)
theorem K_visits {l : Launch} {D : va_G} {ks : KS} : ∀ dd, K_s_visits l D ks dd
  | 0 => s_visits (fun d9 h => absurd h (by omega))
  | d + 1 => s_visits (fun d9 h => by
    have e : d9 = d := by omega
    subst e
    exact K_visits d9)
