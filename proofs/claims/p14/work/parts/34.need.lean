theorem w2275 : Cond.code yX12_worksAround cX12_worksAround 13 (some .int) ∈ GW := gw_k tk9_9 200 (rfl) rfl
theorem w2272 : Cond.methodLink RX12 538 yX12_worksAround ∈ GW := gw_k tk9_9 197 (by decide +kernel) rfl
theorem w2274 : Cond.instanceMethod yX12_worksAround ∈ GW := gw_k tk9_9 199 (by decide +kernel) rfl
theorem w137 : Cond.selects RX12 yX12_worksAround yX12_worksAround ∈ GW := gw_mem 137 (by decide +kernel) rfl
theorem hdV_yX12_worksAround : yX12_worksAround.cls = RX12 ∧ yX12_worksAround.cls ≠ "java/lang/invoke/MethodHandle" ∧ yX12_worksAround.cls ≠ "java/lang/invoke/VarHandle" ∧ (parseMethodDescriptor yX12_worksAround.desc).map (fun d => d.parameters.length) = some 6 := by decide +kernel
theorem w2319 : Cond.code yX12_calls cX12_calls 6 (some .int) ∈ GW := gw_k tk9_10 4 (rfl) rfl
theorem w2316 : Cond.methodLink RX12 566 yX12_calls ∈ GW := gw_k tk9_10 1 (by decide +kernel) rfl
theorem w2318 : Cond.instanceMethod yX12_calls ∈ GW := gw_k tk9_10 3 (by decide +kernel) rfl
theorem w148 : Cond.selects RX12 yX12_calls yX12_calls ∈ GW := gw_mem 148 (by decide +kernel) rfl
theorem hdV_yX12_calls : yX12_calls.cls = RX12 ∧ yX12_calls.cls ≠ "java/lang/invoke/MethodHandle" ∧ yX12_calls.cls ≠ "java/lang/invoke/VarHandle" ∧ (parseMethodDescriptor yX12_calls.desc).map (fun d => d.parameters.length) = some 4 := by decide +kernel
theorem w2315 : Cond.code yX12_ofLate cX12_ofLate 11 (some .int) ∈ GW := gw_k tk9_10 0 (rfl) rfl
theorem w2312 : Cond.methodLink RX12 563 yX12_ofLate ∈ GW := gw_k tk9_9 237 (by decide +kernel) rfl
theorem w2314 : Cond.instanceMethod yX12_ofLate ∈ GW := gw_k tk9_9 239 (by decide +kernel) rfl
theorem w147 : Cond.selects RX12 yX12_ofLate yX12_ofLate ∈ GW := gw_mem 147 (by decide +kernel) rfl
theorem hdV_yX12_ofLate : yX12_ofLate.cls = RX12 ∧ yX12_ofLate.cls ≠ "java/lang/invoke/MethodHandle" ∧ yX12_ofLate.cls ≠ "java/lang/invoke/VarHandle" ∧ (parseMethodDescriptor yX12_ofLate.desc).map (fun d => d.parameters.length) = some 6 := by decide +kernel
theorem dk9_dX12_works_0_0 : dOk cX12_works [(0, .aload_n 0, 1), (1, .iload_n 1, 1), (2, .iload_n 2, 1), (3, .iconst (-1), 1), (4, .iload_n 3, 1), (5, .iload 4, 2), (7, .iconst 0, 1), (8, .invokevirtual 538, 3), (11, .ireturn, 1)] = true := by decide +kernel
theorem dX12_works_0 : decode cX12_works 0 = .ok (.aload_n 0, 1) := dr9 dk9_dX12_works_0_0 0 (0, .aload_n 0, 1) rfl
theorem dX12_works_1 : decode cX12_works 1 = .ok (.iload_n 1, 1) := dr9 dk9_dX12_works_0_0 1 (1, .iload_n 1, 1) rfl
theorem dX12_works_2 : decode cX12_works 2 = .ok (.iload_n 2, 1) := dr9 dk9_dX12_works_0_0 2 (2, .iload_n 2, 1) rfl
theorem dX12_works_3 : decode cX12_works 3 = .ok (.iconst (-1), 1) := dr9 dk9_dX12_works_0_0 3 (3, .iconst (-1), 1) rfl
theorem dX12_works_4 : decode cX12_works 4 = .ok (.iload_n 3, 1) := dr9 dk9_dX12_works_0_0 4 (4, .iload_n 3, 1) rfl
theorem dX12_works_5 : decode cX12_works 5 = .ok (.iload 4, 2) := dr9 dk9_dX12_works_0_0 5 (5, .iload 4, 2) rfl
theorem dX12_works_7 : decode cX12_works 7 = .ok (.iconst 0, 1) := dr9 dk9_dX12_works_0_0 6 (7, .iconst 0, 1) rfl
theorem dX12_works_8 : decode cX12_works 8 = .ok (.invokevirtual 538, 3) := dr9 dk9_dX12_works_0_0 7 (8, .invokevirtual 538, 3) rfl
theorem dX12_works_11 : decode cX12_works 11 = .ok (.ireturn, 1) := dr9 dk9_dX12_works_0_0 8 (11, .ireturn, 1) rfl
theorem dk9_dX12_ofNeed_0_0 : dOk cX12_ofNeed [(0, .bipush 8, 2), (2, .bipush 24, 2), (4, .aload_n 0, 1), (5, .getfield 286, 3), (8, .imul, 1), (9, .aload_n 0, 1), (10, .getfield 164, 3), (13, .iload_n 1, 1), (14, .iaload, 1), (15, .iadd, 1), (16, .imul, 1), (17, .iload_n 2, 1), (18, .iadd, 1), (19, .istore 6, 2), (21, .aload_n 0, 1), (22, .getfield 92, 3), (25, .iload 6, 2), (27, .baload, 1), (28, .ifCond .eq 17, 3), (45, .iconst 0, 1), (46, .istore 7, 2), (48, .iconst 0, 1), (49, .istore 8, 2), (51, .iload 8, 2)] = true ∧ dOk cX12_ofNeed [(53, .aload_n 0, 1), (54, .getfield 176, 3), (57, .bipush 8, 2), (59, .iload_n 1, 1), (60, .imul, 1), (61, .iload_n 2, 1), (62, .iadd, 1), (63, .iaload, 1), (64, .if_icmp .ge 54, 3), (118, .aload_n 0, 1), (119, .iload 7, 2), (121, .putfield 545, 3), (124, .iconst 0, 1), (125, .ireturn, 1), (67, .aload_n 0, 1), (68, .aload_n 0, 1), (69, .getfield 180, 3), (72, .bipush 24, 2), (74, .bipush 8, 2), (76, .iload_n 1, 1), (77, .imul, 1), (78, .iload_n 2, 1), (79, .iadd, 1), (80, .imul, 1)] = true ∧ dOk cX12_ofNeed [(81, .iload 8, 2), (83, .iadd, 1), (84, .iaload, 1), (85, .iload_n 3, 1), (86, .iload 4, 2), (88, .iload 5, 2), (90, .invokevirtual 566, 3), (93, .istore 9, 2), (95, .iload 9, 2), (97, .ifCond .le 6, 3), (103, .iload 7, 2), (105, .aload_n 0, 1), (106, .getfield 545, 3), (109, .iadd, 1), (110, .istore 7, 2), (112, .iinc 8 1, 3), (115, .goto (-64), 3), (100, .iload 9, 2), (102, .ireturn, 1), (31, .aload_n 0, 1), (32, .iload_n 1, 1), (33, .iload_n 2, 1), (34, .iload 6, 2), (36, .iload_n 3, 1)] = true ∧ dOk cX12_ofNeed [(37, .iload 4, 2), (39, .iload 5, 2), (41, .invokevirtual 563, 3), (44, .ireturn, 1)] = true := by decide +kernel
theorem dX12_ofNeed_0 : decode cX12_ofNeed 0 = .ok (.bipush 8, 2) := dr9 dk9_dX12_ofNeed_0_0.1 0 (0, .bipush 8, 2) rfl
theorem dX12_ofNeed_2 : decode cX12_ofNeed 2 = .ok (.bipush 24, 2) := dr9 dk9_dX12_ofNeed_0_0.1 1 (2, .bipush 24, 2) rfl
theorem dX12_ofNeed_4 : decode cX12_ofNeed 4 = .ok (.aload_n 0, 1) := dr9 dk9_dX12_ofNeed_0_0.1 2 (4, .aload_n 0, 1) rfl
theorem dX12_ofNeed_5 : decode cX12_ofNeed 5 = .ok (.getfield 286, 3) := dr9 dk9_dX12_ofNeed_0_0.1 3 (5, .getfield 286, 3) rfl
theorem dX12_ofNeed_8 : decode cX12_ofNeed 8 = .ok (.imul, 1) := dr9 dk9_dX12_ofNeed_0_0.1 4 (8, .imul, 1) rfl
theorem dX12_ofNeed_9 : decode cX12_ofNeed 9 = .ok (.aload_n 0, 1) := dr9 dk9_dX12_ofNeed_0_0.1 5 (9, .aload_n 0, 1) rfl
theorem dX12_ofNeed_10 : decode cX12_ofNeed 10 = .ok (.getfield 164, 3) := dr9 dk9_dX12_ofNeed_0_0.1 6 (10, .getfield 164, 3) rfl
theorem dX12_ofNeed_13 : decode cX12_ofNeed 13 = .ok (.iload_n 1, 1) := dr9 dk9_dX12_ofNeed_0_0.1 7 (13, .iload_n 1, 1) rfl
theorem dX12_ofNeed_14 : decode cX12_ofNeed 14 = .ok (.iaload, 1) := dr9 dk9_dX12_ofNeed_0_0.1 8 (14, .iaload, 1) rfl
theorem dX12_ofNeed_15 : decode cX12_ofNeed 15 = .ok (.iadd, 1) := dr9 dk9_dX12_ofNeed_0_0.1 9 (15, .iadd, 1) rfl
theorem dX12_ofNeed_16 : decode cX12_ofNeed 16 = .ok (.imul, 1) := dr9 dk9_dX12_ofNeed_0_0.1 10 (16, .imul, 1) rfl
theorem dX12_ofNeed_17 : decode cX12_ofNeed 17 = .ok (.iload_n 2, 1) := dr9 dk9_dX12_ofNeed_0_0.1 11 (17, .iload_n 2, 1) rfl
theorem dX12_ofNeed_18 : decode cX12_ofNeed 18 = .ok (.iadd, 1) := dr9 dk9_dX12_ofNeed_0_0.1 12 (18, .iadd, 1) rfl
theorem dX12_ofNeed_19 : decode cX12_ofNeed 19 = .ok (.istore 6, 2) := dr9 dk9_dX12_ofNeed_0_0.1 13 (19, .istore 6, 2) rfl
theorem dX12_ofNeed_21 : decode cX12_ofNeed 21 = .ok (.aload_n 0, 1) := dr9 dk9_dX12_ofNeed_0_0.1 14 (21, .aload_n 0, 1) rfl
theorem dX12_ofNeed_22 : decode cX12_ofNeed 22 = .ok (.getfield 92, 3) := dr9 dk9_dX12_ofNeed_0_0.1 15 (22, .getfield 92, 3) rfl
theorem dX12_ofNeed_25 : decode cX12_ofNeed 25 = .ok (.iload 6, 2) := dr9 dk9_dX12_ofNeed_0_0.1 16 (25, .iload 6, 2) rfl
theorem dX12_ofNeed_27 : decode cX12_ofNeed 27 = .ok (.baload, 1) := dr9 dk9_dX12_ofNeed_0_0.1 17 (27, .baload, 1) rfl
theorem dX12_ofNeed_28 : decode cX12_ofNeed 28 = .ok (.ifCond .eq 17, 3) := dr9 dk9_dX12_ofNeed_0_0.1 18 (28, .ifCond .eq 17, 3) rfl
theorem dX12_ofNeed_45 : decode cX12_ofNeed 45 = .ok (.iconst 0, 1) := dr9 dk9_dX12_ofNeed_0_0.1 19 (45, .iconst 0, 1) rfl
theorem dX12_ofNeed_46 : decode cX12_ofNeed 46 = .ok (.istore 7, 2) := dr9 dk9_dX12_ofNeed_0_0.1 20 (46, .istore 7, 2) rfl
theorem dX12_ofNeed_48 : decode cX12_ofNeed 48 = .ok (.iconst 0, 1) := dr9 dk9_dX12_ofNeed_0_0.1 21 (48, .iconst 0, 1) rfl
theorem dX12_ofNeed_49 : decode cX12_ofNeed 49 = .ok (.istore 8, 2) := dr9 dk9_dX12_ofNeed_0_0.1 22 (49, .istore 8, 2) rfl
theorem dX12_ofNeed_51 : decode cX12_ofNeed 51 = .ok (.iload 8, 2) := dr9 dk9_dX12_ofNeed_0_0.1 23 (51, .iload 8, 2) rfl
theorem dX12_ofNeed_53 : decode cX12_ofNeed 53 = .ok (.aload_n 0, 1) := dr9 dk9_dX12_ofNeed_0_0.2.1 0 (53, .aload_n 0, 1) rfl
theorem dX12_ofNeed_54 : decode cX12_ofNeed 54 = .ok (.getfield 176, 3) := dr9 dk9_dX12_ofNeed_0_0.2.1 1 (54, .getfield 176, 3) rfl
theorem dX12_ofNeed_57 : decode cX12_ofNeed 57 = .ok (.bipush 8, 2) := dr9 dk9_dX12_ofNeed_0_0.2.1 2 (57, .bipush 8, 2) rfl
theorem dX12_ofNeed_59 : decode cX12_ofNeed 59 = .ok (.iload_n 1, 1) := dr9 dk9_dX12_ofNeed_0_0.2.1 3 (59, .iload_n 1, 1) rfl
theorem dX12_ofNeed_60 : decode cX12_ofNeed 60 = .ok (.imul, 1) := dr9 dk9_dX12_ofNeed_0_0.2.1 4 (60, .imul, 1) rfl
theorem dX12_ofNeed_61 : decode cX12_ofNeed 61 = .ok (.iload_n 2, 1) := dr9 dk9_dX12_ofNeed_0_0.2.1 5 (61, .iload_n 2, 1) rfl
theorem dX12_ofNeed_62 : decode cX12_ofNeed 62 = .ok (.iadd, 1) := dr9 dk9_dX12_ofNeed_0_0.2.1 6 (62, .iadd, 1) rfl
theorem dX12_ofNeed_63 : decode cX12_ofNeed 63 = .ok (.iaload, 1) := dr9 dk9_dX12_ofNeed_0_0.2.1 7 (63, .iaload, 1) rfl
theorem dX12_ofNeed_64 : decode cX12_ofNeed 64 = .ok (.if_icmp .ge 54, 3) := dr9 dk9_dX12_ofNeed_0_0.2.1 8 (64, .if_icmp .ge 54, 3) rfl
theorem dX12_ofNeed_118 : decode cX12_ofNeed 118 = .ok (.aload_n 0, 1) := dr9 dk9_dX12_ofNeed_0_0.2.1 9 (118, .aload_n 0, 1) rfl
theorem dX12_ofNeed_119 : decode cX12_ofNeed 119 = .ok (.iload 7, 2) := dr9 dk9_dX12_ofNeed_0_0.2.1 10 (119, .iload 7, 2) rfl
theorem dX12_ofNeed_121 : decode cX12_ofNeed 121 = .ok (.putfield 545, 3) := dr9 dk9_dX12_ofNeed_0_0.2.1 11 (121, .putfield 545, 3) rfl
theorem dX12_ofNeed_124 : decode cX12_ofNeed 124 = .ok (.iconst 0, 1) := dr9 dk9_dX12_ofNeed_0_0.2.1 12 (124, .iconst 0, 1) rfl
theorem dX12_ofNeed_125 : decode cX12_ofNeed 125 = .ok (.ireturn, 1) := dr9 dk9_dX12_ofNeed_0_0.2.1 13 (125, .ireturn, 1) rfl
theorem dX12_ofNeed_67 : decode cX12_ofNeed 67 = .ok (.aload_n 0, 1) := dr9 dk9_dX12_ofNeed_0_0.2.1 14 (67, .aload_n 0, 1) rfl
theorem dX12_ofNeed_68 : decode cX12_ofNeed 68 = .ok (.aload_n 0, 1) := dr9 dk9_dX12_ofNeed_0_0.2.1 15 (68, .aload_n 0, 1) rfl
theorem dX12_ofNeed_69 : decode cX12_ofNeed 69 = .ok (.getfield 180, 3) := dr9 dk9_dX12_ofNeed_0_0.2.1 16 (69, .getfield 180, 3) rfl
theorem dX12_ofNeed_72 : decode cX12_ofNeed 72 = .ok (.bipush 24, 2) := dr9 dk9_dX12_ofNeed_0_0.2.1 17 (72, .bipush 24, 2) rfl
theorem dX12_ofNeed_74 : decode cX12_ofNeed 74 = .ok (.bipush 8, 2) := dr9 dk9_dX12_ofNeed_0_0.2.1 18 (74, .bipush 8, 2) rfl
theorem dX12_ofNeed_76 : decode cX12_ofNeed 76 = .ok (.iload_n 1, 1) := dr9 dk9_dX12_ofNeed_0_0.2.1 19 (76, .iload_n 1, 1) rfl
theorem dX12_ofNeed_77 : decode cX12_ofNeed 77 = .ok (.imul, 1) := dr9 dk9_dX12_ofNeed_0_0.2.1 20 (77, .imul, 1) rfl
theorem dX12_ofNeed_78 : decode cX12_ofNeed 78 = .ok (.iload_n 2, 1) := dr9 dk9_dX12_ofNeed_0_0.2.1 21 (78, .iload_n 2, 1) rfl
theorem dX12_ofNeed_79 : decode cX12_ofNeed 79 = .ok (.iadd, 1) := dr9 dk9_dX12_ofNeed_0_0.2.1 22 (79, .iadd, 1) rfl
theorem dX12_ofNeed_80 : decode cX12_ofNeed 80 = .ok (.imul, 1) := dr9 dk9_dX12_ofNeed_0_0.2.1 23 (80, .imul, 1) rfl
theorem dX12_ofNeed_81 : decode cX12_ofNeed 81 = .ok (.iload 8, 2) := dr9 dk9_dX12_ofNeed_0_0.2.2.1 0 (81, .iload 8, 2) rfl
theorem dX12_ofNeed_83 : decode cX12_ofNeed 83 = .ok (.iadd, 1) := dr9 dk9_dX12_ofNeed_0_0.2.2.1 1 (83, .iadd, 1) rfl
theorem dX12_ofNeed_84 : decode cX12_ofNeed 84 = .ok (.iaload, 1) := dr9 dk9_dX12_ofNeed_0_0.2.2.1 2 (84, .iaload, 1) rfl
theorem dX12_ofNeed_85 : decode cX12_ofNeed 85 = .ok (.iload_n 3, 1) := dr9 dk9_dX12_ofNeed_0_0.2.2.1 3 (85, .iload_n 3, 1) rfl
theorem dX12_ofNeed_86 : decode cX12_ofNeed 86 = .ok (.iload 4, 2) := dr9 dk9_dX12_ofNeed_0_0.2.2.1 4 (86, .iload 4, 2) rfl
theorem dX12_ofNeed_88 : decode cX12_ofNeed 88 = .ok (.iload 5, 2) := dr9 dk9_dX12_ofNeed_0_0.2.2.1 5 (88, .iload 5, 2) rfl
theorem dX12_ofNeed_90 : decode cX12_ofNeed 90 = .ok (.invokevirtual 566, 3) := dr9 dk9_dX12_ofNeed_0_0.2.2.1 6 (90, .invokevirtual 566, 3) rfl
theorem dX12_ofNeed_93 : decode cX12_ofNeed 93 = .ok (.istore 9, 2) := dr9 dk9_dX12_ofNeed_0_0.2.2.1 7 (93, .istore 9, 2) rfl
theorem dX12_ofNeed_95 : decode cX12_ofNeed 95 = .ok (.iload 9, 2) := dr9 dk9_dX12_ofNeed_0_0.2.2.1 8 (95, .iload 9, 2) rfl
theorem dX12_ofNeed_97 : decode cX12_ofNeed 97 = .ok (.ifCond .le 6, 3) := dr9 dk9_dX12_ofNeed_0_0.2.2.1 9 (97, .ifCond .le 6, 3) rfl
theorem dX12_ofNeed_103 : decode cX12_ofNeed 103 = .ok (.iload 7, 2) := dr9 dk9_dX12_ofNeed_0_0.2.2.1 10 (103, .iload 7, 2) rfl
theorem dX12_ofNeed_105 : decode cX12_ofNeed 105 = .ok (.aload_n 0, 1) := dr9 dk9_dX12_ofNeed_0_0.2.2.1 11 (105, .aload_n 0, 1) rfl
theorem dX12_ofNeed_106 : decode cX12_ofNeed 106 = .ok (.getfield 545, 3) := dr9 dk9_dX12_ofNeed_0_0.2.2.1 12 (106, .getfield 545, 3) rfl
theorem dX12_ofNeed_109 : decode cX12_ofNeed 109 = .ok (.iadd, 1) := dr9 dk9_dX12_ofNeed_0_0.2.2.1 13 (109, .iadd, 1) rfl
theorem dX12_ofNeed_110 : decode cX12_ofNeed 110 = .ok (.istore 7, 2) := dr9 dk9_dX12_ofNeed_0_0.2.2.1 14 (110, .istore 7, 2) rfl
theorem dX12_ofNeed_112 : decode cX12_ofNeed 112 = .ok (.iinc 8 1, 3) := dr9 dk9_dX12_ofNeed_0_0.2.2.1 15 (112, .iinc 8 1, 3) rfl
theorem dX12_ofNeed_115 : decode cX12_ofNeed 115 = .ok (.goto (-64), 3) := dr9 dk9_dX12_ofNeed_0_0.2.2.1 16 (115, .goto (-64), 3) rfl
theorem dX12_ofNeed_100 : decode cX12_ofNeed 100 = .ok (.iload 9, 2) := dr9 dk9_dX12_ofNeed_0_0.2.2.1 17 (100, .iload 9, 2) rfl
theorem dX12_ofNeed_102 : decode cX12_ofNeed 102 = .ok (.ireturn, 1) := dr9 dk9_dX12_ofNeed_0_0.2.2.1 18 (102, .ireturn, 1) rfl
theorem dX12_ofNeed_31 : decode cX12_ofNeed 31 = .ok (.aload_n 0, 1) := dr9 dk9_dX12_ofNeed_0_0.2.2.1 19 (31, .aload_n 0, 1) rfl
theorem dX12_ofNeed_32 : decode cX12_ofNeed 32 = .ok (.iload_n 1, 1) := dr9 dk9_dX12_ofNeed_0_0.2.2.1 20 (32, .iload_n 1, 1) rfl
theorem dX12_ofNeed_33 : decode cX12_ofNeed 33 = .ok (.iload_n 2, 1) := dr9 dk9_dX12_ofNeed_0_0.2.2.1 21 (33, .iload_n 2, 1) rfl
theorem dX12_ofNeed_34 : decode cX12_ofNeed 34 = .ok (.iload 6, 2) := dr9 dk9_dX12_ofNeed_0_0.2.2.1 22 (34, .iload 6, 2) rfl
theorem dX12_ofNeed_36 : decode cX12_ofNeed 36 = .ok (.iload_n 3, 1) := dr9 dk9_dX12_ofNeed_0_0.2.2.1 23 (36, .iload_n 3, 1) rfl
theorem dX12_ofNeed_37 : decode cX12_ofNeed 37 = .ok (.iload 4, 2) := dr9 dk9_dX12_ofNeed_0_0.2.2.2 0 (37, .iload 4, 2) rfl
theorem dX12_ofNeed_39 : decode cX12_ofNeed 39 = .ok (.iload 5, 2) := dr9 dk9_dX12_ofNeed_0_0.2.2.2 1 (39, .iload 5, 2) rfl
theorem dX12_ofNeed_41 : decode cX12_ofNeed 41 = .ok (.invokevirtual 563, 3) := dr9 dk9_dX12_ofNeed_0_0.2.2.2 2 (41, .invokevirtual 563, 3) rfl
theorem dX12_ofNeed_44 : decode cX12_ofNeed 44 = .ok (.ireturn, 1) := dr9 dk9_dX12_ofNeed_0_0.2.2.2 3 (44, .ireturn, 1) rfl
abbrev q_s_works (D : va_G) (ks : KS) (ad : Nat → Nat) (kk : Nat → ClassId) (V : Vf) (L : Lf) (p0 : Int32) (p1 : Int32) (p2 : Int32) (p3 : Int32) (p4 : Int32) (nd : Int) (lo : Nat) (hi : Nat) (A : Nat → Prop) : Array Value → State → Outcome → State → Prop := va_Qi (fun (r : Int32) (u : Vf × Lf) => rgd bM u.1 ∧ agr [(0, 60), (0, 65), (0, 68), (0, 69), (0, 73), (0, 76), (0, 90), (0, 91), (0, 92), (0, 93), (0, 95), (0, 96), (0, 98)] [59, 61, 62, 63, 64, 66, 67, 74, 75, 77, 78, 79, 80, 94, 97] V u.1 ∧ u.2 = L ∧ (0 ≤ r.toInt ∧ r.toInt ≤ 2) ∧ ((u.1 0 93).toInt = (V 0 93).toInt) ∧ ((u.1 0 98).toInt = (V 0 98).toInt) ∧ ((V 0 60).toInt ≤ (u.1 0 60).toInt) ∧ ((V 0 65).toInt ≤ (u.1 0 65).toInt) ∧ ((u.1 0 65).toInt - (V 0 65).toInt ≤ (u.1 0 60).toInt - (V 0 60).toInt) ∧ ((u.1 0 73).toInt + (u.1 0 95).toInt - (u.1 0 65).toInt ≤ (V 0 73).toInt + (V 0 95).toInt - (V 0 65).toInt) ∧ ((V 0 73).toInt ≤ (u.1 0 73).toInt) ∧ ((V 0 69).toInt ≤ (u.1 0 69).toInt) ∧ ((u.1 0 95).toInt = (V 0 95).toInt) ∧ ((u.1 0 76).toInt - (u.1 0 69).toInt - (u.1 0 73).toInt ≤ (V 0 76).toInt - (V 0 69).toInt - (V 0 73).toInt) ∧ (Imp (r.toInt ≠ 2) ((u.1 0 76).toInt - (u.1 0 69).toInt - (u.1 0 73).toInt + 1 ≤ (V 0 76).toInt - (V 0 69).toInt - (V 0 73).toInt)) ∧ (RT u.1) ∧ (FRM V u.1 (-1))) (fun u t => gq D A (mw ad kk ks.1 u.1 u.2) (mty kk) t) A
def K_s_works (l : Launch) (D : va_G) (ks : KS) (d1 d2 : Nat) : Prop := ∀ (sz : Nat) (ad : Nat → Nat) (kk : Nat → ClassId) (V : Vf) (L : Lf) (p0 : Int32) (p1 : Int32) (p2 : Int32) (p3 : Int32) (p4 : Int32) (nd : Int) (lo : Nat) (hi : Nat) (hMV : rgd bM V) (rg_p0 : 0 ≤ p0.toInt ∧ p0.toInt ≤ 19999) (rg_p1 : 0 ≤ p1.toInt ∧ p1.toInt ≤ 299) (rg_p2 : 0 ≤ p2.toInt ∧ p2.toInt ≤ 39) (rt : RT V) (n1 : (V 0 65).toInt ≤ (V 0 60).toInt) (n2 : (V 0 95).toInt ≤ (V 0 65).toInt) (n3 : (V 0 73).toInt + (V 0 95).toInt - (V 0 65).toInt ≤ 999000) (n4 : (V 0 76).toInt - (V 0 69).toInt - (V 0 73).toInt ≤ 1000000001) (n5 : 300 - (V 0 60).toInt ≤ (d1 : Int)) (n6 : 10 - (V 0 93).toInt ≤ (d2 : Int)) (oq1 : p1.toInt < (V 0 60).toInt) (n7 : (V 0 98).toInt + 400 * (d2 : Int) + 30 ≤ 19000) (ce : CE nd false V lo hi (Int32.toNatClampNeg p0)) (hq : (hi : Int) ≤ 20000) (ndq : nd ≤ (V 27 (24 * nwh V + Int32.toNatClampNeg (V 61 (Int32.toNatClampNeg p1)))).toInt) , Met l yX12_works (Cond.code yX12_works cX12_works 6 (some .int) :: GW) (rK2 (4 * d1 + 40 * d2 + 12) (100 * d1 + 1000 * d2 + 460)) (va_Pc [.ref (ad 0), .int p0, .int p1, .int p2, .int p3, .int p4] (gp D ks (mw ad kk ks.1 V L) (mty kk) sz)) (q_s_works D ks ad kk V L p0 p1 p2 p3 p4 nd lo hi (va_A (mw ad kk ks.1 V L) sz)) 0 0 (va_A (mw ad kk ks.1 V L) sz)
abbrev q_s_ofLate (D : va_G) (ks : KS) (ad : Nat → Nat) (kk : Nat → ClassId) (V : Vf) (L : Lf) (p0 : Int32) (p1 : Int32) (p2 : Int32) (p3 : Int32) (p4 : Int32) (p5 : Int32) (A : Nat → Prop) : Array Value → State → Outcome → State → Prop := va_Qi (fun (r : Int32) (u : Vf × Lf) => rgd bM u.1 ∧ agr [(0, 60), (0, 65), (0, 68), (0, 69), (0, 73), (0, 76), (0, 90), (0, 91), (0, 92), (0, 93), (0, 95), (0, 96), (0, 98)] [59, 61, 62, 63, 64, 66, 67, 74, 75, 77, 78, 79, 80, 94, 97] V u.1 ∧ u.2 = L ∧ (0 ≤ r.toInt ∧ r.toInt ≤ 2) ∧ ((u.1 0 93).toInt = (V 0 93).toInt) ∧ ((u.1 0 98).toInt = (V 0 98).toInt) ∧ ((V 0 60).toInt ≤ (u.1 0 60).toInt) ∧ ((V 0 65).toInt ≤ (u.1 0 65).toInt) ∧ ((u.1 0 65).toInt - (V 0 65).toInt ≤ (u.1 0 60).toInt - (V 0 60).toInt) ∧ ((u.1 0 73).toInt + (u.1 0 95).toInt - (u.1 0 65).toInt ≤ (V 0 73).toInt + (V 0 95).toInt - (V 0 65).toInt) ∧ ((V 0 73).toInt ≤ (u.1 0 73).toInt) ∧ ((V 0 69).toInt ≤ (u.1 0 69).toInt) ∧ ((u.1 0 95).toInt = (V 0 95).toInt) ∧ ((u.1 0 76).toInt - (u.1 0 69).toInt - (u.1 0 73).toInt ≤ (V 0 76).toInt - (V 0 69).toInt - (V 0 73).toInt) ∧ (RT u.1) ∧ (FRM V u.1 (-1))) (fun u t => gq D A (mw ad kk ks.1 u.1 u.2) (mty kk) t) A
def K_s_ofLate (l : Launch) (D : va_G) (ks : KS) (d1 d2 : Nat) : Prop := ∀ (sz : Nat) (ad : Nat → Nat) (kk : Nat → ClassId) (V : Vf) (L : Lf) (p0 : Int32) (p1 : Int32) (p2 : Int32) (p3 : Int32) (p4 : Int32) (p5 : Int32) (hMV : rgd bM V) (rg_p0 : 0 ≤ p0.toInt ∧ p0.toInt ≤ 299) (rg_p1 : 0 ≤ p1.toInt ∧ p1.toInt ≤ 7) (rg_p2 : 0 ≤ p2.toInt ∧ p2.toInt ≤ 383) (rg_p3 : 0 ≤ p3.toInt ∧ p3.toInt ≤ 19) (rg_p4 : 0 ≤ p4.toInt ∧ p4.toInt ≤ 39) (rt : RT V) (n1 : (V 0 65).toInt ≤ (V 0 60).toInt) (n2 : (V 0 95).toInt ≤ (V 0 65).toInt) (n3 : (V 0 73).toInt + (V 0 95).toInt - (V 0 65).toInt ≤ 999000) (n4 : (V 0 76).toInt - (V 0 69).toInt - (V 0 73).toInt ≤ 1000000000) (n5 : 300 - (V 0 60).toInt ≤ (d1 : Int)) (n6 : 10 - (V 0 93).toInt ≤ (d2 : Int)) (oq1 : p0.toInt < (V 0 60).toInt) (n7 : (V 0 98).toInt + 400 * (d2 : Int) ≤ 19000) (nq : p1.toInt < (V 27 (24 * nwh V + Int32.toNatClampNeg (V 61 (Int32.toNatClampNeg p0)))).toInt) (lt : (V 29 (Int32.toNatClampNeg p2)).toInt = 1) (nx2 : p2.toInt = 8 * (24 * (V 0 11).toInt + (V 61 (Int32.toNatClampNeg p0)).toInt) + p1.toInt) , Met l yX12_ofLate (Cond.code yX12_ofLate cX12_ofLate 11 (some .int) :: GW) (rK2 (4 * d1 + 40 * d2 + 9) (100 * d1 + 1000 * d2 + 350)) (va_Pc [.ref (ad 0), .int p0, .int p1, .int p2, .int p3, .int p4, .int p5] (gp D ks (mw ad kk ks.1 V L) (mty kk) sz)) (q_s_ofLate D ks ad kk V L p0 p1 p2 p3 p4 p5 (va_A (mw ad kk ks.1 V L) sz)) 0 0 (va_A (mw ad kk ks.1 V L) sz)