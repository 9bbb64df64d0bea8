theorem w2299 : Cond.code yX12_wrapsOf cX12_wrapsOf 6 (some .int) ∈ GW := gw_k tk9_9 224 (rfl) rfl
theorem w2296 : Cond.methodLink RX12 542 yX12_wrapsOf ∈ GW := gw_k tk9_9 221 (by decide +kernel) rfl
theorem w2298 : Cond.instanceMethod yX12_wrapsOf ∈ GW := gw_k tk9_9 223 (by decide +kernel) rfl
theorem w143 : Cond.selects RX12 yX12_wrapsOf yX12_wrapsOf ∈ GW := gw_mem 143 (by decide +kernel) rfl
theorem hdV_yX12_wrapsOf : yX12_wrapsOf.cls = RX12 ∧ yX12_wrapsOf.cls ≠ "java/lang/invoke/MethodHandle" ∧ yX12_wrapsOf.cls ≠ "java/lang/invoke/VarHandle" ∧ (parseMethodDescriptor yX12_wrapsOf.desc).map (fun d => d.parameters.length) = some 3 := by decide +kernel
theorem dk9_dX12_failings_0_0 : dOk cX12_failings [(0, .aload_n 0, 1), (1, .getfield 471, 3), (4, .istore 4, 2), (6, .aload_n 0, 1), (7, .getfield 474, 3), (10, .istore 5, 2), (12, .aload_n 0, 1), (13, .iload_n 1, 1), (14, .iload_n 2, 1), (15, .iconst 3, 1), (16, .invokevirtual 542, 3), (19, .istore 6, 2), (21, .iload 6, 2), (23, .iconst 1, 1), (24, .isub, 1), (25, .istore 7, 2), (27, .iload 7, 2), (29, .ifCond .lt 78, 3), (107, .aload_n 0, 1), (108, .iload 4, 2), (110, .putfield 471, 3), (113, .aload_n 0, 1), (114, .iload 5, 2), (116, .putfield 474, 3)] = true ∧ dOk cX12_failings [(119, .iconst 1, 1), (120, .ireturn, 1), (32, .aload_n 0, 1), (33, .iload 7, 2), (35, .iload_n 1, 1), (36, .iload_n 2, 1), (37, .iconst 3, 1), (38, .invokevirtual 529, 3), (41, .istore 8, 2), (43, .iload 4, 2), (45, .ifCond .le 8, 3), (53, .iload 5, 2), (55, .istore 9, 2), (57, .aload_n 0, 1), (58, .iconst 3, 1), (59, .iload 8, 2), (61, .iload 9, 2), (63, .invokevirtual 535, 3), (66, .aload_n 0, 1), (67, .aload_n 0, 1), (68, .getfield 137, 3), (71, .bipush 12, 2), (73, .aload_n 0, 1), (74, .getfield 286, 3)] = true ∧ dOk cX12_failings [(77, .imul, 1), (78, .iload 8, 2), (80, .iadd, 1), (81, .iaload, 1), (82, .iload_n 1, 1), (83, .iload_n 3, 1), (84, .iload 9, 2), (86, .iconst (-1), 1), (87, .invokevirtual 503, 3), (90, .istore 10, 2), (92, .iload 10, 2), (94, .iconst 1, 1), (95, .if_icmp .eq 6, 3), (101, .iinc 7 (-1), 3), (104, .goto (-77), 3), (98, .iload 10, 2), (100, .ireturn, 1), (48, .bipush 20, 2), (50, .goto 5, 3)] = true := by decide +kernel
theorem dX12_failings_0 : decode cX12_failings 0 = .ok (.aload_n 0, 1) := dr9 dk9_dX12_failings_0_0.1 0 (0, .aload_n 0, 1) rfl
theorem dX12_failings_1 : decode cX12_failings 1 = .ok (.getfield 471, 3) := dr9 dk9_dX12_failings_0_0.1 1 (1, .getfield 471, 3) rfl
theorem dX12_failings_4 : decode cX12_failings 4 = .ok (.istore 4, 2) := dr9 dk9_dX12_failings_0_0.1 2 (4, .istore 4, 2) rfl
theorem dX12_failings_6 : decode cX12_failings 6 = .ok (.aload_n 0, 1) := dr9 dk9_dX12_failings_0_0.1 3 (6, .aload_n 0, 1) rfl
theorem dX12_failings_7 : decode cX12_failings 7 = .ok (.getfield 474, 3) := dr9 dk9_dX12_failings_0_0.1 4 (7, .getfield 474, 3) rfl
theorem dX12_failings_10 : decode cX12_failings 10 = .ok (.istore 5, 2) := dr9 dk9_dX12_failings_0_0.1 5 (10, .istore 5, 2) rfl
theorem dX12_failings_12 : decode cX12_failings 12 = .ok (.aload_n 0, 1) := dr9 dk9_dX12_failings_0_0.1 6 (12, .aload_n 0, 1) rfl
theorem dX12_failings_13 : decode cX12_failings 13 = .ok (.iload_n 1, 1) := dr9 dk9_dX12_failings_0_0.1 7 (13, .iload_n 1, 1) rfl
theorem dX12_failings_14 : decode cX12_failings 14 = .ok (.iload_n 2, 1) := dr9 dk9_dX12_failings_0_0.1 8 (14, .iload_n 2, 1) rfl
theorem dX12_failings_15 : decode cX12_failings 15 = .ok (.iconst 3, 1) := dr9 dk9_dX12_failings_0_0.1 9 (15, .iconst 3, 1) rfl
theorem dX12_failings_16 : decode cX12_failings 16 = .ok (.invokevirtual 542, 3) := dr9 dk9_dX12_failings_0_0.1 10 (16, .invokevirtual 542, 3) rfl
theorem dX12_failings_19 : decode cX12_failings 19 = .ok (.istore 6, 2) := dr9 dk9_dX12_failings_0_0.1 11 (19, .istore 6, 2) rfl
theorem dX12_failings_21 : decode cX12_failings 21 = .ok (.iload 6, 2) := dr9 dk9_dX12_failings_0_0.1 12 (21, .iload 6, 2) rfl
theorem dX12_failings_23 : decode cX12_failings 23 = .ok (.iconst 1, 1) := dr9 dk9_dX12_failings_0_0.1 13 (23, .iconst 1, 1) rfl
theorem dX12_failings_24 : decode cX12_failings 24 = .ok (.isub, 1) := dr9 dk9_dX12_failings_0_0.1 14 (24, .isub, 1) rfl
theorem dX12_failings_25 : decode cX12_failings 25 = .ok (.istore 7, 2) := dr9 dk9_dX12_failings_0_0.1 15 (25, .istore 7, 2) rfl
theorem dX12_failings_27 : decode cX12_failings 27 = .ok (.iload 7, 2) := dr9 dk9_dX12_failings_0_0.1 16 (27, .iload 7, 2) rfl
theorem dX12_failings_29 : decode cX12_failings 29 = .ok (.ifCond .lt 78, 3) := dr9 dk9_dX12_failings_0_0.1 17 (29, .ifCond .lt 78, 3) rfl
theorem dX12_failings_107 : decode cX12_failings 107 = .ok (.aload_n 0, 1) := dr9 dk9_dX12_failings_0_0.1 18 (107, .aload_n 0, 1) rfl
theorem dX12_failings_108 : decode cX12_failings 108 = .ok (.iload 4, 2) := dr9 dk9_dX12_failings_0_0.1 19 (108, .iload 4, 2) rfl
theorem dX12_failings_110 : decode cX12_failings 110 = .ok (.putfield 471, 3) := dr9 dk9_dX12_failings_0_0.1 20 (110, .putfield 471, 3) rfl
theorem dX12_failings_113 : decode cX12_failings 113 = .ok (.aload_n 0, 1) := dr9 dk9_dX12_failings_0_0.1 21 (113, .aload_n 0, 1) rfl
theorem dX12_failings_114 : decode cX12_failings 114 = .ok (.iload 5, 2) := dr9 dk9_dX12_failings_0_0.1 22 (114, .iload 5, 2) rfl
theorem dX12_failings_116 : decode cX12_failings 116 = .ok (.putfield 474, 3) := dr9 dk9_dX12_failings_0_0.1 23 (116, .putfield 474, 3) rfl
theorem dX12_failings_119 : decode cX12_failings 119 = .ok (.iconst 1, 1) := dr9 dk9_dX12_failings_0_0.2.1 0 (119, .iconst 1, 1) rfl
theorem dX12_failings_120 : decode cX12_failings 120 = .ok (.ireturn, 1) := dr9 dk9_dX12_failings_0_0.2.1 1 (120, .ireturn, 1) rfl
theorem dX12_failings_32 : decode cX12_failings 32 = .ok (.aload_n 0, 1) := dr9 dk9_dX12_failings_0_0.2.1 2 (32, .aload_n 0, 1) rfl
theorem dX12_failings_33 : decode cX12_failings 33 = .ok (.iload 7, 2) := dr9 dk9_dX12_failings_0_0.2.1 3 (33, .iload 7, 2) rfl
theorem dX12_failings_35 : decode cX12_failings 35 = .ok (.iload_n 1, 1) := dr9 dk9_dX12_failings_0_0.2.1 4 (35, .iload_n 1, 1) rfl
theorem dX12_failings_36 : decode cX12_failings 36 = .ok (.iload_n 2, 1) := dr9 dk9_dX12_failings_0_0.2.1 5 (36, .iload_n 2, 1) rfl
theorem dX12_failings_37 : decode cX12_failings 37 = .ok (.iconst 3, 1) := dr9 dk9_dX12_failings_0_0.2.1 6 (37, .iconst 3, 1) rfl
theorem dX12_failings_38 : decode cX12_failings 38 = .ok (.invokevirtual 529, 3) := dr9 dk9_dX12_failings_0_0.2.1 7 (38, .invokevirtual 529, 3) rfl
theorem dX12_failings_41 : decode cX12_failings 41 = .ok (.istore 8, 2) := dr9 dk9_dX12_failings_0_0.2.1 8 (41, .istore 8, 2) rfl
theorem dX12_failings_43 : decode cX12_failings 43 = .ok (.iload 4, 2) := dr9 dk9_dX12_failings_0_0.2.1 9 (43, .iload 4, 2) rfl
theorem dX12_failings_45 : decode cX12_failings 45 = .ok (.ifCond .le 8, 3) := dr9 dk9_dX12_failings_0_0.2.1 10 (45, .ifCond .le 8, 3) rfl
theorem dX12_failings_53 : decode cX12_failings 53 = .ok (.iload 5, 2) := dr9 dk9_dX12_failings_0_0.2.1 11 (53, .iload 5, 2) rfl
theorem dX12_failings_55 : decode cX12_failings 55 = .ok (.istore 9, 2) := dr9 dk9_dX12_failings_0_0.2.1 12 (55, .istore 9, 2) rfl
theorem dX12_failings_57 : decode cX12_failings 57 = .ok (.aload_n 0, 1) := dr9 dk9_dX12_failings_0_0.2.1 13 (57, .aload_n 0, 1) rfl
theorem dX12_failings_58 : decode cX12_failings 58 = .ok (.iconst 3, 1) := dr9 dk9_dX12_failings_0_0.2.1 14 (58, .iconst 3, 1) rfl
theorem dX12_failings_59 : decode cX12_failings 59 = .ok (.iload 8, 2) := dr9 dk9_dX12_failings_0_0.2.1 15 (59, .iload 8, 2) rfl
theorem dX12_failings_61 : decode cX12_failings 61 = .ok (.iload 9, 2) := dr9 dk9_dX12_failings_0_0.2.1 16 (61, .iload 9, 2) rfl
theorem dX12_failings_63 : decode cX12_failings 63 = .ok (.invokevirtual 535, 3) := dr9 dk9_dX12_failings_0_0.2.1 17 (63, .invokevirtual 535, 3) rfl
theorem dX12_failings_66 : decode cX12_failings 66 = .ok (.aload_n 0, 1) := dr9 dk9_dX12_failings_0_0.2.1 18 (66, .aload_n 0, 1) rfl
theorem dX12_failings_67 : decode cX12_failings 67 = .ok (.aload_n 0, 1) := dr9 dk9_dX12_failings_0_0.2.1 19 (67, .aload_n 0, 1) rfl
theorem dX12_failings_68 : decode cX12_failings 68 = .ok (.getfield 137, 3) := dr9 dk9_dX12_failings_0_0.2.1 20 (68, .getfield 137, 3) rfl
theorem dX12_failings_71 : decode cX12_failings 71 = .ok (.bipush 12, 2) := dr9 dk9_dX12_failings_0_0.2.1 21 (71, .bipush 12, 2) rfl
theorem dX12_failings_73 : decode cX12_failings 73 = .ok (.aload_n 0, 1) := dr9 dk9_dX12_failings_0_0.2.1 22 (73, .aload_n 0, 1) rfl
theorem dX12_failings_74 : decode cX12_failings 74 = .ok (.getfield 286, 3) := dr9 dk9_dX12_failings_0_0.2.1 23 (74, .getfield 286, 3) rfl
theorem dX12_failings_77 : decode cX12_failings 77 = .ok (.imul, 1) := dr9 dk9_dX12_failings_0_0.2.2 0 (77, .imul, 1) rfl
theorem dX12_failings_78 : decode cX12_failings 78 = .ok (.iload 8, 2) := dr9 dk9_dX12_failings_0_0.2.2 1 (78, .iload 8, 2) rfl
theorem dX12_failings_80 : decode cX12_failings 80 = .ok (.iadd, 1) := dr9 dk9_dX12_failings_0_0.2.2 2 (80, .iadd, 1) rfl
theorem dX12_failings_81 : decode cX12_failings 81 = .ok (.iaload, 1) := dr9 dk9_dX12_failings_0_0.2.2 3 (81, .iaload, 1) rfl
theorem dX12_failings_82 : decode cX12_failings 82 = .ok (.iload_n 1, 1) := dr9 dk9_dX12_failings_0_0.2.2 4 (82, .iload_n 1, 1) rfl
theorem dX12_failings_83 : decode cX12_failings 83 = .ok (.iload_n 3, 1) := dr9 dk9_dX12_failings_0_0.2.2 5 (83, .iload_n 3, 1) rfl
theorem dX12_failings_84 : decode cX12_failings 84 = .ok (.iload 9, 2) := dr9 dk9_dX12_failings_0_0.2.2 6 (84, .iload 9, 2) rfl
theorem dX12_failings_86 : decode cX12_failings 86 = .ok (.iconst (-1), 1) := dr9 dk9_dX12_failings_0_0.2.2 7 (86, .iconst (-1), 1) rfl
theorem dX12_failings_87 : decode cX12_failings 87 = .ok (.invokevirtual 503, 3) := dr9 dk9_dX12_failings_0_0.2.2 8 (87, .invokevirtual 503, 3) rfl
theorem dX12_failings_90 : decode cX12_failings 90 = .ok (.istore 10, 2) := dr9 dk9_dX12_failings_0_0.2.2 9 (90, .istore 10, 2) rfl
theorem dX12_failings_92 : decode cX12_failings 92 = .ok (.iload 10, 2) := dr9 dk9_dX12_failings_0_0.2.2 10 (92, .iload 10, 2) rfl
theorem dX12_failings_94 : decode cX12_failings 94 = .ok (.iconst 1, 1) := dr9 dk9_dX12_failings_0_0.2.2 11 (94, .iconst 1, 1) rfl
theorem dX12_failings_95 : decode cX12_failings 95 = .ok (.if_icmp .eq 6, 3) := dr9 dk9_dX12_failings_0_0.2.2 12 (95, .if_icmp .eq 6, 3) rfl
theorem dX12_failings_101 : decode cX12_failings 101 = .ok (.iinc 7 (-1), 3) := dr9 dk9_dX12_failings_0_0.2.2 13 (101, .iinc 7 (-1), 3) rfl
theorem dX12_failings_104 : decode cX12_failings 104 = .ok (.goto (-77), 3) := dr9 dk9_dX12_failings_0_0.2.2 14 (104, .goto (-77), 3) rfl
theorem dX12_failings_98 : decode cX12_failings 98 = .ok (.iload 10, 2) := dr9 dk9_dX12_failings_0_0.2.2 15 (98, .iload 10, 2) rfl
theorem dX12_failings_100 : decode cX12_failings 100 = .ok (.ireturn, 1) := dr9 dk9_dX12_failings_0_0.2.2 16 (100, .ireturn, 1) rfl
theorem dX12_failings_48 : decode cX12_failings 48 = .ok (.bipush 20, 2) := dr9 dk9_dX12_failings_0_0.2.2 17 (48, .bipush 20, 2) rfl
theorem dX12_failings_50 : decode cX12_failings 50 = .ok (.goto 5, 3) := dr9 dk9_dX12_failings_0_0.2.2 18 (50, .goto 5, 3) rfl