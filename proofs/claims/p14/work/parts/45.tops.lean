theorem w2234 : Cond.code yX12_begins_ cX12_begins_ 1 none ∈ GW := gw_k tk9_9 159 (rfl) rfl
theorem w2231 : Cond.methodLink RX12 577 yX12_begins_ ∈ GW := gw_k tk9_9 156 (by decide +kernel) rfl
theorem w2233 : Cond.instanceMethod yX12_begins_ ∈ GW := gw_k tk9_9 158 (by decide +kernel) rfl
theorem w127 : Cond.selects RX12 yX12_begins_ yX12_begins_ ∈ GW := gw_mem 127 (by decide +kernel) rfl
theorem hdV_yX12_begins_ : yX12_begins_.cls = RX12 ∧ yX12_begins_.cls ≠ "java/lang/invoke/MethodHandle" ∧ yX12_begins_.cls ≠ "java/lang/invoke/VarHandle" ∧ (parseMethodDescriptor yX12_begins_.desc).map (fun d => d.parameters.length) = some 0 := by decide +kernel
theorem w2335 : Cond.code yX12_ends cX12_ends 2 (some .boolean) ∈ GW := gw_k tk9_10 20 (rfl) rfl
theorem w2332 : Cond.methodLink RX12 579 yX12_ends ∈ GW := gw_k tk9_10 17 (by decide +kernel) rfl
theorem w2334 : Cond.instanceMethod yX12_ends ∈ GW := gw_k tk9_10 19 (by decide +kernel) rfl
theorem w152 : Cond.selects RX12 yX12_ends yX12_ends ∈ GW := gw_mem 152 (by decide +kernel) rfl
theorem hdV_yX12_ends : yX12_ends.cls = RX12 ∧ yX12_ends.cls ≠ "java/lang/invoke/MethodHandle" ∧ yX12_ends.cls ≠ "java/lang/invoke/VarHandle" ∧ (parseMethodDescriptor yX12_ends.desc).map (fun d => d.parameters.length) = some 1 := by decide +kernel
theorem dk9_dX12_close_0_0 : dOk cX12_close [(0, .aload_n 0, 1), (1, .iconst 0, 1), (2, .putfield 1, 3), (5, .aload_n 0, 1), (6, .getfield 426, 3), (9, .istore_n 2, 1), (10, .aload_n 0, 1), (11, .getfield 429, 3), (14, .istore_n 3, 1), (15, .aload_n 0, 1), (16, .invokevirtual 577, 3), (19, .aload_n 0, 1), (20, .iload_n 2, 1), (21, .putfield 426, 3), (24, .aload_n 0, 1), (25, .iload_n 3, 1), (26, .putfield 429, 3), (29, .aload_n 0, 1), (30, .iload_n 1, 1), (31, .invokevirtual 574, 3), (34, .ifCond .ne 10, 3), (44, .aload_n 0, 1), (45, .iconst 0, 1), (46, .putfield 588, 3)] = true ∧ dOk cX12_close [(49, .aload_n 0, 1), (50, .iload_n 1, 1), (51, .invokevirtual 582, 3), (54, .istore 4, 2), (56, .aload_n 0, 1), (57, .aload_n 0, 1), (58, .getfield 588, 3), (61, .ifCond .eq 8, 3), (69, .iconst 0, 1), (70, .putfield 423, 3), (73, .aload_n 0, 1), (74, .getfield 588, 3), (77, .ifCond .eq 7, 3), (84, .iload 4, 2), (86, .ireturn, 1), (64, .bipush 6, 2), (66, .goto 4, 3), (80, .iconst (-1), 1), (81, .goto 5, 3), (37, .aload_n 0, 1), (38, .iconst 3, 1), (39, .putfield 423, 3), (42, .iconst (-1), 1), (43, .ireturn, 1)] = true := by decide +kernel
theorem dX12_close_0 : decode cX12_close 0 = .ok (.aload_n 0, 1) := dr9 dk9_dX12_close_0_0.1 0 (0, .aload_n 0, 1) rfl
theorem dX12_close_1 : decode cX12_close 1 = .ok (.iconst 0, 1) := dr9 dk9_dX12_close_0_0.1 1 (1, .iconst 0, 1) rfl
theorem dX12_close_2 : decode cX12_close 2 = .ok (.putfield 1, 3) := dr9 dk9_dX12_close_0_0.1 2 (2, .putfield 1, 3) rfl
theorem dX12_close_5 : decode cX12_close 5 = .ok (.aload_n 0, 1) := dr9 dk9_dX12_close_0_0.1 3 (5, .aload_n 0, 1) rfl
theorem dX12_close_6 : decode cX12_close 6 = .ok (.getfield 426, 3) := dr9 dk9_dX12_close_0_0.1 4 (6, .getfield 426, 3) rfl
theorem dX12_close_9 : decode cX12_close 9 = .ok (.istore_n 2, 1) := dr9 dk9_dX12_close_0_0.1 5 (9, .istore_n 2, 1) rfl
theorem dX12_close_10 : decode cX12_close 10 = .ok (.aload_n 0, 1) := dr9 dk9_dX12_close_0_0.1 6 (10, .aload_n 0, 1) rfl
theorem dX12_close_11 : decode cX12_close 11 = .ok (.getfield 429, 3) := dr9 dk9_dX12_close_0_0.1 7 (11, .getfield 429, 3) rfl
theorem dX12_close_14 : decode cX12_close 14 = .ok (.istore_n 3, 1) := dr9 dk9_dX12_close_0_0.1 8 (14, .istore_n 3, 1) rfl
theorem dX12_close_15 : decode cX12_close 15 = .ok (.aload_n 0, 1) := dr9 dk9_dX12_close_0_0.1 9 (15, .aload_n 0, 1) rfl
theorem dX12_close_16 : decode cX12_close 16 = .ok (.invokevirtual 577, 3) := dr9 dk9_dX12_close_0_0.1 10 (16, .invokevirtual 577, 3) rfl
theorem dX12_close_19 : decode cX12_close 19 = .ok (.aload_n 0, 1) := dr9 dk9_dX12_close_0_0.1 11 (19, .aload_n 0, 1) rfl
theorem dX12_close_20 : decode cX12_close 20 = .ok (.iload_n 2, 1) := dr9 dk9_dX12_close_0_0.1 12 (20, .iload_n 2, 1) rfl
theorem dX12_close_21 : decode cX12_close 21 = .ok (.putfield 426, 3) := dr9 dk9_dX12_close_0_0.1 13 (21, .putfield 426, 3) rfl
theorem dX12_close_24 : decode cX12_close 24 = .ok (.aload_n 0, 1) := dr9 dk9_dX12_close_0_0.1 14 (24, .aload_n 0, 1) rfl
theorem dX12_close_25 : decode cX12_close 25 = .ok (.iload_n 3, 1) := dr9 dk9_dX12_close_0_0.1 15 (25, .iload_n 3, 1) rfl
theorem dX12_close_26 : decode cX12_close 26 = .ok (.putfield 429, 3) := dr9 dk9_dX12_close_0_0.1 16 (26, .putfield 429, 3) rfl
theorem dX12_close_29 : decode cX12_close 29 = .ok (.aload_n 0, 1) := dr9 dk9_dX12_close_0_0.1 17 (29, .aload_n 0, 1) rfl
theorem dX12_close_30 : decode cX12_close 30 = .ok (.iload_n 1, 1) := dr9 dk9_dX12_close_0_0.1 18 (30, .iload_n 1, 1) rfl
theorem dX12_close_31 : decode cX12_close 31 = .ok (.invokevirtual 574, 3) := dr9 dk9_dX12_close_0_0.1 19 (31, .invokevirtual 574, 3) rfl
theorem dX12_close_34 : decode cX12_close 34 = .ok (.ifCond .ne 10, 3) := dr9 dk9_dX12_close_0_0.1 20 (34, .ifCond .ne 10, 3) rfl
theorem dX12_close_44 : decode cX12_close 44 = .ok (.aload_n 0, 1) := dr9 dk9_dX12_close_0_0.1 21 (44, .aload_n 0, 1) rfl
theorem dX12_close_45 : decode cX12_close 45 = .ok (.iconst 0, 1) := dr9 dk9_dX12_close_0_0.1 22 (45, .iconst 0, 1) rfl
theorem dX12_close_46 : decode cX12_close 46 = .ok (.putfield 588, 3) := dr9 dk9_dX12_close_0_0.1 23 (46, .putfield 588, 3) rfl
theorem dX12_close_49 : decode cX12_close 49 = .ok (.aload_n 0, 1) := dr9 dk9_dX12_close_0_0.2 0 (49, .aload_n 0, 1) rfl
theorem dX12_close_50 : decode cX12_close 50 = .ok (.iload_n 1, 1) := dr9 dk9_dX12_close_0_0.2 1 (50, .iload_n 1, 1) rfl
theorem dX12_close_51 : decode cX12_close 51 = .ok (.invokevirtual 582, 3) := dr9 dk9_dX12_close_0_0.2 2 (51, .invokevirtual 582, 3) rfl
theorem dX12_close_54 : decode cX12_close 54 = .ok (.istore 4, 2) := dr9 dk9_dX12_close_0_0.2 3 (54, .istore 4, 2) rfl
theorem dX12_close_56 : decode cX12_close 56 = .ok (.aload_n 0, 1) := dr9 dk9_dX12_close_0_0.2 4 (56, .aload_n 0, 1) rfl
theorem dX12_close_57 : decode cX12_close 57 = .ok (.aload_n 0, 1) := dr9 dk9_dX12_close_0_0.2 5 (57, .aload_n 0, 1) rfl
theorem dX12_close_58 : decode cX12_close 58 = .ok (.getfield 588, 3) := dr9 dk9_dX12_close_0_0.2 6 (58, .getfield 588, 3) rfl
theorem dX12_close_61 : decode cX12_close 61 = .ok (.ifCond .eq 8, 3) := dr9 dk9_dX12_close_0_0.2 7 (61, .ifCond .eq 8, 3) rfl
theorem dX12_close_69 : decode cX12_close 69 = .ok (.iconst 0, 1) := dr9 dk9_dX12_close_0_0.2 8 (69, .iconst 0, 1) rfl
theorem dX12_close_70 : decode cX12_close 70 = .ok (.putfield 423, 3) := dr9 dk9_dX12_close_0_0.2 9 (70, .putfield 423, 3) rfl
theorem dX12_close_73 : decode cX12_close 73 = .ok (.aload_n 0, 1) := dr9 dk9_dX12_close_0_0.2 10 (73, .aload_n 0, 1) rfl
theorem dX12_close_74 : decode cX12_close 74 = .ok (.getfield 588, 3) := dr9 dk9_dX12_close_0_0.2 11 (74, .getfield 588, 3) rfl
theorem dX12_close_77 : decode cX12_close 77 = .ok (.ifCond .eq 7, 3) := dr9 dk9_dX12_close_0_0.2 12 (77, .ifCond .eq 7, 3) rfl
theorem dX12_close_84 : decode cX12_close 84 = .ok (.iload 4, 2) := dr9 dk9_dX12_close_0_0.2 13 (84, .iload 4, 2) rfl
theorem dX12_close_86 : decode cX12_close 86 = .ok (.ireturn, 1) := dr9 dk9_dX12_close_0_0.2 14 (86, .ireturn, 1) rfl
theorem dX12_close_64 : decode cX12_close 64 = .ok (.bipush 6, 2) := dr9 dk9_dX12_close_0_0.2 15 (64, .bipush 6, 2) rfl
theorem dX12_close_66 : decode cX12_close 66 = .ok (.goto 4, 3) := dr9 dk9_dX12_close_0_0.2 16 (66, .goto 4, 3) rfl
theorem dX12_close_80 : decode cX12_close 80 = .ok (.iconst (-1), 1) := dr9 dk9_dX12_close_0_0.2 17 (80, .iconst (-1), 1) rfl
theorem dX12_close_81 : decode cX12_close 81 = .ok (.goto 5, 3) := dr9 dk9_dX12_close_0_0.2 18 (81, .goto 5, 3) rfl
theorem dX12_close_37 : decode cX12_close 37 = .ok (.aload_n 0, 1) := dr9 dk9_dX12_close_0_0.2 19 (37, .aload_n 0, 1) rfl
theorem dX12_close_38 : decode cX12_close 38 = .ok (.iconst 3, 1) := dr9 dk9_dX12_close_0_0.2 20 (38, .iconst 3, 1) rfl
theorem dX12_close_39 : decode cX12_close 39 = .ok (.putfield 423, 3) := dr9 dk9_dX12_close_0_0.2 21 (39, .putfield 423, 3) rfl
theorem dX12_close_42 : decode cX12_close 42 = .ok (.iconst (-1), 1) := dr9 dk9_dX12_close_0_0.2 22 (42, .iconst (-1), 1) rfl
theorem dX12_close_43 : decode cX12_close 43 = .ok (.ireturn, 1) := dr9 dk9_dX12_close_0_0.2 23 (43, .ireturn, 1) rfl
theorem dk9_dX12_get_0_0 : dOk cX12_get [(0, .aload_n 0, 1), (1, .iconst 0, 1), (2, .putfield 1, 3), (5, .aload_n 0, 1), (6, .invokevirtual 577, 3), (9, .aload_n 0, 1), (10, .getfield 408, 3), (13, .ifCond .eq 19, 3), (32, .aload_n 0, 1), (33, .aload_n 0, 1), (34, .getfield 408, 3), (37, .ifCond .ne 7, 3), (40, .iconst 4, 1), (41, .goto 16, 3), (57, .putfield 423, 3), (60, .iconst (-1), 1), (61, .ireturn, 1), (16, .aload_n 0, 1), (17, .iload_n 1, 1), (18, .invokevirtual 574, 3), (21, .ifCond .eq 11, 3), (44, .aload_n 0, 1), (45, .iload_n 1, 1), (46, .invokevirtual 574, 3)] = true ∧ dOk cX12_get [(49, .ifCond .ne 7, 3), (56, .iconst 4, 1), (52, .iconst 3, 1), (53, .goto 4, 3), (24, .aload_n 0, 1), (25, .iload_n 2, 1), (26, .invokevirtual 438, 3), (29, .ifCond .ne 33, 3), (62, .aload_n 0, 1), (63, .aload_n 0, 1), (64, .iload_n 2, 1), (65, .iload_n 1, 1), (66, .invokevirtual 568, 3), (69, .invokevirtual 579, 3), (72, .ifCond .eq 10, 3), (82, .iconst (-1), 1), (83, .ireturn, 1), (75, .aload_n 0, 1), (76, .getfield 490, 3), (79, .goto 4, 3)] = true := by decide +kernel
theorem dX12_get_0 : decode cX12_get 0 = .ok (.aload_n 0, 1) := dr9 dk9_dX12_get_0_0.1 0 (0, .aload_n 0, 1) rfl
theorem dX12_get_1 : decode cX12_get 1 = .ok (.iconst 0, 1) := dr9 dk9_dX12_get_0_0.1 1 (1, .iconst 0, 1) rfl
theorem dX12_get_2 : decode cX12_get 2 = .ok (.putfield 1, 3) := dr9 dk9_dX12_get_0_0.1 2 (2, .putfield 1, 3) rfl
theorem dX12_get_5 : decode cX12_get 5 = .ok (.aload_n 0, 1) := dr9 dk9_dX12_get_0_0.1 3 (5, .aload_n 0, 1) rfl
theorem dX12_get_6 : decode cX12_get 6 = .ok (.invokevirtual 577, 3) := dr9 dk9_dX12_get_0_0.1 4 (6, .invokevirtual 577, 3) rfl
theorem dX12_get_9 : decode cX12_get 9 = .ok (.aload_n 0, 1) := dr9 dk9_dX12_get_0_0.1 5 (9, .aload_n 0, 1) rfl
theorem dX12_get_10 : decode cX12_get 10 = .ok (.getfield 408, 3) := dr9 dk9_dX12_get_0_0.1 6 (10, .getfield 408, 3) rfl
theorem dX12_get_13 : decode cX12_get 13 = .ok (.ifCond .eq 19, 3) := dr9 dk9_dX12_get_0_0.1 7 (13, .ifCond .eq 19, 3) rfl
theorem dX12_get_32 : decode cX12_get 32 = .ok (.aload_n 0, 1) := dr9 dk9_dX12_get_0_0.1 8 (32, .aload_n 0, 1) rfl
theorem dX12_get_33 : decode cX12_get 33 = .ok (.aload_n 0, 1) := dr9 dk9_dX12_get_0_0.1 9 (33, .aload_n 0, 1) rfl
theorem dX12_get_34 : decode cX12_get 34 = .ok (.getfield 408, 3) := dr9 dk9_dX12_get_0_0.1 10 (34, .getfield 408, 3) rfl
theorem dX12_get_37 : decode cX12_get 37 = .ok (.ifCond .ne 7, 3) := dr9 dk9_dX12_get_0_0.1 11 (37, .ifCond .ne 7, 3) rfl
theorem dX12_get_40 : decode cX12_get 40 = .ok (.iconst 4, 1) := dr9 dk9_dX12_get_0_0.1 12 (40, .iconst 4, 1) rfl
theorem dX12_get_41 : decode cX12_get 41 = .ok (.goto 16, 3) := dr9 dk9_dX12_get_0_0.1 13 (41, .goto 16, 3) rfl
theorem dX12_get_57 : decode cX12_get 57 = .ok (.putfield 423, 3) := dr9 dk9_dX12_get_0_0.1 14 (57, .putfield 423, 3) rfl
theorem dX12_get_60 : decode cX12_get 60 = .ok (.iconst (-1), 1) := dr9 dk9_dX12_get_0_0.1 15 (60, .iconst (-1), 1) rfl
theorem dX12_get_61 : decode cX12_get 61 = .ok (.ireturn, 1) := dr9 dk9_dX12_get_0_0.1 16 (61, .ireturn, 1) rfl
theorem dX12_get_16 : decode cX12_get 16 = .ok (.aload_n 0, 1) := dr9 dk9_dX12_get_0_0.1 17 (16, .aload_n 0, 1) rfl
theorem dX12_get_17 : decode cX12_get 17 = .ok (.iload_n 1, 1) := dr9 dk9_dX12_get_0_0.1 18 (17, .iload_n 1, 1) rfl
theorem dX12_get_18 : decode cX12_get 18 = .ok (.invokevirtual 574, 3) := dr9 dk9_dX12_get_0_0.1 19 (18, .invokevirtual 574, 3) rfl
theorem dX12_get_21 : decode cX12_get 21 = .ok (.ifCond .eq 11, 3) := dr9 dk9_dX12_get_0_0.1 20 (21, .ifCond .eq 11, 3) rfl
theorem dX12_get_44 : decode cX12_get 44 = .ok (.aload_n 0, 1) := dr9 dk9_dX12_get_0_0.1 21 (44, .aload_n 0, 1) rfl
theorem dX12_get_45 : decode cX12_get 45 = .ok (.iload_n 1, 1) := dr9 dk9_dX12_get_0_0.1 22 (45, .iload_n 1, 1) rfl
theorem dX12_get_46 : decode cX12_get 46 = .ok (.invokevirtual 574, 3) := dr9 dk9_dX12_get_0_0.1 23 (46, .invokevirtual 574, 3) rfl
theorem dX12_get_49 : decode cX12_get 49 = .ok (.ifCond .ne 7, 3) := dr9 dk9_dX12_get_0_0.2 0 (49, .ifCond .ne 7, 3) rfl
theorem dX12_get_56 : decode cX12_get 56 = .ok (.iconst 4, 1) := dr9 dk9_dX12_get_0_0.2 1 (56, .iconst 4, 1) rfl
theorem dX12_get_52 : decode cX12_get 52 = .ok (.iconst 3, 1) := dr9 dk9_dX12_get_0_0.2 2 (52, .iconst 3, 1) rfl
theorem dX12_get_53 : decode cX12_get 53 = .ok (.goto 4, 3) := dr9 dk9_dX12_get_0_0.2 3 (53, .goto 4, 3) rfl
theorem dX12_get_24 : decode cX12_get 24 = .ok (.aload_n 0, 1) := dr9 dk9_dX12_get_0_0.2 4 (24, .aload_n 0, 1) rfl
theorem dX12_get_25 : decode cX12_get 25 = .ok (.iload_n 2, 1) := dr9 dk9_dX12_get_0_0.2 5 (25, .iload_n 2, 1) rfl
theorem dX12_get_26 : decode cX12_get 26 = .ok (.invokevirtual 438, 3) := dr9 dk9_dX12_get_0_0.2 6 (26, .invokevirtual 438, 3) rfl
theorem dX12_get_29 : decode cX12_get 29 = .ok (.ifCond .ne 33, 3) := dr9 dk9_dX12_get_0_0.2 7 (29, .ifCond .ne 33, 3) rfl
theorem dX12_get_62 : decode cX12_get 62 = .ok (.aload_n 0, 1) := dr9 dk9_dX12_get_0_0.2 8 (62, .aload_n 0, 1) rfl
theorem dX12_get_63 : decode cX12_get 63 = .ok (.aload_n 0, 1) := dr9 dk9_dX12_get_0_0.2 9 (63, .aload_n 0, 1) rfl
theorem dX12_get_64 : decode cX12_get 64 = .ok (.iload_n 2, 1) := dr9 dk9_dX12_get_0_0.2 10 (64, .iload_n 2, 1) rfl
theorem dX12_get_65 : decode cX12_get 65 = .ok (.iload_n 1, 1) := dr9 dk9_dX12_get_0_0.2 11 (65, .iload_n 1, 1) rfl
theorem dX12_get_66 : decode cX12_get 66 = .ok (.invokevirtual 568, 3) := dr9 dk9_dX12_get_0_0.2 12 (66, .invokevirtual 568, 3) rfl
theorem dX12_get_69 : decode cX12_get 69 = .ok (.invokevirtual 579, 3) := dr9 dk9_dX12_get_0_0.2 13 (69, .invokevirtual 579, 3) rfl
theorem dX12_get_72 : decode cX12_get 72 = .ok (.ifCond .eq 10, 3) := dr9 dk9_dX12_get_0_0.2 14 (72, .ifCond .eq 10, 3) rfl
theorem dX12_get_82 : decode cX12_get 82 = .ok (.iconst (-1), 1) := dr9 dk9_dX12_get_0_0.2 15 (82, .iconst (-1), 1) rfl
theorem dX12_get_83 : decode cX12_get 83 = .ok (.ireturn, 1) := dr9 dk9_dX12_get_0_0.2 16 (83, .ireturn, 1) rfl
theorem dX12_get_75 : decode cX12_get 75 = .ok (.aload_n 0, 1) := dr9 dk9_dX12_get_0_0.2 17 (75, .aload_n 0, 1) rfl
theorem dX12_get_76 : decode cX12_get 76 = .ok (.getfield 490, 3) := dr9 dk9_dX12_get_0_0.2 18 (76, .getfield 490, 3) rfl
theorem dX12_get_79 : decode cX12_get 79 = .ok (.goto 4, 3) := dr9 dk9_dX12_get_0_0.2 19 (79, .goto 4, 3) rfl
theorem dk9_dX12_call_0_0 : dOk cX12_call [(0, .aload_n 0, 1), (1, .iconst 0, 1), (2, .putfield 1, 3), (5, .aload_n 0, 1), (6, .invokevirtual 577, 3), (9, .aload_n 0, 1), (10, .iconst 0, 1), (11, .putfield 420, 3), (14, .iload_n 2, 1), (15, .ifCond .lt 42, 3), (57, .iconst 0, 1), (58, .istore 5, 2), (60, .aload_n 0, 1), (61, .getfield 408, 3), (64, .ifCond .eq 16, 3), (80, .aload_n 0, 1), (81, .aload_n 0, 1), (82, .getfield 408, 3), (85, .ifCond .ne 7, 3), (88, .iconst 4, 1), (89, .goto 16, 3), (105, .putfield 423, 3), (108, .iconst 0, 1), (109, .ireturn, 1)] = true ∧ dOk cX12_call [(67, .aload_n 0, 1), (68, .iload_n 1, 1), (69, .invokevirtual 574, 3), (72, .ifCond .eq 8, 3), (92, .aload_n 0, 1), (93, .iload_n 1, 1), (94, .invokevirtual 574, 3), (97, .ifCond .ne 7, 3), (104, .iconst 4, 1), (100, .iconst 3, 1), (101, .goto 4, 3), (75, .iload 5, 2), (77, .ifCond .ne 33, 3), (18, .iload_n 2, 1), (19, .aload_n 0, 1), (20, .getfield 411, 3), (23, .if_icmp .ge 34, 3), (26, .aload_n 0, 1), (27, .getfield 170, 3), (30, .iload_n 2, 1), (31, .iaload, 1), (32, .iconst 1, 1), (33, .if_icmp .ne 24, 3), (36, .iload_n 3, 1)] = true ∧ dOk cX12_call [(37, .ifCond .lt 20, 3), (40, .iload_n 3, 1), (41, .aload_n 0, 1), (42, .getfield 110, 3), (45, .aload_n 0, 1), (46, .getfield 286, 3), (49, .iaload, 1), (50, .if_icmp .ge 7, 3), (53, .iconst 1, 1), (54, .goto 4, 3), (110, .aload_n 0, 1), (111, .aload_n 0, 1), (112, .iload_n 2, 1), (113, .iload_n 3, 1), (114, .iload_n 1, 1), (115, .iload 4, 2), (117, .invokevirtual 566, 3), (120, .invokevirtual 579, 3), (123, .ifCond .eq 10, 3), (133, .iconst 0, 1), (134, .ireturn, 1), (126, .aload_n 0, 1), (127, .getfield 545, 3), (130, .goto 4, 3)] = true := by decide +kernel
theorem dX12_call_0 : decode cX12_call 0 = .ok (.aload_n 0, 1) := dr9 dk9_dX12_call_0_0.1 0 (0, .aload_n 0, 1) rfl
theorem dX12_call_1 : decode cX12_call 1 = .ok (.iconst 0, 1) := dr9 dk9_dX12_call_0_0.1 1 (1, .iconst 0, 1) rfl
theorem dX12_call_2 : decode cX12_call 2 = .ok (.putfield 1, 3) := dr9 dk9_dX12_call_0_0.1 2 (2, .putfield 1, 3) rfl
theorem dX12_call_5 : decode cX12_call 5 = .ok (.aload_n 0, 1) := dr9 dk9_dX12_call_0_0.1 3 (5, .aload_n 0, 1) rfl
theorem dX12_call_6 : decode cX12_call 6 = .ok (.invokevirtual 577, 3) := dr9 dk9_dX12_call_0_0.1 4 (6, .invokevirtual 577, 3) rfl
theorem dX12_call_9 : decode cX12_call 9 = .ok (.aload_n 0, 1) := dr9 dk9_dX12_call_0_0.1 5 (9, .aload_n 0, 1) rfl
theorem dX12_call_10 : decode cX12_call 10 = .ok (.iconst 0, 1) := dr9 dk9_dX12_call_0_0.1 6 (10, .iconst 0, 1) rfl
theorem dX12_call_11 : decode cX12_call 11 = .ok (.putfield 420, 3) := dr9 dk9_dX12_call_0_0.1 7 (11, .putfield 420, 3) rfl
theorem dX12_call_14 : decode cX12_call 14 = .ok (.iload_n 2, 1) := dr9 dk9_dX12_call_0_0.1 8 (14, .iload_n 2, 1) rfl
theorem dX12_call_15 : decode cX12_call 15 = .ok (.ifCond .lt 42, 3) := dr9 dk9_dX12_call_0_0.1 9 (15, .ifCond .lt 42, 3) rfl
theorem dX12_call_57 : decode cX12_call 57 = .ok (.iconst 0, 1) := dr9 dk9_dX12_call_0_0.1 10 (57, .iconst 0, 1) rfl
theorem dX12_call_58 : decode cX12_call 58 = .ok (.istore 5, 2) := dr9 dk9_dX12_call_0_0.1 11 (58, .istore 5, 2) rfl
theorem dX12_call_60 : decode cX12_call 60 = .ok (.aload_n 0, 1) := dr9 dk9_dX12_call_0_0.1 12 (60, .aload_n 0, 1) rfl
theorem dX12_call_61 : decode cX12_call 61 = .ok (.getfield 408, 3) := dr9 dk9_dX12_call_0_0.1 13 (61, .getfield 408, 3) rfl
theorem dX12_call_64 : decode cX12_call 64 = .ok (.ifCond .eq 16, 3) := dr9 dk9_dX12_call_0_0.1 14 (64, .ifCond .eq 16, 3) rfl
theorem dX12_call_80 : decode cX12_call 80 = .ok (.aload_n 0, 1) := dr9 dk9_dX12_call_0_0.1 15 (80, .aload_n 0, 1) rfl
theorem dX12_call_81 : decode cX12_call 81 = .ok (.aload_n 0, 1) := dr9 dk9_dX12_call_0_0.1 16 (81, .aload_n 0, 1) rfl
theorem dX12_call_82 : decode cX12_call 82 = .ok (.getfield 408, 3) := dr9 dk9_dX12_call_0_0.1 17 (82, .getfield 408, 3) rfl
theorem dX12_call_85 : decode cX12_call 85 = .ok (.ifCond .ne 7, 3) := dr9 dk9_dX12_call_0_0.1 18 (85, .ifCond .ne 7, 3) rfl
theorem dX12_call_88 : decode cX12_call 88 = .ok (.iconst 4, 1) := dr9 dk9_dX12_call_0_0.1 19 (88, .iconst 4, 1) rfl
theorem dX12_call_89 : decode cX12_call 89 = .ok (.goto 16, 3) := dr9 dk9_dX12_call_0_0.1 20 (89, .goto 16, 3) rfl
theorem dX12_call_105 : decode cX12_call 105 = .ok (.putfield 423, 3) := dr9 dk9_dX12_call_0_0.1 21 (105, .putfield 423, 3) rfl
theorem dX12_call_108 : decode cX12_call 108 = .ok (.iconst 0, 1) := dr9 dk9_dX12_call_0_0.1 22 (108, .iconst 0, 1) rfl
theorem dX12_call_109 : decode cX12_call 109 = .ok (.ireturn, 1) := dr9 dk9_dX12_call_0_0.1 23 (109, .ireturn, 1) rfl
theorem dX12_call_67 : decode cX12_call 67 = .ok (.aload_n 0, 1) := dr9 dk9_dX12_call_0_0.2.1 0 (67, .aload_n 0, 1) rfl
theorem dX12_call_68 : decode cX12_call 68 = .ok (.iload_n 1, 1) := dr9 dk9_dX12_call_0_0.2.1 1 (68, .iload_n 1, 1) rfl
theorem dX12_call_69 : decode cX12_call 69 = .ok (.invokevirtual 574, 3) := dr9 dk9_dX12_call_0_0.2.1 2 (69, .invokevirtual 574, 3) rfl
theorem dX12_call_72 : decode cX12_call 72 = .ok (.ifCond .eq 8, 3) := dr9 dk9_dX12_call_0_0.2.1 3 (72, .ifCond .eq 8, 3) rfl
theorem dX12_call_92 : decode cX12_call 92 = .ok (.aload_n 0, 1) := dr9 dk9_dX12_call_0_0.2.1 4 (92, .aload_n 0, 1) rfl
theorem dX12_call_93 : decode cX12_call 93 = .ok (.iload_n 1, 1) := dr9 dk9_dX12_call_0_0.2.1 5 (93, .iload_n 1, 1) rfl
theorem dX12_call_94 : decode cX12_call 94 = .ok (.invokevirtual 574, 3) := dr9 dk9_dX12_call_0_0.2.1 6 (94, .invokevirtual 574, 3) rfl
theorem dX12_call_97 : decode cX12_call 97 = .ok (.ifCond .ne 7, 3) := dr9 dk9_dX12_call_0_0.2.1 7 (97, .ifCond .ne 7, 3) rfl
theorem dX12_call_104 : decode cX12_call 104 = .ok (.iconst 4, 1) := dr9 dk9_dX12_call_0_0.2.1 8 (104, .iconst 4, 1) rfl
theorem dX12_call_100 : decode cX12_call 100 = .ok (.iconst 3, 1) := dr9 dk9_dX12_call_0_0.2.1 9 (100, .iconst 3, 1) rfl
theorem dX12_call_101 : decode cX12_call 101 = .ok (.goto 4, 3) := dr9 dk9_dX12_call_0_0.2.1 10 (101, .goto 4, 3) rfl
theorem dX12_call_75 : decode cX12_call 75 = .ok (.iload 5, 2) := dr9 dk9_dX12_call_0_0.2.1 11 (75, .iload 5, 2) rfl
theorem dX12_call_77 : decode cX12_call 77 = .ok (.ifCond .ne 33, 3) := dr9 dk9_dX12_call_0_0.2.1 12 (77, .ifCond .ne 33, 3) rfl
theorem dX12_call_18 : decode cX12_call 18 = .ok (.iload_n 2, 1) := dr9 dk9_dX12_call_0_0.2.1 13 (18, .iload_n 2, 1) rfl
theorem dX12_call_19 : decode cX12_call 19 = .ok (.aload_n 0, 1) := dr9 dk9_dX12_call_0_0.2.1 14 (19, .aload_n 0, 1) rfl
theorem dX12_call_20 : decode cX12_call 20 = .ok (.getfield 411, 3) := dr9 dk9_dX12_call_0_0.2.1 15 (20, .getfield 411, 3) rfl
theorem dX12_call_23 : decode cX12_call 23 = .ok (.if_icmp .ge 34, 3) := dr9 dk9_dX12_call_0_0.2.1 16 (23, .if_icmp .ge 34, 3) rfl
theorem dX12_call_26 : decode cX12_call 26 = .ok (.aload_n 0, 1) := dr9 dk9_dX12_call_0_0.2.1 17 (26, .aload_n 0, 1) rfl
theorem dX12_call_27 : decode cX12_call 27 = .ok (.getfield 170, 3) := dr9 dk9_dX12_call_0_0.2.1 18 (27, .getfield 170, 3) rfl
theorem dX12_call_30 : decode cX12_call 30 = .ok (.iload_n 2, 1) := dr9 dk9_dX12_call_0_0.2.1 19 (30, .iload_n 2, 1) rfl
theorem dX12_call_31 : decode cX12_call 31 = .ok (.iaload, 1) := dr9 dk9_dX12_call_0_0.2.1 20 (31, .iaload, 1) rfl
theorem dX12_call_32 : decode cX12_call 32 = .ok (.iconst 1, 1) := dr9 dk9_dX12_call_0_0.2.1 21 (32, .iconst 1, 1) rfl
theorem dX12_call_33 : decode cX12_call 33 = .ok (.if_icmp .ne 24, 3) := dr9 dk9_dX12_call_0_0.2.1 22 (33, .if_icmp .ne 24, 3) rfl
theorem dX12_call_36 : decode cX12_call 36 = .ok (.iload_n 3, 1) := dr9 dk9_dX12_call_0_0.2.1 23 (36, .iload_n 3, 1) rfl
theorem dX12_call_37 : decode cX12_call 37 = .ok (.ifCond .lt 20, 3) := dr9 dk9_dX12_call_0_0.2.2 0 (37, .ifCond .lt 20, 3) rfl
theorem dX12_call_40 : decode cX12_call 40 = .ok (.iload_n 3, 1) := dr9 dk9_dX12_call_0_0.2.2 1 (40, .iload_n 3, 1) rfl
theorem dX12_call_41 : decode cX12_call 41 = .ok (.aload_n 0, 1) := dr9 dk9_dX12_call_0_0.2.2 2 (41, .aload_n 0, 1) rfl
theorem dX12_call_42 : decode cX12_call 42 = .ok (.getfield 110, 3) := dr9 dk9_dX12_call_0_0.2.2 3 (42, .getfield 110, 3) rfl
theorem dX12_call_45 : decode cX12_call 45 = .ok (.aload_n 0, 1) := dr9 dk9_dX12_call_0_0.2.2 4 (45, .aload_n 0, 1) rfl
theorem dX12_call_46 : decode cX12_call 46 = .ok (.getfield 286, 3) := dr9 dk9_dX12_call_0_0.2.2 5 (46, .getfield 286, 3) rfl
theorem dX12_call_49 : decode cX12_call 49 = .ok (.iaload, 1) := dr9 dk9_dX12_call_0_0.2.2 6 (49, .iaload, 1) rfl
theorem dX12_call_50 : decode cX12_call 50 = .ok (.if_icmp .ge 7, 3) := dr9 dk9_dX12_call_0_0.2.2 7 (50, .if_icmp .ge 7, 3) rfl
theorem dX12_call_53 : decode cX12_call 53 = .ok (.iconst 1, 1) := dr9 dk9_dX12_call_0_0.2.2 8 (53, .iconst 1, 1) rfl
theorem dX12_call_54 : decode cX12_call 54 = .ok (.goto 4, 3) := dr9 dk9_dX12_call_0_0.2.2 9 (54, .goto 4, 3) rfl
theorem dX12_call_110 : decode cX12_call 110 = .ok (.aload_n 0, 1) := dr9 dk9_dX12_call_0_0.2.2 10 (110, .aload_n 0, 1) rfl
theorem dX12_call_111 : decode cX12_call 111 = .ok (.aload_n 0, 1) := dr9 dk9_dX12_call_0_0.2.2 11 (111, .aload_n 0, 1) rfl
theorem dX12_call_112 : decode cX12_call 112 = .ok (.iload_n 2, 1) := dr9 dk9_dX12_call_0_0.2.2 12 (112, .iload_n 2, 1) rfl
theorem dX12_call_113 : decode cX12_call 113 = .ok (.iload_n 3, 1) := dr9 dk9_dX12_call_0_0.2.2 13 (113, .iload_n 3, 1) rfl
theorem dX12_call_114 : decode cX12_call 114 = .ok (.iload_n 1, 1) := dr9 dk9_dX12_call_0_0.2.2 14 (114, .iload_n 1, 1) rfl
theorem dX12_call_115 : decode cX12_call 115 = .ok (.iload 4, 2) := dr9 dk9_dX12_call_0_0.2.2 15 (115, .iload 4, 2) rfl
theorem dX12_call_117 : decode cX12_call 117 = .ok (.invokevirtual 566, 3) := dr9 dk9_dX12_call_0_0.2.2 16 (117, .invokevirtual 566, 3) rfl
theorem dX12_call_120 : decode cX12_call 120 = .ok (.invokevirtual 579, 3) := dr9 dk9_dX12_call_0_0.2.2 17 (120, .invokevirtual 579, 3) rfl
theorem dX12_call_123 : decode cX12_call 123 = .ok (.ifCond .eq 10, 3) := dr9 dk9_dX12_call_0_0.2.2 18 (123, .ifCond .eq 10, 3) rfl
theorem dX12_call_133 : decode cX12_call 133 = .ok (.iconst 0, 1) := dr9 dk9_dX12_call_0_0.2.2 19 (133, .iconst 0, 1) rfl
theorem dX12_call_134 : decode cX12_call 134 = .ok (.ireturn, 1) := dr9 dk9_dX12_call_0_0.2.2 20 (134, .ireturn, 1) rfl
theorem dX12_call_126 : decode cX12_call 126 = .ok (.aload_n 0, 1) := dr9 dk9_dX12_call_0_0.2.2 21 (126, .aload_n 0, 1) rfl
theorem dX12_call_127 : decode cX12_call 127 = .ok (.getfield 545, 3) := dr9 dk9_dX12_call_0_0.2.2 22 (127, .getfield 545, 3) rfl
theorem dX12_call_130 : decode cX12_call 130 = .ok (.goto 4, 3) := dr9 dk9_dX12_call_0_0.2.2 23 (130, .goto 4, 3) rfl
abbrev r_s_closeAllT : Room := { frames := 1620, cells := 0, slots := 0, locals := 40680 }
abbrev q_s_closeAllT (D : va_G) (ks : KS) (ad : Nat → Nat) (kk : Nat → ClassId) (V : Vf) (L : Lf) (p0 : Int32) (A : Nat → Prop) : Array Value → State → Outcome → State → Prop := q_s_closeAll D ks ad kk V L p0 A
abbrev r_s_close2 : Room := { frames := 1621, cells := 0, slots := 0, locals := 40704 }
abbrev q_s_close2 (D : va_G) (ks : KS) (ad : Nat → Nat) (kk : Nat → ClassId) (V : Vf) (L : Lf) (p0 : Int32) (A : Nat → Prop) : Array Value → State → Outcome → State → Prop := va_Qi (fun (r : Int32) (u : Vf × Lf) => rgd bM u.1 ∧ agr [(0, 0), (0, 60), (0, 65), (0, 68), (0, 69), (0, 70), (0, 71), (0, 72), (0, 73), (0, 76), (0, 90), (0, 91), (0, 92), (0, 93), (0, 95), (0, 96), (0, 98), (0, 99)] [56, 59, 61, 62, 63, 64, 66, 67, 74, 75, 77, 78, 79, 80, 94, 97] V u.1 ∧ u.2 = L ∧ ((u.1 0 65).toInt ≤ (u.1 0 60).toInt) ∧ ((u.1 0 73).toInt - (u.1 0 65).toInt ≤ (V 0 73).toInt - (V 0 65).toInt + 300) ∧ ((u.1 0 76).toInt - (u.1 0 69).toInt - (u.1 0 73).toInt ≤ (V 0 76).toInt - (V 0 69).toInt - (V 0 73).toInt + 3000) ∧ (RT0 u.1)) (fun u t => gq D A (mw ad kk ks.1 u.1 u.2) (mty kk) t) A
abbrev r_s_get2 : Room := { frames := 1617, cells := 0, slots := 0, locals := 40647 }
abbrev q_s_get2 (D : va_G) (ks : KS) (ad : Nat → Nat) (kk : Nat → ClassId) (V : Vf) (L : Lf) (p0 : Int32) (p1 : Int32) (A : Nat → Prop) : Array Value → State → Outcome → State → Prop := va_Qi (fun (r : Int32) (u : Vf × Lf) => rgd bM u.1 ∧ agr [(0, 0), (0, 60), (0, 65), (0, 68), (0, 69), (0, 70), (0, 71), (0, 72), (0, 73), (0, 76), (0, 90), (0, 91), (0, 92), (0, 93), (0, 95), (0, 96), (0, 98)] [59, 61, 62, 63, 64, 66, 67, 74, 75, 77, 78, 79, 80, 94, 97] V u.1 ∧ u.2 = L ∧ ((u.1 0 65).toInt ≤ (u.1 0 60).toInt) ∧ ((u.1 0 73).toInt - (u.1 0 65).toInt ≤ (V 0 73).toInt - (V 0 65).toInt + 300) ∧ ((u.1 0 76).toInt - (u.1 0 69).toInt - (u.1 0 73).toInt ≤ (V 0 76).toInt - (V 0 69).toInt - (V 0 73).toInt + 3000) ∧ (RT0 u.1)) (fun u t => gq D A (mw ad kk ks.1 u.1 u.2) (mty kk) t) A
abbrev r_s_call2 : Room := { frames := 1609, cells := 0, slots := 0, locals := 40345 }
abbrev q_s_call2 (D : va_G) (ks : KS) (ad : Nat → Nat) (kk : Nat → ClassId) (V : Vf) (L : Lf) (p0 : Int32) (p1 : Int32) (p2 : Int32) (p3 : Int32) (A : Nat → Prop) : Array Value → State → Outcome → State → Prop := va_Qi (fun (r : Int32) (u : Vf × Lf) => rgd bM u.1 ∧ agr [(0, 0), (0, 60), (0, 65), (0, 68), (0, 69), (0, 70), (0, 71), (0, 72), (0, 73), (0, 76), (0, 90), (0, 91), (0, 92), (0, 93), (0, 95), (0, 96), (0, 98)] [59, 61, 62, 63, 64, 66, 67, 74, 75, 77, 78, 79, 80, 94, 97] V u.1 ∧ u.2 = L ∧ ((u.1 0 65).toInt ≤ (u.1 0 60).toInt) ∧ ((u.1 0 73).toInt - (u.1 0 65).toInt ≤ (V 0 73).toInt - (V 0 65).toInt + 300) ∧ ((u.1 0 76).toInt - (u.1 0 69).toInt - (u.1 0 73).toInt ≤ (V 0 76).toInt - (V 0 69).toInt - (V 0 73).toInt + 3000) ∧ (RT0 u.1)) (fun u t => gq D A (mw ad kk ks.1 u.1 u.2) (mty kk) t) A