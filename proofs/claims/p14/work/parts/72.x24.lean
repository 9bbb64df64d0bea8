theorem w1492 : Cond.code yX5_worksAlone cX5_worksAlone 3 (some .boolean) ∈ GW := gw_k tk9_6 137 (rfl) rfl
theorem w1489 : Cond.methodLink RX5 341 yX5_worksAlone ∈ GW := gw_k tk9_6 134 (by decide +kernel) rfl
theorem w1491 : Cond.instanceMethod yX5_worksAlone ∈ GW := gw_k tk9_6 136 (by decide +kernel) rfl
theorem w77 : Cond.selects RX5 yX5_worksAlone yX5_worksAlone ∈ GW := gw_mem 77 (by decide +kernel) rfl
theorem hdV_yX5_worksAlone : yX5_worksAlone.cls = RX5 ∧ yX5_worksAlone.cls ≠ "java/lang/invoke/MethodHandle" ∧ yX5_worksAlone.cls ≠ "java/lang/invoke/VarHandle" ∧ (parseMethodDescriptor yX5_worksAlone.desc).map (fun d => d.parameters.length) = some 2 := by decide +kernel
theorem w1488 : Cond.code yX5_compute cX5_compute 3 (some .int) ∈ GW := gw_k tk9_6 133 (rfl) rfl
theorem w1486 : Cond.methodLink RX5 334 yX5_compute ∈ GW := gw_k tk9_6 131 (by decide +kernel) rfl
theorem w1487 : Cond.static yX5_compute ∈ GW := gw_k tk9_6 132 (by decide +kernel) rfl
theorem hdS_yX5_compute : yX5_compute.cls ≠ "java/lang/invoke/MethodHandle" ∧ yX5_compute.cls ≠ "java/lang/invoke/VarHandle" ∧ (parseMethodDescriptor yX5_compute.desc).map (fun d => d.parameters.length) = some 3 := by decide +kernel
theorem w1481 : Cond.code yX5_worksWith cX5_worksWith 4 (some .boolean) ∈ GW := gw_k tk9_6 126 (rfl) rfl
theorem w1478 : Cond.methodLink RX5 326 yX5_worksWith ∈ GW := gw_k tk9_6 123 (by decide +kernel) rfl
theorem w1480 : Cond.instanceMethod yX5_worksWith ∈ GW := gw_k tk9_6 125 (by decide +kernel) rfl
theorem w75 : Cond.selects RX5 yX5_worksWith yX5_worksWith ∈ GW := gw_mem 75 (by decide +kernel) rfl
theorem hdV_yX5_worksWith : yX5_worksWith.cls = RX5 ∧ yX5_worksWith.cls ≠ "java/lang/invoke/MethodHandle" ∧ yX5_worksWith.cls ≠ "java/lang/invoke/VarHandle" ∧ (parseMethodDescriptor yX5_worksWith.desc).map (fun d => d.parameters.length) = some 2 := by decide +kernel
theorem dk9_dX5_worksAlone_0_0 : dOk cX5_worksAlone [(0, .iload_n 2, 1), (1, .tableswitch 88 1 4 #[31, 47, 57, 68], 31), (32, .aload_n 0, 1), (33, .invokevirtual 207, 3), (36, .ifCond .ne 10, 3), (46, .iconst 1, 1), (47, .ireturn, 1), (39, .aload_n 0, 1), (40, .aload_n 1, 1), (41, .invokevirtual 310, 3), (44, .iconst 0, 1), (45, .ireturn, 1), (48, .aload_n 0, 1), (49, .aload_n 1, 1), (50, .getfield 135, 3), (53, .invokevirtual 338, 3), (56, .iconst 1, 1), (57, .ireturn, 1), (58, .aload_n 0, 1), (59, .aload_n 0, 1), (60, .invokevirtual 330, 3), (63, .ineg, 1), (64, .invokevirtual 338, 3), (67, .iconst 1, 1)] = true ∧ dOk cX5_worksAlone [(68, .ireturn, 1), (69, .aload_n 1, 1), (70, .iconst 1, 1), (71, .putfield 94, 3), (74, .aload_n 0, 1), (75, .aload_n 1, 1), (76, .aload_n 1, 1), (77, .getfield 109, 3), (80, .aload_n 0, 1), (81, .invokevirtual 330, 3), (84, .invokevirtual 272, 3), (87, .iconst 0, 1), (88, .ireturn, 1), (89, .aload_n 0, 1), (90, .aload_n 0, 1), (91, .invokevirtual 330, 3), (94, .invokevirtual 203, 3), (97, .aload_n 0, 1), (98, .aload_n 1, 1), (99, .invokevirtual 310, 3), (102, .iconst 0, 1), (103, .ireturn, 1)] = true := by decide +kernel
theorem dX5_worksAlone_0 : decode cX5_worksAlone 0 = .ok (.iload_n 2, 1) := dr9 dk9_dX5_worksAlone_0_0.1 0 (0, .iload_n 2, 1) rfl
theorem dX5_worksAlone_1 : decode cX5_worksAlone 1 = .ok (.tableswitch 88 1 4 #[31, 47, 57, 68], 31) := dr9 dk9_dX5_worksAlone_0_0.1 1 (1, .tableswitch 88 1 4 #[31, 47, 57, 68], 31) rfl
theorem dX5_worksAlone_32 : decode cX5_worksAlone 32 = .ok (.aload_n 0, 1) := dr9 dk9_dX5_worksAlone_0_0.1 2 (32, .aload_n 0, 1) rfl
theorem dX5_worksAlone_33 : decode cX5_worksAlone 33 = .ok (.invokevirtual 207, 3) := dr9 dk9_dX5_worksAlone_0_0.1 3 (33, .invokevirtual 207, 3) rfl
theorem dX5_worksAlone_36 : decode cX5_worksAlone 36 = .ok (.ifCond .ne 10, 3) := dr9 dk9_dX5_worksAlone_0_0.1 4 (36, .ifCond .ne 10, 3) rfl
theorem dX5_worksAlone_46 : decode cX5_worksAlone 46 = .ok (.iconst 1, 1) := dr9 dk9_dX5_worksAlone_0_0.1 5 (46, .iconst 1, 1) rfl
theorem dX5_worksAlone_47 : decode cX5_worksAlone 47 = .ok (.ireturn, 1) := dr9 dk9_dX5_worksAlone_0_0.1 6 (47, .ireturn, 1) rfl
theorem dX5_worksAlone_39 : decode cX5_worksAlone 39 = .ok (.aload_n 0, 1) := dr9 dk9_dX5_worksAlone_0_0.1 7 (39, .aload_n 0, 1) rfl
theorem dX5_worksAlone_40 : decode cX5_worksAlone 40 = .ok (.aload_n 1, 1) := dr9 dk9_dX5_worksAlone_0_0.1 8 (40, .aload_n 1, 1) rfl
theorem dX5_worksAlone_41 : decode cX5_worksAlone 41 = .ok (.invokevirtual 310, 3) := dr9 dk9_dX5_worksAlone_0_0.1 9 (41, .invokevirtual 310, 3) rfl
theorem dX5_worksAlone_44 : decode cX5_worksAlone 44 = .ok (.iconst 0, 1) := dr9 dk9_dX5_worksAlone_0_0.1 10 (44, .iconst 0, 1) rfl
theorem dX5_worksAlone_45 : decode cX5_worksAlone 45 = .ok (.ireturn, 1) := dr9 dk9_dX5_worksAlone_0_0.1 11 (45, .ireturn, 1) rfl
theorem dX5_worksAlone_48 : decode cX5_worksAlone 48 = .ok (.aload_n 0, 1) := dr9 dk9_dX5_worksAlone_0_0.1 12 (48, .aload_n 0, 1) rfl
theorem dX5_worksAlone_49 : decode cX5_worksAlone 49 = .ok (.aload_n 1, 1) := dr9 dk9_dX5_worksAlone_0_0.1 13 (49, .aload_n 1, 1) rfl
theorem dX5_worksAlone_50 : decode cX5_worksAlone 50 = .ok (.getfield 135, 3) := dr9 dk9_dX5_worksAlone_0_0.1 14 (50, .getfield 135, 3) rfl
theorem dX5_worksAlone_53 : decode cX5_worksAlone 53 = .ok (.invokevirtual 338, 3) := dr9 dk9_dX5_worksAlone_0_0.1 15 (53, .invokevirtual 338, 3) rfl
theorem dX5_worksAlone_56 : decode cX5_worksAlone 56 = .ok (.iconst 1, 1) := dr9 dk9_dX5_worksAlone_0_0.1 16 (56, .iconst 1, 1) rfl
theorem dX5_worksAlone_57 : decode cX5_worksAlone 57 = .ok (.ireturn, 1) := dr9 dk9_dX5_worksAlone_0_0.1 17 (57, .ireturn, 1) rfl
theorem dX5_worksAlone_58 : decode cX5_worksAlone 58 = .ok (.aload_n 0, 1) := dr9 dk9_dX5_worksAlone_0_0.1 18 (58, .aload_n 0, 1) rfl
theorem dX5_worksAlone_59 : decode cX5_worksAlone 59 = .ok (.aload_n 0, 1) := dr9 dk9_dX5_worksAlone_0_0.1 19 (59, .aload_n 0, 1) rfl
theorem dX5_worksAlone_60 : decode cX5_worksAlone 60 = .ok (.invokevirtual 330, 3) := dr9 dk9_dX5_worksAlone_0_0.1 20 (60, .invokevirtual 330, 3) rfl
theorem dX5_worksAlone_63 : decode cX5_worksAlone 63 = .ok (.ineg, 1) := dr9 dk9_dX5_worksAlone_0_0.1 21 (63, .ineg, 1) rfl
theorem dX5_worksAlone_64 : decode cX5_worksAlone 64 = .ok (.invokevirtual 338, 3) := dr9 dk9_dX5_worksAlone_0_0.1 22 (64, .invokevirtual 338, 3) rfl
theorem dX5_worksAlone_67 : decode cX5_worksAlone 67 = .ok (.iconst 1, 1) := dr9 dk9_dX5_worksAlone_0_0.1 23 (67, .iconst 1, 1) rfl
theorem dX5_worksAlone_68 : decode cX5_worksAlone 68 = .ok (.ireturn, 1) := dr9 dk9_dX5_worksAlone_0_0.2 0 (68, .ireturn, 1) rfl
theorem dX5_worksAlone_69 : decode cX5_worksAlone 69 = .ok (.aload_n 1, 1) := dr9 dk9_dX5_worksAlone_0_0.2 1 (69, .aload_n 1, 1) rfl
theorem dX5_worksAlone_70 : decode cX5_worksAlone 70 = .ok (.iconst 1, 1) := dr9 dk9_dX5_worksAlone_0_0.2 2 (70, .iconst 1, 1) rfl
theorem dX5_worksAlone_71 : decode cX5_worksAlone 71 = .ok (.putfield 94, 3) := dr9 dk9_dX5_worksAlone_0_0.2 3 (71, .putfield 94, 3) rfl
theorem dX5_worksAlone_74 : decode cX5_worksAlone 74 = .ok (.aload_n 0, 1) := dr9 dk9_dX5_worksAlone_0_0.2 4 (74, .aload_n 0, 1) rfl
theorem dX5_worksAlone_75 : decode cX5_worksAlone 75 = .ok (.aload_n 1, 1) := dr9 dk9_dX5_worksAlone_0_0.2 5 (75, .aload_n 1, 1) rfl
theorem dX5_worksAlone_76 : decode cX5_worksAlone 76 = .ok (.aload_n 1, 1) := dr9 dk9_dX5_worksAlone_0_0.2 6 (76, .aload_n 1, 1) rfl
theorem dX5_worksAlone_77 : decode cX5_worksAlone 77 = .ok (.getfield 109, 3) := dr9 dk9_dX5_worksAlone_0_0.2 7 (77, .getfield 109, 3) rfl
theorem dX5_worksAlone_80 : decode cX5_worksAlone 80 = .ok (.aload_n 0, 1) := dr9 dk9_dX5_worksAlone_0_0.2 8 (80, .aload_n 0, 1) rfl
theorem dX5_worksAlone_81 : decode cX5_worksAlone 81 = .ok (.invokevirtual 330, 3) := dr9 dk9_dX5_worksAlone_0_0.2 9 (81, .invokevirtual 330, 3) rfl
theorem dX5_worksAlone_84 : decode cX5_worksAlone 84 = .ok (.invokevirtual 272, 3) := dr9 dk9_dX5_worksAlone_0_0.2 10 (84, .invokevirtual 272, 3) rfl
theorem dX5_worksAlone_87 : decode cX5_worksAlone 87 = .ok (.iconst 0, 1) := dr9 dk9_dX5_worksAlone_0_0.2 11 (87, .iconst 0, 1) rfl
theorem dX5_worksAlone_88 : decode cX5_worksAlone 88 = .ok (.ireturn, 1) := dr9 dk9_dX5_worksAlone_0_0.2 12 (88, .ireturn, 1) rfl
theorem dX5_worksAlone_89 : decode cX5_worksAlone 89 = .ok (.aload_n 0, 1) := dr9 dk9_dX5_worksAlone_0_0.2 13 (89, .aload_n 0, 1) rfl
theorem dX5_worksAlone_90 : decode cX5_worksAlone 90 = .ok (.aload_n 0, 1) := dr9 dk9_dX5_worksAlone_0_0.2 14 (90, .aload_n 0, 1) rfl
theorem dX5_worksAlone_91 : decode cX5_worksAlone 91 = .ok (.invokevirtual 330, 3) := dr9 dk9_dX5_worksAlone_0_0.2 15 (91, .invokevirtual 330, 3) rfl
theorem dX5_worksAlone_94 : decode cX5_worksAlone 94 = .ok (.invokevirtual 203, 3) := dr9 dk9_dX5_worksAlone_0_0.2 16 (94, .invokevirtual 203, 3) rfl
theorem dX5_worksAlone_97 : decode cX5_worksAlone 97 = .ok (.aload_n 0, 1) := dr9 dk9_dX5_worksAlone_0_0.2 17 (97, .aload_n 0, 1) rfl
theorem dX5_worksAlone_98 : decode cX5_worksAlone 98 = .ok (.aload_n 1, 1) := dr9 dk9_dX5_worksAlone_0_0.2 18 (98, .aload_n 1, 1) rfl
theorem dX5_worksAlone_99 : decode cX5_worksAlone 99 = .ok (.invokevirtual 310, 3) := dr9 dk9_dX5_worksAlone_0_0.2 19 (99, .invokevirtual 310, 3) rfl
theorem dX5_worksAlone_102 : decode cX5_worksAlone 102 = .ok (.iconst 0, 1) := dr9 dk9_dX5_worksAlone_0_0.2 20 (102, .iconst 0, 1) rfl
theorem dX5_worksAlone_103 : decode cX5_worksAlone 103 = .ok (.ireturn, 1) := dr9 dk9_dX5_worksAlone_0_0.2 21 (103, .ireturn, 1) rfl
theorem dk9_dX5_work_0_0 : dOk cX5_work [(0, .iconst 1, 1), (1, .istore_n 2, 1), (2, .iconst 0, 1), (3, .istore_n 3, 1), (4, .iload_n 2, 1), (5, .ifCond .eq 114, 3), (8, .iload_n 3, 1), (9, .aload_n 0, 1), (10, .getfield 24, 3), (13, .getfield 320, 3), (16, .if_icmp .ge 103, 3), (119, .return_, 1), (19, .aload_n 1, 1), (20, .getfield 141, 3), (23, .aload_n 0, 1), (24, .getfield 24, 3), (27, .getfield 320, 3), (30, .if_icmp .ge 89, 3), (33, .aload_n 0, 1), (34, .getfield 24, 3), (37, .getfield 323, 3), (40, .aload_n 1, 1), (41, .getfield 141, 3), (44, .iaload, 1)] = true ∧ dOk cX5_work [(45, .istore 4, 2), (47, .aload_n 1, 1), (48, .dup, 1), (49, .getfield 141, 3), (52, .iconst 1, 1), (53, .iadd, 1), (54, .putfield 141, 3), (57, .iload 4, 2), (59, .bipush 10, 2), (61, .if_icmp .lt 14, 3), (75, .iload 4, 2), (77, .iconst 5, 1), (78, .if_icmp .lt 27, 3), (105, .aload_n 0, 1), (106, .aload_n 1, 1), (107, .iload 4, 2), (109, .invokevirtual 341, 3), (112, .istore_n 2, 1), (113, .iinc 3 1, 3), (116, .goto (-112), 3), (81, .aload_n 0, 1), (82, .invokevirtual 330, 3), (85, .istore 5, 2), (87, .aload_n 0, 1)] = true ∧ dOk cX5_work [(88, .iload 4, 2), (90, .aload_n 0, 1), (91, .invokevirtual 330, 3), (94, .iload 5, 2), (96, .invokestatic 334, 3), (99, .invokevirtual 338, 3), (102, .goto 11, 3), (64, .aload_n 0, 1), (65, .aload_n 1, 1), (66, .iload 4, 2), (68, .invokevirtual 326, 3), (71, .istore_n 2, 1), (72, .goto 41, 3)] = true := by decide +kernel
theorem dX5_work_0 : decode cX5_work 0 = .ok (.iconst 1, 1) := dr9 dk9_dX5_work_0_0.1 0 (0, .iconst 1, 1) rfl
theorem dX5_work_1 : decode cX5_work 1 = .ok (.istore_n 2, 1) := dr9 dk9_dX5_work_0_0.1 1 (1, .istore_n 2, 1) rfl
theorem dX5_work_2 : decode cX5_work 2 = .ok (.iconst 0, 1) := dr9 dk9_dX5_work_0_0.1 2 (2, .iconst 0, 1) rfl
theorem dX5_work_3 : decode cX5_work 3 = .ok (.istore_n 3, 1) := dr9 dk9_dX5_work_0_0.1 3 (3, .istore_n 3, 1) rfl
theorem dX5_work_4 : decode cX5_work 4 = .ok (.iload_n 2, 1) := dr9 dk9_dX5_work_0_0.1 4 (4, .iload_n 2, 1) rfl
theorem dX5_work_5 : decode cX5_work 5 = .ok (.ifCond .eq 114, 3) := dr9 dk9_dX5_work_0_0.1 5 (5, .ifCond .eq 114, 3) rfl
theorem dX5_work_8 : decode cX5_work 8 = .ok (.iload_n 3, 1) := dr9 dk9_dX5_work_0_0.1 6 (8, .iload_n 3, 1) rfl
theorem dX5_work_9 : decode cX5_work 9 = .ok (.aload_n 0, 1) := dr9 dk9_dX5_work_0_0.1 7 (9, .aload_n 0, 1) rfl
theorem dX5_work_10 : decode cX5_work 10 = .ok (.getfield 24, 3) := dr9 dk9_dX5_work_0_0.1 8 (10, .getfield 24, 3) rfl
theorem dX5_work_13 : decode cX5_work 13 = .ok (.getfield 320, 3) := dr9 dk9_dX5_work_0_0.1 9 (13, .getfield 320, 3) rfl
theorem dX5_work_16 : decode cX5_work 16 = .ok (.if_icmp .ge 103, 3) := dr9 dk9_dX5_work_0_0.1 10 (16, .if_icmp .ge 103, 3) rfl
theorem dX5_work_119 : decode cX5_work 119 = .ok (.return_, 1) := dr9 dk9_dX5_work_0_0.1 11 (119, .return_, 1) rfl
theorem dX5_work_19 : decode cX5_work 19 = .ok (.aload_n 1, 1) := dr9 dk9_dX5_work_0_0.1 12 (19, .aload_n 1, 1) rfl
theorem dX5_work_20 : decode cX5_work 20 = .ok (.getfield 141, 3) := dr9 dk9_dX5_work_0_0.1 13 (20, .getfield 141, 3) rfl
theorem dX5_work_23 : decode cX5_work 23 = .ok (.aload_n 0, 1) := dr9 dk9_dX5_work_0_0.1 14 (23, .aload_n 0, 1) rfl
theorem dX5_work_24 : decode cX5_work 24 = .ok (.getfield 24, 3) := dr9 dk9_dX5_work_0_0.1 15 (24, .getfield 24, 3) rfl
theorem dX5_work_27 : decode cX5_work 27 = .ok (.getfield 320, 3) := dr9 dk9_dX5_work_0_0.1 16 (27, .getfield 320, 3) rfl
theorem dX5_work_30 : decode cX5_work 30 = .ok (.if_icmp .ge 89, 3) := dr9 dk9_dX5_work_0_0.1 17 (30, .if_icmp .ge 89, 3) rfl
theorem dX5_work_33 : decode cX5_work 33 = .ok (.aload_n 0, 1) := dr9 dk9_dX5_work_0_0.1 18 (33, .aload_n 0, 1) rfl
theorem dX5_work_34 : decode cX5_work 34 = .ok (.getfield 24, 3) := dr9 dk9_dX5_work_0_0.1 19 (34, .getfield 24, 3) rfl
theorem dX5_work_37 : decode cX5_work 37 = .ok (.getfield 323, 3) := dr9 dk9_dX5_work_0_0.1 20 (37, .getfield 323, 3) rfl
theorem dX5_work_40 : decode cX5_work 40 = .ok (.aload_n 1, 1) := dr9 dk9_dX5_work_0_0.1 21 (40, .aload_n 1, 1) rfl
theorem dX5_work_41 : decode cX5_work 41 = .ok (.getfield 141, 3) := dr9 dk9_dX5_work_0_0.1 22 (41, .getfield 141, 3) rfl
theorem dX5_work_44 : decode cX5_work 44 = .ok (.iaload, 1) := dr9 dk9_dX5_work_0_0.1 23 (44, .iaload, 1) rfl
theorem dX5_work_45 : decode cX5_work 45 = .ok (.istore 4, 2) := dr9 dk9_dX5_work_0_0.2.1 0 (45, .istore 4, 2) rfl
theorem dX5_work_47 : decode cX5_work 47 = .ok (.aload_n 1, 1) := dr9 dk9_dX5_work_0_0.2.1 1 (47, .aload_n 1, 1) rfl
theorem dX5_work_48 : decode cX5_work 48 = .ok (.dup, 1) := dr9 dk9_dX5_work_0_0.2.1 2 (48, .dup, 1) rfl
theorem dX5_work_49 : decode cX5_work 49 = .ok (.getfield 141, 3) := dr9 dk9_dX5_work_0_0.2.1 3 (49, .getfield 141, 3) rfl
theorem dX5_work_52 : decode cX5_work 52 = .ok (.iconst 1, 1) := dr9 dk9_dX5_work_0_0.2.1 4 (52, .iconst 1, 1) rfl
theorem dX5_work_53 : decode cX5_work 53 = .ok (.iadd, 1) := dr9 dk9_dX5_work_0_0.2.1 5 (53, .iadd, 1) rfl
theorem dX5_work_54 : decode cX5_work 54 = .ok (.putfield 141, 3) := dr9 dk9_dX5_work_0_0.2.1 6 (54, .putfield 141, 3) rfl
theorem dX5_work_57 : decode cX5_work 57 = .ok (.iload 4, 2) := dr9 dk9_dX5_work_0_0.2.1 7 (57, .iload 4, 2) rfl
theorem dX5_work_59 : decode cX5_work 59 = .ok (.bipush 10, 2) := dr9 dk9_dX5_work_0_0.2.1 8 (59, .bipush 10, 2) rfl
theorem dX5_work_61 : decode cX5_work 61 = .ok (.if_icmp .lt 14, 3) := dr9 dk9_dX5_work_0_0.2.1 9 (61, .if_icmp .lt 14, 3) rfl
theorem dX5_work_75 : decode cX5_work 75 = .ok (.iload 4, 2) := dr9 dk9_dX5_work_0_0.2.1 10 (75, .iload 4, 2) rfl
theorem dX5_work_77 : decode cX5_work 77 = .ok (.iconst 5, 1) := dr9 dk9_dX5_work_0_0.2.1 11 (77, .iconst 5, 1) rfl
theorem dX5_work_78 : decode cX5_work 78 = .ok (.if_icmp .lt 27, 3) := dr9 dk9_dX5_work_0_0.2.1 12 (78, .if_icmp .lt 27, 3) rfl
theorem dX5_work_105 : decode cX5_work 105 = .ok (.aload_n 0, 1) := dr9 dk9_dX5_work_0_0.2.1 13 (105, .aload_n 0, 1) rfl
theorem dX5_work_106 : decode cX5_work 106 = .ok (.aload_n 1, 1) := dr9 dk9_dX5_work_0_0.2.1 14 (106, .aload_n 1, 1) rfl
theorem dX5_work_107 : decode cX5_work 107 = .ok (.iload 4, 2) := dr9 dk9_dX5_work_0_0.2.1 15 (107, .iload 4, 2) rfl
theorem dX5_work_109 : decode cX5_work 109 = .ok (.invokevirtual 341, 3) := dr9 dk9_dX5_work_0_0.2.1 16 (109, .invokevirtual 341, 3) rfl
theorem dX5_work_112 : decode cX5_work 112 = .ok (.istore_n 2, 1) := dr9 dk9_dX5_work_0_0.2.1 17 (112, .istore_n 2, 1) rfl
theorem dX5_work_113 : decode cX5_work 113 = .ok (.iinc 3 1, 3) := dr9 dk9_dX5_work_0_0.2.1 18 (113, .iinc 3 1, 3) rfl
theorem dX5_work_116 : decode cX5_work 116 = .ok (.goto (-112), 3) := dr9 dk9_dX5_work_0_0.2.1 19 (116, .goto (-112), 3) rfl
theorem dX5_work_81 : decode cX5_work 81 = .ok (.aload_n 0, 1) := dr9 dk9_dX5_work_0_0.2.1 20 (81, .aload_n 0, 1) rfl
theorem dX5_work_82 : decode cX5_work 82 = .ok (.invokevirtual 330, 3) := dr9 dk9_dX5_work_0_0.2.1 21 (82, .invokevirtual 330, 3) rfl
theorem dX5_work_85 : decode cX5_work 85 = .ok (.istore 5, 2) := dr9 dk9_dX5_work_0_0.2.1 22 (85, .istore 5, 2) rfl
theorem dX5_work_87 : decode cX5_work 87 = .ok (.aload_n 0, 1) := dr9 dk9_dX5_work_0_0.2.1 23 (87, .aload_n 0, 1) rfl
theorem dX5_work_88 : decode cX5_work 88 = .ok (.iload 4, 2) := dr9 dk9_dX5_work_0_0.2.2 0 (88, .iload 4, 2) rfl
theorem dX5_work_90 : decode cX5_work 90 = .ok (.aload_n 0, 1) := dr9 dk9_dX5_work_0_0.2.2 1 (90, .aload_n 0, 1) rfl
theorem dX5_work_91 : decode cX5_work 91 = .ok (.invokevirtual 330, 3) := dr9 dk9_dX5_work_0_0.2.2 2 (91, .invokevirtual 330, 3) rfl
theorem dX5_work_94 : decode cX5_work 94 = .ok (.iload 5, 2) := dr9 dk9_dX5_work_0_0.2.2 3 (94, .iload 5, 2) rfl
theorem dX5_work_96 : decode cX5_work 96 = .ok (.invokestatic 334, 3) := dr9 dk9_dX5_work_0_0.2.2 4 (96, .invokestatic 334, 3) rfl
theorem dX5_work_99 : decode cX5_work 99 = .ok (.invokevirtual 338, 3) := dr9 dk9_dX5_work_0_0.2.2 5 (99, .invokevirtual 338, 3) rfl
theorem dX5_work_102 : decode cX5_work 102 = .ok (.goto 11, 3) := dr9 dk9_dX5_work_0_0.2.2 6 (102, .goto 11, 3) rfl
theorem dX5_work_64 : decode cX5_work 64 = .ok (.aload_n 0, 1) := dr9 dk9_dX5_work_0_0.2.2 7 (64, .aload_n 0, 1) rfl
theorem dX5_work_65 : decode cX5_work 65 = .ok (.aload_n 1, 1) := dr9 dk9_dX5_work_0_0.2.2 8 (65, .aload_n 1, 1) rfl
theorem dX5_work_66 : decode cX5_work 66 = .ok (.iload 4, 2) := dr9 dk9_dX5_work_0_0.2.2 9 (66, .iload 4, 2) rfl
theorem dX5_work_68 : decode cX5_work 68 = .ok (.invokevirtual 326, 3) := dr9 dk9_dX5_work_0_0.2.2 10 (68, .invokevirtual 326, 3) rfl
theorem dX5_work_71 : decode cX5_work 71 = .ok (.istore_n 2, 1) := dr9 dk9_dX5_work_0_0.2.2 11 (71, .istore_n 2, 1) rfl
theorem dX5_work_72 : decode cX5_work 72 = .ok (.goto 41, 3) := dr9 dk9_dX5_work_0_0.2.2 12 (72, .goto 41, 3) rfl
abbrev r_x_worksAlone (Z : XZ) : Room := { frames := 4, cells := zcc Z, slots := zss Z, locals := 90 }
abbrev q_x_worksAlone (D : va_G) (ks : KS) (ad : Nat → Nat) (kk : Nat → ClassId) (V : Vf) (L : Lf) (Z : XZ) (p1 : Int32) (b : Nat) (gf : Nat) (A : Nat → Prop) : Array Value → State → Outcome → State → Prop := qZi D (fun (r : Int32) (u : Vf × Lf × XZ) => rgd bX u.1 ∧ agr [(5, 6), (5, 7), (5, 9), (5, 10), (5, 13), (5, 14)] [39, 67, 68, 69, 70, 71, 72, 73, 74, 75, 76, 77, 78, 79, 80, 81, 82, 83, 84, 85] V u.1 ∧ u.2.1 = L ∧ ZL Z u.2.2 ∧ (0 ≤ r.toInt ∧ r.toInt ≤ 1) ∧ (Imp (r.toInt = 1) (MO u.1 u.2.2 b gf True True True)) ∧ (Imp (r.toInt = 0) (MJ u.1 u.2.2 b)) ∧ (Imp (r.toInt = 1) ((u.1 5 6).toInt = (V 5 6).toInt ∧ (u.1 67 gf).toInt = 4 ∧ (u.1 68 gf).toInt = 0)) ∧ (Imp (r.toInt = 1) (u.2.2 = Z))) (fun u => xw ad kk u.1 u.2.1 u.2.2) (fun u => xty kk u.2.2) (fun u => zcc Z - zcc u.2.2) (fun u => zss Z - zss u.2.2) A
set_option maxHeartbeats 4000000 in
set_option maxRecDepth 100000 in
theorem x_worksAlone (l : Launch) (D : va_G) (ks : KS) (sz : Nat) (ad : Nat → Nat) (kk : Nat → ClassId) (V : Vf) (L : Lf) (Z : XZ) (p1 : Int32) (b : Nat) (gf : Nat) (hMV : rgd bX V) (hb2 : b < 2) (hgf : gf < Z.nf) (mo : MO V Z b gf True True True) (gd : (gf : Int) + 1 = (V 5 6).toInt) (gk : (V 67 gf).toInt = 4) (gph : (V 68 gf).toInt = 0)  : Met l yX5_worksAlone (Cond.code yX5_worksAlone cX5_worksAlone 3 (some .boolean) :: GW) (r_x_worksAlone Z) (va_Pc [.ref (ad 5), .ref (Z.fa gf), .int p1] (gp D ks (xw ad kk V L Z) (xty kk Z) sz)) (q_x_worksAlone D ks ad kk V L Z p1 b gf (va_A (xw ad kk V L Z) sz)) (zcc Z) (zss Z) (va_A (xw ad kk V L Z) sz) := by
  refine g_met (q_x_worksAlone D ks ad kk V L Z p1 b gf) (by decide) (Nat.le_of_ble_eq_true rfl) ?_
  intro p e s m below meth c A ls H locs hx hb hr hml hown hg hlocks hin hnw hgk hP hK hD hS hA hl
  have hown : s.vm.findClass RX5 = some m.cls := hown
  have hl : lv_has ls 3 [(0, .ref (ad 5)), (1, .ref (Z.fa gf)), (2, .int p1)] := hl
  have hP : va_P D vwCl (xw ad kk V L Z) H := hP
  have hD : va_D A (xw ad kk V L Z) := hD
  have hK : va_K D vwCl (xty kk Z) s := hK
  have agV : agr [(5, 6), (5, 7), (5, 9), (5, 10), (5, 13), (5, 14)] [39, 67, 68, 69, 70, 71, 72, 73, 74, 75, 76, 77, 78, 79, 80, 81, 82, 83, 84, 85] V V := agr.rf
  have zoZ : ZL Z Z := ZL.rf
  refine W.know (fun ka kb => ?_)
  refine W.tight (k := zcc Z - zcc Z) (n := zss Z - zss Z) (by omega) (by omega) ?_
  have r1 : 0 ≤ ((V 5 6)).toInt ∧ ((V 5 6)).toInt ≤ 400 := hMV 5 6
  have kdp := i_clamp (x := V 5 6) rfl (by omega)
  have hdn : (gf : Int) + 1 ≤ (Z.nf : Int) := by omega
  have mup := MO.up mo
  have msz := mup.1
  have mbk := mup.2.2.2.1
  obtain ⟨xk, fk⟩ := MO.fk mo
  have r2 : (-1) ≤ ((V 71 gf)).toInt ∧ ((V 71 gf)).toInt ≤ 23 := hMV 71 gf
  have r3 : 0 ≤ ((V 75 gf)).toInt ∧ ((V 75 gf)).toInt ≤ 12 := hMV 75 gf
  have r4 : 0 ≤ ((V 80 gf)).toInt ∧ ((V 80 gf)).toInt ≤ 300 := hMV 80 gf
  have r5 : 0 ≤ ((V 84 gf)).toInt ∧ ((V 84 gf)).toInt ≤ 2147483647 := hMV 84 gf
  have r6 : 0 ≤ ((V 5 8)).toInt ∧ ((V 5 8)).toInt ≤ 300 := hMV 5 8
  have r7 : 0 ≤ ((V 5 9)).toInt ∧ ((V 5 9)).toInt ≤ 3 := hMV 5 9
  have r8 : 0 ≤ ((V 3 13)).toInt ∧ ((V 3 13)).toInt ≤ 300 := hMV 3 13
  have r9 : 0 ≤ ((V 43 (5 * b + 2))).toInt ∧ ((V 43 (5 * b + 2))).toInt ≤ ((xcap (5 * b + 2) : Nat) : Int) := hMV 43 (5 * b + 2)
  have r10 : xcap (5 * b + 2) = 24 := xcap_2
  have r11 : 0 ≤ ((V 41 b)).toInt ∧ ((V 41 b)).toInt ≤ 12 := hMV 41 b
  have r12 : 0 ≤ ((V 42 b)).toInt ∧ ((V 42 b)).toInt ≤ 8200 := hMV 42 b
  have fc := fk.1 (by omega)
  have fo := fk.2.1 (by omega) (by omega)
  have ft := fk.2.2.1 (by omega)
  have fq := fk.2.2.2.1 (by omega)
  refine lv_iload_n hx hb dX5_worksAlone_0 rfl (lv_at hl 2 rfl) ?_
  by_cases q13 : p1 = 1
  · refine g_top (v := 1) q13 ?_
    have fq13 : p1.toInt = 1 := b_eq rfl (by decide) q13
    refine lv_tableIn (x := 1) (off := 31) (tgt := 32) hx hb dX5_worksAlone_1 (by decide) (by decide) (by decide) (by decide) ?_
    refine lv_aload_n hx hb dX5_worksAlone_32 rfl (lv_at hl 0 rfl) ?_
    refine gA_int (gA_runV (As := []) (rest := []) (ci := 5) (q0 := 5) hx hb hml hown hg hP hD hK hS hA hnw hgk (x_takesStep l D ks H.size ad kk V L Z  hMV ) w1281 w1283 w48 w171 w1284 rfl xgMachine hdV_yX5_takesStep ⟨Nat.le_of_ble_eq_true rfl, Nat.le_of_ble_eq_true rfl⟩ rfl hl.1 rfl (Nat.le_of_ble_eq_true rfl) dX5_worksAlone_33 ⟨z0, z0⟩) hP hD hK hS hA (fun z14 u15 H locs w16 hP hD hK hS => ?_)
    obtain ⟨V19, L20⟩ := u15
    obtain ⟨hMV19, ajV19, axL20, rgz14, t17, t18⟩ := w16
    have axL20 : L = L20 := Eq.symm axL20
    subst axL20
    have hP : va_P D vwCl (xw ad kk V19 L Z) H := hP
    have hD : va_D A (xw ad kk V19 L Z) := hD
    have hMV19 : rgd bX V19 := hMV19
    have ajV19 : agr [(5, 9), (5, 13), (5, 14)] [] V V19 := ajV19
    have agV19 : agr [(5, 6), (5, 7), (5, 9), (5, 10), (5, 13), (5, 14)] [39, 67, 68, 69, 70, 71, 72, 73, 74, 75, 76, 77, 78, 79, 80, 81, 82, 83, 84, 85] V V19 := agV.tr ajV19 (by decide) (by decide)
    have rgz14 : 0 ≤ z14.toInt ∧ z14.toInt ≤ 1 := rgz14
    have t17 : Imp (z14.toInt = 0) ((V19 5 9).toInt = 3) := t17
    have t18 : Imp (z14.toInt = 1) ((V19 5 9).toInt = (V 5 9).toInt) := t18
    have r21 : 0 ≤ ((V19 5 9)).toInt ∧ ((V19 5 9)).toInt ≤ 3 := hMV19 5 9
    refine lv_if_ne (tgt := 46) hx hb dX5_worksAlone_36 (by decide) (fun c22 => ?_) (fun c22 => ?_)
    · skip
      have f23 : z14.toInt ≠ 0 := b_neq rfl (by decide) c22
      refine lv_iconst (v := 1) hx hb dX5_worksAlone_46 (by decide) ?_
      have pq24 : (V19 5 6).toInt = ((V 5 6)).toInt := congrArg Int32.toInt (ajV19 5 6 rfl)
      have pq25 : (V19 67 gf).toInt = ((V 67 gf)).toInt := congrArg Int32.toInt (ajV19 67 gf rfl)
      have pq26 : (V19 68 gf).toInt = ((V 68 gf)).toInt := congrArg Int32.toInt (ajV19 68 gf rfl)
      have me27 : ME V V19 gf := (ME.tr ME.rf (ME.ag ajV19 (by decide)))
      have pq28 : (V19 70 gf).toInt = ((V 70 gf)).toInt := congrArg Int32.toInt (ajV19 70 gf rfl)
      have pq29 : (V19 71 gf).toInt = ((V 71 gf)).toInt := congrArg Int32.toInt (ajV19 71 gf rfl)
      have pq30 : (V19 75 gf).toInt = ((V 75 gf)).toInt := congrArg Int32.toInt (ajV19 75 gf rfl)
      have pq31 : (V19 76 gf).toInt = ((V 76 gf)).toInt := congrArg Int32.toInt (ajV19 76 gf rfl)
      have pq32 : (V19 80 gf).toInt = ((V 80 gf)).toInt := congrArg Int32.toInt (ajV19 80 gf rfl)
      have pq33 : (V19 84 gf).toInt = ((V 84 gf)).toInt := congrArg Int32.toInt (ajV19 84 gf rfl)
      have pq34 : (V19 5 8).toInt = ((V 5 8)).toInt := congrArg Int32.toInt (ajV19 5 8 rfl)
      have pq35 : (V19 3 13).toInt = ((V 3 13)).toInt := congrArg Int32.toInt (ajV19 3 13 rfl)
      have pq36 : (V19 43 (5 * b + 2)).toInt = ((V 43 (5 * b + 2))).toInt := congrArg Int32.toInt (ajV19 43 (5 * b + 2) rfl)
      have pq37 : (V19 42 b).toInt = ((V 42 b)).toInt := congrArg Int32.toInt (ajV19 42 b rfl)
      have pq38 : (V19 41 b).toInt = ((V 41 b)).toInt := congrArg Int32.toInt (ajV19 41 b rfl)
      have af40 : (V19 42 b).toInt ≤ (V19 84 gf).toInt ∨ (bdp V19 b (V19 84 gf).toInt.toNat).1 = true := by rw [(ajV19 84 gf rfl), me27.1.bd, me27.1 42 b (by decide) (by decide)]; exact ft
      have mo39 : MO V19 Z b gf True True True := MO.ch mo me27 (ajV19 67 gf rfl) (ajV19 80 gf rfl) (fun _ => Or.inl (by omega)) (fun x h => FK.k4 (by first | omega | ((try (have i_t18 := Imp.go t18 (by omega))); (try (have i_t17 := Imp.go t17 (by omega))); (try (have i_t17 := Imp.go t17 (by omega))); (try (have i_t18 := Imp.go t18 (by omega))); omega)) (by first | omega | ((try (have i_t18 := Imp.go t18 (by omega))); (try (have i_t17 := Imp.go t17 (by omega))); (try (have i_t17 := Imp.go t17 (by omega))); (try (have i_t18 := Imp.go t18 (by omega))); omega)) (by first | omega | ((try (have i_t18 := Imp.go t18 (by omega))); (try (have i_t17 := Imp.go t17 (by omega))); (try (have i_t17 := Imp.go t17 (by omega))); (try (have i_t18 := Imp.go t18 (by omega))); omega)) af40 (by first | omega | ((try (have i_t18 := Imp.go t18 (by omega))); (try (have i_t17 := Imp.go t17 (by omega))); (try (have i_t17 := Imp.go t17 (by omega))); (try (have i_t18 := Imp.go t18 (by omega))); omega)) (fun hph => absurd hph (by omega)))
      refine W.know (fun kr1 kr2 => ?_)
      refine W.widen (k := zcc Z) (n := zss Z) (Nat.sub_le _ _) (Nat.sub_le _ _) ?_
      exact W.zret (v := 1) hx hb hr rfl (fun t ht hW => ⟨⟨1, (V19, L, Z), rfl, ⟨hMV19, agV19, rfl, zoZ, (by decide), (Imp.mk (fun _ => mo39)), (Imp.mk (fun hp => absurd hp (by decide))), (Imp.mk (fun _ => (show (V19 5 6).toInt = (V 5 6).toInt ∧ (V19 67 gf).toInt = 4 ∧ (V19 68 gf).toInt = 0 from by first | omega | ((try (have i_t18 := Imp.go t18 (by omega))); (try (have i_t17 := Imp.go t17 (by omega))); (try (have i_t17 := Imp.go t17 (by omega))); (try (have i_t18 := Imp.go t18 (by omega))); omega)))), (Imp.mk (fun _ => rfl))⟩, ⟨by rw [ht]; exact hP, va_K.moved hW.alike hK, hD⟩, by rw [ht]; exact kr1, by rw [ht]; exact kr2⟩, hS.F ht⟩) hS.2.2 dX5_worksAlone_47
    · skip
      have f41 : z14.toInt = 0 := b_eq rfl (by decide) c22
      refine lv_aload_n hx hb dX5_worksAlone_39 rfl (lv_at hl 0 rfl) ?_
      refine lv_aload_n hx hb dX5_worksAlone_40 rfl (lv_at hl 1 rfl) ?_
      have pq42 : (V19 5 6).toInt = ((V 5 6)).toInt := congrArg Int32.toInt (ajV19 5 6 rfl)
      have pq43 : (V19 67 gf).toInt = ((V 67 gf)).toInt := congrArg Int32.toInt (ajV19 67 gf rfl)
      have me44 : ME V V19 gf := (ME.tr ME.rf (ME.ag ajV19 (by decide)))
      have pq45 : (V19 68 gf).toInt = ((V 68 gf)).toInt := congrArg Int32.toInt (ajV19 68 gf rfl)
      have pq46 : (V19 70 gf).toInt = ((V 70 gf)).toInt := congrArg Int32.toInt (ajV19 70 gf rfl)
      have pq47 : (V19 71 gf).toInt = ((V 71 gf)).toInt := congrArg Int32.toInt (ajV19 71 gf rfl)
      have pq48 : (V19 75 gf).toInt = ((V 75 gf)).toInt := congrArg Int32.toInt (ajV19 75 gf rfl)
      have pq49 : (V19 76 gf).toInt = ((V 76 gf)).toInt := congrArg Int32.toInt (ajV19 76 gf rfl)
      have pq50 : (V19 80 gf).toInt = ((V 80 gf)).toInt := congrArg Int32.toInt (ajV19 80 gf rfl)
      have pq51 : (V19 84 gf).toInt = ((V 84 gf)).toInt := congrArg Int32.toInt (ajV19 84 gf rfl)
      have pq52 : (V19 5 8).toInt = ((V 5 8)).toInt := congrArg Int32.toInt (ajV19 5 8 rfl)
      have pq53 : (V19 3 13).toInt = ((V 3 13)).toInt := congrArg Int32.toInt (ajV19 3 13 rfl)
      have pq54 : (V19 43 (5 * b + 2)).toInt = ((V 43 (5 * b + 2))).toInt := congrArg Int32.toInt (ajV19 43 (5 * b + 2) rfl)
      have pq55 : (V19 42 b).toInt = ((V 42 b)).toInt := congrArg Int32.toInt (ajV19 42 b rfl)
      have pq56 : (V19 41 b).toInt = ((V 41 b)).toInt := congrArg Int32.toInt (ajV19 41 b rfl)
      have af58 : (V19 42 b).toInt ≤ (V19 84 gf).toInt ∨ (bdp V19 b (V19 84 gf).toInt.toNat).1 = true := by rw [(ajV19 84 gf rfl), me44.1.bd, me44.1 42 b (by decide) (by decide)]; exact ft
      have mo57 : MO V19 Z b gf True False True := MO.ch mo me44 (ajV19 67 gf rfl) (ajV19 80 gf rfl) (fun _ => Or.inl (by omega)) (fun x h => FK.k4 (by first | omega | ((try (have i_t18 := Imp.go t18 (by omega))); (try (have i_t17 := Imp.go t17 (by omega))); (try (have i_t17 := Imp.go t17 (by omega))); (try (have i_t18 := Imp.go t18 (by omega))); omega)) (by first | omega | ((try (have i_t18 := Imp.go t18 (by omega))); (try (have i_t17 := Imp.go t17 (by omega))); (try (have i_t17 := Imp.go t17 (by omega))); (try (have i_t18 := Imp.go t18 (by omega))); omega)) (by first | omega | ((try (have i_t18 := Imp.go t18 (by omega))); (try (have i_t17 := Imp.go t17 (by omega))); (try (have i_t17 := Imp.go t17 (by omega))); (try (have i_t18 := Imp.go t18 (by omega))); omega)) af58 (by first | omega | ((try (have i_t18 := Imp.go t18 (by omega))); (try (have i_t17 := Imp.go t17 (by omega))); (try (have i_t17 := Imp.go t17 (by omega))); (try (have i_t18 := Imp.go t18 (by omega))); omega)) (fun _ z => z.elim))
      refine gA_void (gA_runV (As := [.ref (Z.fa gf)]) (rest := []) (ci := 5) (q0 := 5) hx hb hml hown hg hP hD hK hS hA hnw hgk (x_endWork2 l D ks H.size ad kk V19 L Z (b) (gf) hMV19 (show b < 2 from by first | omega | ((try (have i_t18 := Imp.go t18 (by omega))); (try (have i_t17 := Imp.go t17 (by omega))); (try (have i_t17 := Imp.go t17 (by omega))); (try (have i_t18 := Imp.go t18 (by omega))); omega)) (show gf < Z.nf from by first | omega | ((try (have i_t18 := Imp.go t18 (by omega))); (try (have i_t17 := Imp.go t17 (by omega))); (try (have i_t17 := Imp.go t17 (by omega))); (try (have i_t18 := Imp.go t18 (by omega))); omega)) mo57 (show (gf : Int) + 1 = (V19 5 6).toInt from by first | omega | ((try (have i_t18 := Imp.go t18 (by omega))); (try (have i_t17 := Imp.go t17 (by omega))); (try (have i_t17 := Imp.go t17 (by omega))); (try (have i_t18 := Imp.go t18 (by omega))); omega)) (show (V19 67 gf).toInt = 4 from by first | omega | ((try (have i_t18 := Imp.go t18 (by omega))); (try (have i_t17 := Imp.go t17 (by omega))); (try (have i_t17 := Imp.go t17 (by omega))); (try (have i_t18 := Imp.go t18 (by omega))); omega))) w1458 w1460 w70 w171 w1461 rfl xgMachine hdV_yX5_endWork ⟨Nat.le_of_ble_eq_true rfl, Nat.le_of_ble_eq_true rfl⟩ rfl hl.1 rfl (Nat.le_of_ble_eq_true rfl) dX5_worksAlone_41 ⟨z0, z0⟩) hP hD hK hS hA (fun u60 H locs w61 hP hD hK hS => ?_)
      obtain ⟨V63, L64⟩ := u60
      obtain ⟨hMV63, ajV63, axL64, t62⟩ := w61
      have axL64 : L = L64 := Eq.symm axL64
      subst axL64
      have hP : va_P D vwCl (xw ad kk V63 L Z) H := hP
      have hD : va_D A (xw ad kk V63 L Z) := hD
      have hMV63 : rgd bX V63 := hMV63
      have ajV63 : agr [(5, 6), (5, 7)] [] V19 V63 := ajV63
      have agV63 : agr [(5, 6), (5, 7), (5, 9), (5, 10), (5, 13), (5, 14)] [39, 67, 68, 69, 70, 71, 72, 73, 74, 75, 76, 77, 78, 79, 80, 81, 82, 83, 84, 85] V V63 := agV19.tr ajV63 (by decide) (by decide)
      have t62 : MJ V63 Z b := t62
      refine lv_iconst (v := 0) hx hb dX5_worksAlone_44 (by decide) ?_
      have r65 : 0 ≤ ((V63 5 6)).toInt ∧ ((V63 5 6)).toInt ≤ 400 := hMV63 5 6
      have pq66 : (V63 67 gf).toInt = ((V 67 gf)).toInt := congrArg Int32.toInt ((ajV63 67 gf rfl).trans (ajV19 67 gf rfl))
      have pq67 : (V63 68 gf).toInt = ((V 68 gf)).toInt := congrArg Int32.toInt ((ajV63 68 gf rfl).trans (ajV19 68 gf rfl))
      refine W.know (fun kr1 kr2 => ?_)
      refine W.widen (k := zcc Z) (n := zss Z) (Nat.sub_le _ _) (Nat.sub_le _ _) ?_
      exact W.zret (v := 0) hx hb hr rfl (fun t ht hW => ⟨⟨0, (V63, L, Z), rfl, ⟨hMV63, agV63, rfl, zoZ, (by decide), (Imp.mk (fun hp => absurd hp (by decide))), (Imp.mk (fun _ => t62)), (Imp.mk (fun hp => absurd hp (by decide))), (Imp.mk (fun hp => absurd hp (by decide)))⟩, ⟨by rw [ht]; exact hP, va_K.moved hW.alike hK, hD⟩, by rw [ht]; exact kr1, by rw [ht]; exact kr2⟩, hS.F ht⟩) hS.2.2 dX5_worksAlone_45
  have gq13 : p1.toInt ≠ 1 := b_neq rfl (by decide) q13
  by_cases q68 : p1 = 2
  · refine g_top (v := 2) q68 ?_
    have fq68 : p1.toInt = 2 := b_eq rfl (by decide) q68
    refine lv_tableIn (x := 2) (off := 47) (tgt := 48) hx hb dX5_worksAlone_1 (by decide) (by decide) (by decide) (by decide) ?_
    refine lv_aload_n hx hb dX5_worksAlone_48 rfl (lv_at hl 0 rfl) ?_
    refine lv_aload_n hx hb dX5_worksAlone_49 rfl (lv_at hl 1 rfl) ?_
    refine va_getN (D := D) (ci := 4) (v := .int (V 74 gf)) (fs := (xfFrame V gf)) (C := RX4) (T := TX4) (N := 19) hx hb hg inX4 hown hK hP (336 + gf) (xgFrame hgf) rfl 7 (by decide) (hnw.use 1196 n1196 rfl) (fun _ h9 => h9) rfl dX5_worksAlone_50 ?_
    refine gA_void (gA_runV (As := [.int (V 74 gf)]) (rest := []) (ci := 5) (q0 := 5) hx hb hml hown hg hP hD hK hS hA hnw hgk (x_mput l D ks H.size ad kk V L Z (V 74 gf) hMV ) w1466 w1468 w72 w171 w1469 rfl xgMachine hdV_yX5_put ⟨Nat.le_of_ble_eq_true rfl, Nat.le_of_ble_eq_true rfl⟩ rfl hl.1 rfl (Nat.le_of_ble_eq_true rfl) dX5_worksAlone_53 ⟨z0, z0⟩) hP hD hK hS hA (fun u70 H locs w71 hP hD hK hS => ?_)
    obtain ⟨V72, L73⟩ := u70
    obtain ⟨hMV72, ajV72, axL73⟩ := w71
    have axL73 : L = L73 := Eq.symm axL73
    subst axL73
    have hP : va_P D vwCl (xw ad kk V72 L Z) H := hP
    have hD : va_D A (xw ad kk V72 L Z) := hD
    have hMV72 : rgd bX V72 := hMV72
    have ajV72 : agr [(5, 7)] [39] V V72 := ajV72
    have agV72 : agr [(5, 6), (5, 7), (5, 9), (5, 10), (5, 13), (5, 14)] [39, 67, 68, 69, 70, 71, 72, 73, 74, 75, 76, 77, 78, 79, 80, 81, 82, 83, 84, 85] V V72 := agV.tr ajV72 (by decide) (by decide)
    refine lv_iconst (v := 1) hx hb dX5_worksAlone_56 (by decide) ?_
    have pq74 : (V72 5 6).toInt = ((V 5 6)).toInt := congrArg Int32.toInt (ajV72 5 6 rfl)
    have pq75 : (V72 67 gf).toInt = ((V 67 gf)).toInt := congrArg Int32.toInt (ajV72 67 gf rfl)
    have pq76 : (V72 68 gf).toInt = ((V 68 gf)).toInt := congrArg Int32.toInt (ajV72 68 gf rfl)
    have me77 : ME V V72 gf := (ME.tr ME.rf (ME.ag ajV72 (by decide)))
    have pq78 : (V72 70 gf).toInt = ((V 70 gf)).toInt := congrArg Int32.toInt (ajV72 70 gf rfl)
    have pq79 : (V72 71 gf).toInt = ((V 71 gf)).toInt := congrArg Int32.toInt (ajV72 71 gf rfl)
    have pq80 : (V72 75 gf).toInt = ((V 75 gf)).toInt := congrArg Int32.toInt (ajV72 75 gf rfl)
    have pq81 : (V72 76 gf).toInt = ((V 76 gf)).toInt := congrArg Int32.toInt (ajV72 76 gf rfl)
    have pq82 : (V72 80 gf).toInt = ((V 80 gf)).toInt := congrArg Int32.toInt (ajV72 80 gf rfl)
    have pq83 : (V72 84 gf).toInt = ((V 84 gf)).toInt := congrArg Int32.toInt (ajV72 84 gf rfl)
    have pq84 : (V72 5 8).toInt = ((V 5 8)).toInt := congrArg Int32.toInt (ajV72 5 8 rfl)
    have pq85 : (V72 5 9).toInt = ((V 5 9)).toInt := congrArg Int32.toInt (ajV72 5 9 rfl)
    have pq86 : (V72 3 13).toInt = ((V 3 13)).toInt := congrArg Int32.toInt (ajV72 3 13 rfl)
    have pq87 : (V72 43 (5 * b + 2)).toInt = ((V 43 (5 * b + 2))).toInt := congrArg Int32.toInt (ajV72 43 (5 * b + 2) rfl)
    have pq88 : (V72 42 b).toInt = ((V 42 b)).toInt := congrArg Int32.toInt (ajV72 42 b rfl)
    have pq89 : (V72 41 b).toInt = ((V 41 b)).toInt := congrArg Int32.toInt (ajV72 41 b rfl)
    have af91 : (V72 42 b).toInt ≤ (V72 84 gf).toInt ∨ (bdp V72 b (V72 84 gf).toInt.toNat).1 = true := by rw [(ajV72 84 gf rfl), me77.1.bd, me77.1 42 b (by decide) (by decide)]; exact ft
    have mo90 : MO V72 Z b gf True True True := MO.ch mo me77 (ajV72 67 gf rfl) (ajV72 80 gf rfl) (fun _ => Or.inl (by omega)) (fun x h => FK.k4 (by omega) (by omega) (by omega) af91 (by omega) (fun hph => absurd hph (by omega)))
    refine W.know (fun kr1 kr2 => ?_)
    refine W.widen (k := zcc Z) (n := zss Z) (Nat.sub_le _ _) (Nat.sub_le _ _) ?_
    exact W.zret (v := 1) hx hb hr rfl (fun t ht hW => ⟨⟨1, (V72, L, Z), rfl, ⟨hMV72, agV72, rfl, zoZ, (by decide), (Imp.mk (fun _ => mo90)), (Imp.mk (fun hp => absurd hp (by decide))), (Imp.mk (fun _ => (show (V72 5 6).toInt = (V 5 6).toInt ∧ (V72 67 gf).toInt = 4 ∧ (V72 68 gf).toInt = 0 from by omega))), (Imp.mk (fun _ => rfl))⟩, ⟨by rw [ht]; exact hP, va_K.moved hW.alike hK, hD⟩, by rw [ht]; exact kr1, by rw [ht]; exact kr2⟩, hS.F ht⟩) hS.2.2 dX5_worksAlone_57
  have gq68 : p1.toInt ≠ 2 := b_neq rfl (by decide) q68
  by_cases q92 : p1 = 3
  · refine g_top (v := 3) q92 ?_
    have fq92 : p1.toInt = 3 := b_eq rfl (by decide) q92
    refine lv_tableIn (x := 3) (off := 57) (tgt := 58) hx hb dX5_worksAlone_1 (by decide) (by decide) (by decide) (by decide) ?_
    refine lv_aload_n hx hb dX5_worksAlone_58 rfl (lv_at hl 0 rfl) ?_
    refine lv_aload_n hx hb dX5_worksAlone_59 rfl (lv_at hl 0 rfl) ?_
    refine gA_int (gA_runV (As := []) (rest := [.ref (ad 5)]) (ci := 5) (q0 := 5) hx hb hml hown hg hP hD hK hS hA hnw hgk (x_mpull l D ks H.size ad kk V L Z  hMV ) w1482 w1484 w76 w171 w1485 rfl xgMachine hdV_yX5_pull ⟨Nat.le_of_ble_eq_true rfl, Nat.le_of_ble_eq_true rfl⟩ rfl hl.1 rfl (Nat.le_of_ble_eq_true rfl) dX5_worksAlone_60 ⟨z0, z0⟩) hP hD hK hS hA (fun z93 u94 H locs w95 hP hD hK hS => ?_)
    obtain ⟨V96, L97⟩ := u94
    obtain ⟨hMV96, ajV96, axL97⟩ := w95
    have axL97 : L = L97 := Eq.symm axL97
    subst axL97
    have hP : va_P D vwCl (xw ad kk V96 L Z) H := hP
    have hD : va_D A (xw ad kk V96 L Z) := hD
    have hMV96 : rgd bX V96 := hMV96
    have ajV96 : agr [(5, 7)] [] V V96 := ajV96
    have agV96 : agr [(5, 6), (5, 7), (5, 9), (5, 10), (5, 13), (5, 14)] [39, 67, 68, 69, 70, 71, 72, 73, 74, 75, 76, 77, 78, 79, 80, 81, 82, 83, 84, 85] V V96 := agV.tr ajV96 (by decide) (by decide)
    refine lv_ineg hx hb dX5_worksAlone_63 ?_
    refine lv_topi (fun z98 ez98 => ?_)
    refine gA_void (gA_runV (As := [.int z98]) (rest := []) (ci := 5) (q0 := 5) hx hb hml hown hg hP hD hK hS hA hnw hgk (x_mput l D ks H.size ad kk V96 L Z z98 hMV96 ) w1466 w1468 w72 w171 w1469 rfl xgMachine hdV_yX5_put ⟨Nat.le_of_ble_eq_true rfl, Nat.le_of_ble_eq_true rfl⟩ rfl hl.1 rfl (Nat.le_of_ble_eq_true rfl) dX5_worksAlone_64 ⟨z0, z0⟩) hP hD hK hS hA (fun u100 H locs w101 hP hD hK hS => ?_)
    obtain ⟨V102, L103⟩ := u100
    obtain ⟨hMV102, ajV102, axL103⟩ := w101
    have axL103 : L = L103 := Eq.symm axL103
    subst axL103
    have hP : va_P D vwCl (xw ad kk V102 L Z) H := hP
    have hD : va_D A (xw ad kk V102 L Z) := hD
    have hMV102 : rgd bX V102 := hMV102
    have ajV102 : agr [(5, 7)] [39] V96 V102 := ajV102
    have agV102 : agr [(5, 6), (5, 7), (5, 9), (5, 10), (5, 13), (5, 14)] [39, 67, 68, 69, 70, 71, 72, 73, 74, 75, 76, 77, 78, 79, 80, 81, 82, 83, 84, 85] V V102 := agV96.tr ajV102 (by decide) (by decide)
    refine lv_iconst (v := 1) hx hb dX5_worksAlone_67 (by decide) ?_
    have pq104 : (V102 5 6).toInt = ((V 5 6)).toInt := congrArg Int32.toInt ((ajV102 5 6 rfl).trans (ajV96 5 6 rfl))
    have pq105 : (V102 67 gf).toInt = ((V 67 gf)).toInt := congrArg Int32.toInt ((ajV102 67 gf rfl).trans (ajV96 67 gf rfl))
    have pq106 : (V102 68 gf).toInt = ((V 68 gf)).toInt := congrArg Int32.toInt ((ajV102 68 gf rfl).trans (ajV96 68 gf rfl))
    have me107 : ME V V102 gf := (ME.tr (ME.tr ME.rf (ME.ag ajV96 (by decide))) (ME.ag ajV102 (by decide)))
    have pq108 : (V102 70 gf).toInt = ((V 70 gf)).toInt := congrArg Int32.toInt ((ajV102 70 gf rfl).trans (ajV96 70 gf rfl))
    have pq109 : (V102 71 gf).toInt = ((V 71 gf)).toInt := congrArg Int32.toInt ((ajV102 71 gf rfl).trans (ajV96 71 gf rfl))
    have pq110 : (V102 75 gf).toInt = ((V 75 gf)).toInt := congrArg Int32.toInt ((ajV102 75 gf rfl).trans (ajV96 75 gf rfl))
    have pq111 : (V102 76 gf).toInt = ((V 76 gf)).toInt := congrArg Int32.toInt ((ajV102 76 gf rfl).trans (ajV96 76 gf rfl))
    have pq112 : (V102 80 gf).toInt = ((V 80 gf)).toInt := congrArg Int32.toInt ((ajV102 80 gf rfl).trans (ajV96 80 gf rfl))
    have pq113 : (V102 84 gf).toInt = ((V 84 gf)).toInt := congrArg Int32.toInt ((ajV102 84 gf rfl).trans (ajV96 84 gf rfl))
    have pq114 : (V102 5 8).toInt = ((V 5 8)).toInt := congrArg Int32.toInt ((ajV102 5 8 rfl).trans (ajV96 5 8 rfl))
    have pq115 : (V102 5 9).toInt = ((V 5 9)).toInt := congrArg Int32.toInt ((ajV102 5 9 rfl).trans (ajV96 5 9 rfl))
    have pq116 : (V102 3 13).toInt = ((V 3 13)).toInt := congrArg Int32.toInt ((ajV102 3 13 rfl).trans (ajV96 3 13 rfl))
    have pq117 : (V102 43 (5 * b + 2)).toInt = ((V 43 (5 * b + 2))).toInt := congrArg Int32.toInt ((ajV102 43 (5 * b + 2) rfl).trans (ajV96 43 (5 * b + 2) rfl))
    have pq118 : (V102 42 b).toInt = ((V 42 b)).toInt := congrArg Int32.toInt ((ajV102 42 b rfl).trans (ajV96 42 b rfl))
    have pq119 : (V102 41 b).toInt = ((V 41 b)).toInt := congrArg Int32.toInt ((ajV102 41 b rfl).trans (ajV96 41 b rfl))
    have af121 : (V102 42 b).toInt ≤ (V102 84 gf).toInt ∨ (bdp V102 b (V102 84 gf).toInt.toNat).1 = true := by rw [((ajV102 84 gf rfl).trans (ajV96 84 gf rfl)), me107.1.bd, me107.1 42 b (by decide) (by decide)]; exact ft
    have mo120 : MO V102 Z b gf True True True := MO.ch mo me107 ((ajV102 67 gf rfl).trans (ajV96 67 gf rfl)) ((ajV102 80 gf rfl).trans (ajV96 80 gf rfl)) (fun _ => Or.inl (by omega)) (fun x h => FK.k4 (by omega) (by omega) (by omega) af121 (by omega) (fun hph => absurd hph (by omega)))
    refine W.know (fun kr1 kr2 => ?_)
    refine W.widen (k := zcc Z) (n := zss Z) (Nat.sub_le _ _) (Nat.sub_le _ _) ?_
    exact W.zret (v := 1) hx hb hr rfl (fun t ht hW => ⟨⟨1, (V102, L, Z), rfl, ⟨hMV102, agV102, rfl, zoZ, (by decide), (Imp.mk (fun _ => mo120)), (Imp.mk (fun hp => absurd hp (by decide))), (Imp.mk (fun _ => (show (V102 5 6).toInt = (V 5 6).toInt ∧ (V102 67 gf).toInt = 4 ∧ (V102 68 gf).toInt = 0 from by omega))), (Imp.mk (fun _ => rfl))⟩, ⟨by rw [ht]; exact hP, va_K.moved hW.alike hK, hD⟩, by rw [ht]; exact kr1, by rw [ht]; exact kr2⟩, hS.F ht⟩) hS.2.2 dX5_worksAlone_68
  have gq92 : p1.toInt ≠ 3 := b_neq rfl (by decide) q92
  by_cases q122 : p1 = 4
  · refine g_top (v := 4) q122 ?_
    have fq122 : p1.toInt = 4 := b_eq rfl (by decide) q122
    refine lv_tableIn (x := 4) (off := 68) (tgt := 69) hx hb dX5_worksAlone_1 (by decide) (by decide) (by decide) (by decide) ?_
    refine lv_aload_n hx hb dX5_worksAlone_69 rfl (lv_at hl 1 rfl) ?_
    refine lv_iconst (v := 1) hx hb dX5_worksAlone_70 (by decide) ?_
    refine va_putN (D := D) (ci := 4) (v := .int 1) (ty := tyX4 1) (fs := (xfFrame V gf)) (C := RX4) (T := TX4) (N := 19) hx hb hg inX4 tyX4 tyX4_ok nmX4 hown hK hP hD hS (336 + gf) (xgFrame hgf) rfl 1 (by decide) (hnw.use 1190 n1190 rfl) (fun _ h9 => h9) rfl (tyX4_ok 1 (by decide)) rfl rfl (Nat.le_of_ble_eq_true rfl) dX5_worksAlone_71 (fun H locs hP hD hS => ?_)
    obtain ⟨V123, hV123⟩ : ∃ z, z = up2 V 68 gf 1 := ⟨_, rfl⟩
    have ew124 : (xw ad kk V L Z).set (336 + gf) ((Z.fa gf), .inr (4, (xfFrame V gf).set 1 (.int 1))) = xw ad kk V123 L Z := by rw [hV123]; exact xpFrame_phase hgf
    have hP : va_P D vwCl (xw ad kk V123 L Z) H := by rw [← ew124]; exact hP
    have hD : va_D A (xw ad kk V123 L Z) := by rw [← ew124]; exact hD
    have hMV123 : rgd bX V123 := hMV.put hV123 (i_full _)
    have agV123 : agr [(5, 6), (5, 7), (5, 9), (5, 10), (5, 13), (5, 14)] [39, 67, 68, 69, 70, 71, 72, 73, 74, 75, 76, 77, 78, 79, 80, 81, 82, 83, 84, 85] V V123 := agV.up hV123 rfl
    refine lv_aload_n hx hb dX5_worksAlone_74 rfl (lv_at hl 0 rfl) ?_
    refine lv_aload_n hx hb dX5_worksAlone_75 rfl (lv_at hl 1 rfl) ?_
    refine lv_aload_n hx hb dX5_worksAlone_76 rfl (lv_at hl 1 rfl) ?_
    refine va_getN (D := D) (ci := 4) (v := .int (V123 75 gf)) (fs := (xfFrame V123 gf)) (C := RX4) (T := TX4) (N := 19) hx hb hg inX4 hown hK hP (336 + gf) (xgFrame hgf) rfl 8 (by decide) (hnw.use 1197 n1197 rfl) (fun _ h9 => h9) rfl dX5_worksAlone_77 ?_
    refine g_top (v := (V 75 gf)) (up2_o hV123 (by decide)) ?_
    refine lv_aload_n hx hb dX5_worksAlone_80 rfl (lv_at hl 0 rfl) ?_
    refine gA_int (gA_runV (As := []) (rest := [.int (V 75 gf), .ref (Z.fa gf), .ref (ad 5)]) (ci := 5) (q0 := 5) hx hb hml hown hg hP hD hK hS hA hnw hgk (x_mpull l D ks H.size ad kk V123 L Z  hMV123 ) w1482 w1484 w76 w171 w1485 rfl xgMachine hdV_yX5_pull ⟨Nat.le_of_ble_eq_true rfl, Nat.le_of_ble_eq_true rfl⟩ rfl hl.1 rfl (Nat.le_of_ble_eq_true rfl) dX5_worksAlone_81 ⟨z0, z0⟩) hP hD hK hS hA (fun z125 u126 H locs w127 hP hD hK hS => ?_)
    obtain ⟨V128, L129⟩ := u126
    obtain ⟨hMV128, ajV128, axL129⟩ := w127
    have axL129 : L = L129 := Eq.symm axL129
    subst axL129
    have hP : va_P D vwCl (xw ad kk V128 L Z) H := hP
    have hD : va_D A (xw ad kk V128 L Z) := hD
    have hMV128 : rgd bX V128 := hMV128
    have ajV128 : agr [(5, 7)] [] V123 V128 := ajV128
    have agV128 : agr [(5, 6), (5, 7), (5, 9), (5, 10), (5, 13), (5, 14)] [39, 67, 68, 69, 70, 71, 72, 73, 74, 75, 76, 77, 78, 79, 80, 81, 82, 83, 84, 85] V V128 := agV123.tr ajV128 (by decide) (by decide)
    have pq130 : (V128 71 gf).toInt = ((V 71 gf)).toInt := congrArg Int32.toInt ((ajV128 71 gf rfl).trans (up2_o hV123 (by decide)))
    have pq131 : (V128 43 (5 * b + 2)).toInt = ((V 43 (5 * b + 2))).toInt := congrArg Int32.toInt ((ajV128 43 (5 * b + 2) rfl).trans (up2_o hV123 (by decide)))
    have pq132 : (V128 3 13).toInt = ((V 3 13)).toInt := congrArg Int32.toInt ((ajV128 3 13 rfl).trans (up2_o hV123 (by decide)))
    have pq133 : (V128 70 gf).toInt = ((V 70 gf)).toInt := congrArg Int32.toInt ((ajV128 70 gf rfl).trans (up2_o hV123 (by decide)))
    have me134 : ME V V128 gf := (ME.tr (ME.up ME.rf hV123 (Or.inl ⟨by decide, by decide, Nat.le_refl _⟩)) (ME.ag ajV128 (by decide)))
    have pq135 : (V128 67 gf).toInt = ((V 67 gf)).toInt := congrArg Int32.toInt ((ajV128 67 gf rfl).trans (up2_o hV123 (by decide)))
    have pq136 : (V128 68 gf).toInt = 1 := (congrArg Int32.toInt ((ajV128 68 gf rfl).trans (up2_s hV123))).trans (by decide)
    have pq137 : (V128 75 gf).toInt = ((V 75 gf)).toInt := congrArg Int32.toInt ((ajV128 75 gf rfl).trans (up2_o hV123 (by decide)))
    have pq138 : (V128 76 gf).toInt = ((V 76 gf)).toInt := congrArg Int32.toInt ((ajV128 76 gf rfl).trans (up2_o hV123 (by decide)))
    have pq139 : (V128 80 gf).toInt = ((V 80 gf)).toInt := congrArg Int32.toInt ((ajV128 80 gf rfl).trans (up2_o hV123 (by decide)))
    have pq140 : (V128 84 gf).toInt = ((V 84 gf)).toInt := congrArg Int32.toInt ((ajV128 84 gf rfl).trans (up2_o hV123 (by decide)))
    have pq141 : (V128 5 6).toInt = ((V 5 6)).toInt := congrArg Int32.toInt ((ajV128 5 6 rfl).trans (up2_o hV123 (by decide)))
    have pq142 : (V128 5 8).toInt = ((V 5 8)).toInt := congrArg Int32.toInt ((ajV128 5 8 rfl).trans (up2_o hV123 (by decide)))
    have pq143 : (V128 5 9).toInt = ((V 5 9)).toInt := congrArg Int32.toInt ((ajV128 5 9 rfl).trans (up2_o hV123 (by decide)))
    have pq144 : (V128 42 b).toInt = ((V 42 b)).toInt := congrArg Int32.toInt ((ajV128 42 b rfl).trans (up2_o hV123 (by decide)))
    have pq145 : (V128 41 b).toInt = ((V 41 b)).toInt := congrArg Int32.toInt ((ajV128 41 b rfl).trans (up2_o hV123 (by decide)))
    have ep148 : V128 84 gf = (V 84 gf) := ((ajV128 84 gf rfl).trans (up2_o hV123 (by decide)))
    have af147 : (V128 42 b).toInt ≤ (V128 84 gf).toInt ∨ (bdp V128 b (V128 84 gf).toInt.toNat).1 = true := by rw [ep148, me134.1.bd, me134.1 42 b (by decide) (by decide)]; exact ft
    have mo146 : MO V128 Z b gf True True True := MO.ch mo me134 ((ajV128 67 gf rfl).trans (up2_o hV123 (by decide))) ((ajV128 80 gf rfl).trans (up2_o hV123 (by decide))) (fun _ => Or.inl (by omega)) (fun x h => FK.k4 (by omega) (by omega) (by omega) af147 (by omega) (fun hph => absurd hph (by omega)))
    have mt149 : MT V128 Z b := MO.mt mo146 (by omega) (by omega)
    refine W.know (fun k151 k152 => ?_)
    obtain ⟨Hk150, hHk150⟩ : ∃ z, z = H := ⟨_, rfl⟩
    have k151 : Hk150.size ≤ s.heap.size + (zcc Z - zcc Z) := by rw [hHk150]; exact k151
    have k152 : tot Hk150 ≤ tot s.heap + (zss Z - zss Z) := by rw [hHk150]; exact k152
    refine gZ_void (gA_runV (As := [.ref (Z.fa gf), .int (V 75 gf), .int z125]) (rest := []) (ci := 5) (q0 := 5) hx hb hml hown hg hP hD hK hS hA hnw hgk (x_pushInside l D ks H.size ad kk V128 L Z (V 75 gf) z125 (b) (gf) hMV128 (by omega) (show b < 2 from by omega) (show gf < Z.nf from by omega) mt149 (show 0 ≤ (V128 71 gf).toInt ∧ (V128 71 gf).toInt < (V128 43 (5 * b + 2)).toInt from by omega) (show 0 ≤ (V128 70 gf).toInt ∧ (V128 70 gf).toInt < (V128 3 13).toInt from by omega)) w1388 w1390 w60 w171 w1391 rfl xgMachine hdV_yX5_pushInside ⟨Nat.le_of_ble_eq_true rfl, Nat.le_of_ble_eq_true rfl⟩ rfl hl.1 rfl (Nat.le_of_ble_eq_true rfl) dX5_worksAlone_84 ⟨z1 zoZ.1, z1 zoZ.2.1⟩) hD hS hA (fun u154 H locs w155 hP hD hK hS y156 y157 => ?_)
    obtain ⟨V158, L159, Z160⟩ := u154
    obtain ⟨hMV158, ajV158, axL159, zlZ160, t162⟩ := w155
    have axL159 : L = L159 := Eq.symm axL159
    subst axL159
    have hP : va_P D vwCl (xw ad kk V158 L Z160) H := hP
    have hD : va_D A (xw ad kk V158 L Z160) := hD
    have hK : va_K D vwCl (xty kk Z160) s := hK
    have hMV158 : rgd bX V158 := hMV158
    have ajV158 : agr [(5, 6), (5, 9)] [67, 68, 69, 70, 71, 72, 73, 74, 75, 76, 77, 78, 79, 80, 81, 82, 83, 84, 85] V128 V158 := ajV158
    have agV158 : agr [(5, 6), (5, 7), (5, 9), (5, 10), (5, 13), (5, 14)] [39, 67, 68, 69, 70, 71, 72, 73, 74, 75, 76, 77, 78, 79, 80, 81, 82, 83, 84, 85] V V158 := agV128.tr ajV158 (by decide) (by decide)
    have zlZ160 : ZL Z Z160 := zlZ160
    have zoZ160 : ZL Z Z160 := ZL.tr zoZ zlZ160
    have ziZ160 := zlZ160.1
    have zjZ160 := zlZ160.2.1
    have zkZ160 := zlZ160.2.2.1
    have zmZ160 := zoZ160.1
    have znZ160 := zoZ160.2.1
    have zpZ_Z160 := zoZ.1
    have zqZ_Z160 := zoZ.2.1
    have y156 : H.size ≤ Hk150.size + (zcc Z - zcc Z160) := by rw [hHk150]; exact y156
    have y157 : tot H ≤ tot Hk150 + (zss Z - zss Z160) := by rw [hHk150]; exact y157
    refine W.tight (k := zcc Z - zcc Z160) (n := zss Z - zss Z160) (by first | exact tg9 y156 k151 zlZ160.1 zoZ.1 | omega) (by first | exact tg9 y157 k152 zlZ160.2.1 zoZ.2.1 | omega) ?_
    have hl : lv_has ls 3 [(0, .ref (ad 5)), (1, .ref (Z160.fa gf)), (2, .int p1)] := by rw [zlZ160.2.2.2.2 gf hgf]; exact hl
    have t162 : MJ V158 Z160 b := t162
    refine lv_iconst (v := 0) hx hb dX5_worksAlone_87 (by decide) ?_
    have r163 : 0 ≤ ((V158 5 6)).toInt ∧ ((V158 5 6)).toInt ≤ 400 := hMV158 5 6
    refine W.know (fun kr1 kr2 => ?_)
    refine W.widen (k := zcc Z) (n := zss Z) (Nat.sub_le _ _) (Nat.sub_le _ _) ?_
    exact W.zret (v := 0) hx hb hr rfl (fun t ht hW => ⟨⟨0, (V158, L, Z160), rfl, ⟨hMV158, agV158, rfl, zoZ160, (by decide), (Imp.mk (fun hp => absurd hp (by decide))), (Imp.mk (fun _ => t162)), (Imp.mk (fun hp => absurd hp (by decide))), (Imp.mk (fun hp => absurd hp (by decide)))⟩, ⟨by rw [ht]; exact hP, va_K.moved hW.alike hK, hD⟩, by rw [ht]; exact kr1, by rw [ht]; exact kr2⟩, hS.F ht⟩) hS.2.2 dX5_worksAlone_88
  have gq122 : p1.toInt ≠ 4 := b_neq rfl (by decide) q122
  refine lv_tableOut (x := p1) (tgt := 89) hx hb dX5_worksAlone_1 (by omega) (by decide) ?_
  refine lv_aload_n hx hb dX5_worksAlone_89 rfl (lv_at hl 0 rfl) ?_
  refine lv_aload_n hx hb dX5_worksAlone_90 rfl (lv_at hl 0 rfl) ?_
  refine gA_int (gA_runV (As := []) (rest := [.ref (ad 5)]) (ci := 5) (q0 := 5) hx hb hml hown hg hP hD hK hS hA hnw hgk (x_mpull l D ks H.size ad kk V L Z  hMV ) w1482 w1484 w76 w171 w1485 rfl xgMachine hdV_yX5_pull ⟨Nat.le_of_ble_eq_true rfl, Nat.le_of_ble_eq_true rfl⟩ rfl hl.1 rfl (Nat.le_of_ble_eq_true rfl) dX5_worksAlone_91 ⟨z0, z0⟩) hP hD hK hS hA (fun z164 u165 H locs w166 hP hD hK hS => ?_)
  obtain ⟨V167, L168⟩ := u165
  obtain ⟨hMV167, ajV167, axL168⟩ := w166
  have axL168 : L = L168 := Eq.symm axL168
  subst axL168
  have hP : va_P D vwCl (xw ad kk V167 L Z) H := hP
  have hD : va_D A (xw ad kk V167 L Z) := hD
  have hMV167 : rgd bX V167 := hMV167
  have ajV167 : agr [(5, 7)] [] V V167 := ajV167
  have agV167 : agr [(5, 6), (5, 7), (5, 9), (5, 10), (5, 13), (5, 14)] [39, 67, 68, 69, 70, 71, 72, 73, 74, 75, 76, 77, 78, 79, 80, 81, 82, 83, 84, 85] V V167 := agV.tr ajV167 (by decide) (by decide)
  refine gA_void (gA_runV (As := [.int z164]) (rest := []) (ci := 5) (q0 := 5) hx hb hml hown hg hP hD hK hS hA hnw hgk (x_answerWith2 l D ks H.size ad kk V167 L Z z164 hMV167 ) w1304 w1306 w49 w171 w1307 rfl xgMachine hdV_yX5_answerWith ⟨Nat.le_of_ble_eq_true rfl, Nat.le_of_ble_eq_true rfl⟩ rfl hl.1 rfl (Nat.le_of_ble_eq_true rfl) dX5_worksAlone_94 ⟨z0, z0⟩) hP hD hK hS hA (fun u170 H locs w171 hP hD hK hS => ?_)
  obtain ⟨V174, L175⟩ := u170
  obtain ⟨hMV174, ajV174, axL175, t172, t173⟩ := w171
  have axL175 : L = L175 := Eq.symm axL175
  subst axL175
  have hP : va_P D vwCl (xw ad kk V174 L Z) H := hP
  have hD : va_D A (xw ad kk V174 L Z) := hD
  have hMV174 : rgd bX V174 := hMV174
  have ajV174 : agr [(5, 9), (5, 10)] [] V167 V174 := ajV174
  have agV174 : agr [(5, 6), (5, 7), (5, 9), (5, 10), (5, 13), (5, 14)] [39, 67, 68, 69, 70, 71, 72, 73, 74, 75, 76, 77, 78, 79, 80, 81, 82, 83, 84, 85] V V174 := agV167.tr ajV174 (by decide) (by decide)
  have t172 : (V174 5 9).toInt = 1 := t172
  have t173 : (V174 5 10).toInt = z164.toInt := t173
  have r176 : 0 ≤ ((V174 5 9)).toInt ∧ ((V174 5 9)).toInt ≤ 3 := hMV174 5 9
  refine lv_aload_n hx hb dX5_worksAlone_97 rfl (lv_at hl 0 rfl) ?_
  refine lv_aload_n hx hb dX5_worksAlone_98 rfl (lv_at hl 1 rfl) ?_
  have pq177 : (V174 5 6).toInt = ((V 5 6)).toInt := congrArg Int32.toInt ((ajV174 5 6 rfl).trans (ajV167 5 6 rfl))
  have pq178 : (V174 67 gf).toInt = ((V 67 gf)).toInt := congrArg Int32.toInt ((ajV174 67 gf rfl).trans (ajV167 67 gf rfl))
  have me179 : ME V V174 gf := (ME.tr (ME.tr ME.rf (ME.ag ajV167 (by decide))) (ME.ag ajV174 (by decide)))
  have pq180 : (V174 68 gf).toInt = ((V 68 gf)).toInt := congrArg Int32.toInt ((ajV174 68 gf rfl).trans (ajV167 68 gf rfl))
  have pq181 : (V174 70 gf).toInt = ((V 70 gf)).toInt := congrArg Int32.toInt ((ajV174 70 gf rfl).trans (ajV167 70 gf rfl))
  have pq182 : (V174 71 gf).toInt = ((V 71 gf)).toInt := congrArg Int32.toInt ((ajV174 71 gf rfl).trans (ajV167 71 gf rfl))
  have pq183 : (V174 75 gf).toInt = ((V 75 gf)).toInt := congrArg Int32.toInt ((ajV174 75 gf rfl).trans (ajV167 75 gf rfl))
  have pq184 : (V174 76 gf).toInt = ((V 76 gf)).toInt := congrArg Int32.toInt ((ajV174 76 gf rfl).trans (ajV167 76 gf rfl))
  have pq185 : (V174 80 gf).toInt = ((V 80 gf)).toInt := congrArg Int32.toInt ((ajV174 80 gf rfl).trans (ajV167 80 gf rfl))
  have pq186 : (V174 84 gf).toInt = ((V 84 gf)).toInt := congrArg Int32.toInt ((ajV174 84 gf rfl).trans (ajV167 84 gf rfl))
  have pq187 : (V174 5 8).toInt = ((V 5 8)).toInt := congrArg Int32.toInt ((ajV174 5 8 rfl).trans (ajV167 5 8 rfl))
  have pq188 : (V174 3 13).toInt = ((V 3 13)).toInt := congrArg Int32.toInt ((ajV174 3 13 rfl).trans (ajV167 3 13 rfl))
  have pq189 : (V174 43 (5 * b + 2)).toInt = ((V 43 (5 * b + 2))).toInt := congrArg Int32.toInt ((ajV174 43 (5 * b + 2) rfl).trans (ajV167 43 (5 * b + 2) rfl))
  have pq190 : (V174 42 b).toInt = ((V 42 b)).toInt := congrArg Int32.toInt ((ajV174 42 b rfl).trans (ajV167 42 b rfl))
  have pq191 : (V174 41 b).toInt = ((V 41 b)).toInt := congrArg Int32.toInt ((ajV174 41 b rfl).trans (ajV167 41 b rfl))
  have af193 : (V174 42 b).toInt ≤ (V174 84 gf).toInt ∨ (bdp V174 b (V174 84 gf).toInt.toNat).1 = true := by rw [((ajV174 84 gf rfl).trans (ajV167 84 gf rfl)), me179.1.bd, me179.1 42 b (by decide) (by decide)]; exact ft
  have mo192 : MO V174 Z b gf True False True := MO.ch mo me179 ((ajV174 67 gf rfl).trans (ajV167 67 gf rfl)) ((ajV174 80 gf rfl).trans (ajV167 80 gf rfl)) (fun _ => Or.inl (by omega)) (fun x h => FK.k4 (by omega) (by omega) (by omega) af193 (by omega) (fun _ z => z.elim))
  refine gA_void (gA_runV (As := [.ref (Z.fa gf)]) (rest := []) (ci := 5) (q0 := 5) hx hb hml hown hg hP hD hK hS hA hnw hgk (x_endWork2 l D ks H.size ad kk V174 L Z (b) (gf) hMV174 (show b < 2 from by omega) (show gf < Z.nf from by omega) mo192 (show (gf : Int) + 1 = (V174 5 6).toInt from by omega) (show (V174 67 gf).toInt = 4 from by omega)) w1458 w1460 w70 w171 w1461 rfl xgMachine hdV_yX5_endWork ⟨Nat.le_of_ble_eq_true rfl, Nat.le_of_ble_eq_true rfl⟩ rfl hl.1 rfl (Nat.le_of_ble_eq_true rfl) dX5_worksAlone_99 ⟨z0, z0⟩) hP hD hK hS hA (fun u195 H locs w196 hP hD hK hS => ?_)
  obtain ⟨V198, L199⟩ := u195
  obtain ⟨hMV198, ajV198, axL199, t197⟩ := w196
  have axL199 : L = L199 := Eq.symm axL199
  subst axL199
  have hP : va_P D vwCl (xw ad kk V198 L Z) H := hP
  have hD : va_D A (xw ad kk V198 L Z) := hD
  have hMV198 : rgd bX V198 := hMV198
  have ajV198 : agr [(5, 6), (5, 7)] [] V174 V198 := ajV198
  have agV198 : agr [(5, 6), (5, 7), (5, 9), (5, 10), (5, 13), (5, 14)] [39, 67, 68, 69, 70, 71, 72, 73, 74, 75, 76, 77, 78, 79, 80, 81, 82, 83, 84, 85] V V198 := agV174.tr ajV198 (by decide) (by decide)
  have t197 : MJ V198 Z b := t197
  refine lv_iconst (v := 0) hx hb dX5_worksAlone_102 (by decide) ?_
  have r200 : 0 ≤ ((V198 5 6)).toInt ∧ ((V198 5 6)).toInt ≤ 400 := hMV198 5 6
  have pq201 : (V198 67 gf).toInt = ((V 67 gf)).toInt := congrArg Int32.toInt ((ajV198 67 gf rfl).trans ((ajV174 67 gf rfl).trans (ajV167 67 gf rfl)))
  have pq202 : (V198 68 gf).toInt = ((V 68 gf)).toInt := congrArg Int32.toInt ((ajV198 68 gf rfl).trans ((ajV174 68 gf rfl).trans (ajV167 68 gf rfl)))
  refine W.know (fun kr1 kr2 => ?_)
  refine W.widen (k := zcc Z) (n := zss Z) (Nat.sub_le _ _) (Nat.sub_le _ _) ?_
  exact W.zret (v := 0) hx hb hr rfl (fun t ht hW => ⟨⟨0, (V198, L, Z), rfl, ⟨hMV198, agV198, rfl, zoZ, (by decide), (Imp.mk (fun hp => absurd hp (by decide))), (Imp.mk (fun _ => t197)), (Imp.mk (fun hp => absurd hp (by decide))), (Imp.mk (fun hp => absurd hp (by decide)))⟩, ⟨by rw [ht]; exact hP, va_K.moved hW.alike hK, hD⟩, by rw [ht]; exact kr1, by rw [ht]; exact kr2⟩, hS.F ht⟩) hS.2.2 dX5_worksAlone_103
abbrev r_x_work (Z : XZ) : Room := { frames := 5, cells := zcc Z, slots := zss Z, locals := 112 }
abbrev q_x_work (D : va_G) (ks : KS) (ad : Nat → Nat) (kk : Nat → ClassId) (V : Vf) (L : Lf) (Z : XZ) (b : Nat) (gf : Nat) (A : Nat → Prop) : Array Value → State → Outcome → State → Prop := qZv D (fun (u : Vf × Lf × XZ) => rgd bX u.1 ∧ agr [(5, 6), (5, 7), (5, 9), (5, 10), (5, 11), (5, 12), (5, 13), (5, 14)] [39, 67, 68, 69, 70, 71, 72, 73, 74, 75, 76, 77, 78, 79, 80, 81, 82, 83, 84, 85] V u.1 ∧ u.2.1 = L ∧ ZL Z u.2.2 ∧ (MJ u.1 u.2.2 b)) (fun u => xw ad kk u.1 u.2.1 u.2.2) (fun u => xty kk u.2.2) (fun u => zcc Z - zcc u.2.2) (fun u => zss Z - zss u.2.2) A
set_option maxHeartbeats 4000000 in
set_option maxRecDepth 100000 in
theorem x_work (l : Launch) (D : va_G) (ks : KS) (sz : Nat) (ad : Nat → Nat) (kk : Nat → ClassId) (V : Vf) (L : Lf) (Z : XZ) (b : Nat) (gf : Nat) (hMV : rgd bX V) (hb2 : b < 2) (hgf : gf < Z.nf) (mo : MO V Z b gf True True True) (gd : (gf : Int) + 1 = (V 5 6).toInt) (gk : (V 67 gf).toInt = 4) (gph : (V 68 gf).toInt = 0)  : Met l yX5_work (Cond.code yX5_work cX5_work 6 none :: GW) (r_x_work Z) (va_Pc [.ref (ad 5), .ref (Z.fa gf)] (gp D ks (xw ad kk V L Z) (xty kk Z) sz)) (q_x_work D ks ad kk V L Z  b gf (va_A (xw ad kk V L Z) sz)) (zcc Z) (zss Z) (va_A (xw ad kk V L Z) sz) := by
  refine g_met (q_x_work D ks ad kk V L Z  b gf) (by decide) (Nat.le_of_ble_eq_true rfl) ?_
  intro p e s m below meth c A ls H locs hx hb hr hml hown hg hlocks hin hnw hgk hP hK hD hS hA hl
  have hown : s.vm.findClass RX5 = some m.cls := hown
  have hl : lv_has ls 6 [(0, .ref (ad 5)), (1, .ref (Z.fa gf))] := hl
  have hP : va_P D vwCl (xw ad kk V L Z) H := hP
  have hD : va_D A (xw ad kk V L Z) := hD
  have hK : va_K D vwCl (xty kk Z) s := hK
  have agV : agr [(5, 6), (5, 7), (5, 9), (5, 10), (5, 11), (5, 12), (5, 13), (5, 14)] [39, 67, 68, 69, 70, 71, 72, 73, 74, 75, 76, 77, 78, 79, 80, 81, 82, 83, 84, 85] V V := agr.rf
  have zoZ : ZL Z Z := ZL.rf
  refine W.know (fun ka kb => ?_)
  refine W.tight (k := zcc Z - zcc Z) (n := zss Z - zss Z) (by omega) (by omega) ?_
  have r1 : 0 ≤ ((V 5 6)).toInt ∧ ((V 5 6)).toInt ≤ 400 := hMV 5 6
  have kdp := i_clamp (x := V 5 6) rfl (by omega)
  have hdn : (gf : Int) + 1 ≤ (Z.nf : Int) := by omega
  have mup := MO.up mo
  have msz := mup.1
  have mbk := mup.2.2.2.1
  obtain ⟨xk, fk⟩ := MO.fk mo
  have r2 : (-1) ≤ ((V 71 gf)).toInt ∧ ((V 71 gf)).toInt ≤ 23 := hMV 71 gf
  have r3 : 0 ≤ ((V 75 gf)).toInt ∧ ((V 75 gf)).toInt ≤ 12 := hMV 75 gf
  have r4 : 0 ≤ ((V 80 gf)).toInt ∧ ((V 80 gf)).toInt ≤ 300 := hMV 80 gf
  have r5 : 0 ≤ ((V 84 gf)).toInt ∧ ((V 84 gf)).toInt ≤ 2147483647 := hMV 84 gf
  have r6 : 0 ≤ ((V 5 8)).toInt ∧ ((V 5 8)).toInt ≤ 300 := hMV 5 8
  have r7 : 0 ≤ ((V 5 9)).toInt ∧ ((V 5 9)).toInt ≤ 3 := hMV 5 9
  have r8 : 0 ≤ ((V 3 13)).toInt ∧ ((V 3 13)).toInt ≤ 300 := hMV 3 13
  have r9 : 0 ≤ ((V 43 (5 * b + 2))).toInt ∧ ((V 43 (5 * b + 2))).toInt ≤ ((xcap (5 * b + 2) : Nat) : Int) := hMV 43 (5 * b + 2)
  have r10 : xcap (5 * b + 2) = 24 := xcap_2
  have r11 : 0 ≤ ((V 41 b)).toInt ∧ ((V 41 b)).toInt ≤ 12 := hMV 41 b
  have r12 : 0 ≤ ((V 42 b)).toInt ∧ ((V 42 b)).toInt ≤ 8200 := hMV 42 b
  have fc := fk.1 (by omega)
  have fo := fk.2.1 (by omega) (by omega)
  have ft := fk.2.2.1 (by omega)
  have fq := fk.2.2.2.1 (by omega)
  refine lv_iconst (v := 1) hx hb dX5_work_0 (by decide) ?_
  refine lv_istore_n (lv' := [(2, .int 1), (0, .ref (ad 5)), (1, .ref (Z.fa gf))]) hx hb dX5_work_1 rfl hl (by decide) rfl (fun ls hl => ?_)
  refine lv_iconst (v := 0) hx hb dX5_work_2 (by decide) ?_
  refine lv_istore_n (lv' := [(3, .int 0), (2, .int 1), (0, .ref (ad 5)), (1, .ref (Z.fa gf))]) hx hb dX5_work_3 rfl hl (by decide) rfl (fun ls hl => ?_)
  have lp16 : ∀ (fulp16 : Nat) (y13 : Int32) (y14 : Int32) (V15 : Vf) (H : Heap) (locs : List Loc) (ls : Array Slot), 0 ≤ y13.toInt ∧ y13.toInt ≤ 8200 → 1 ≤ y14.toInt ∧ y14.toInt ≤ 1 → MO V15 Z b gf True True True → (gf : Int) + 1 = (V15 5 6).toInt → (V15 67 gf).toInt = 4 → (V15 68 gf).toInt = 0 → 8200 - y13.toInt < (fulp16 : Int) → agr [(5, 6), (5, 7), (5, 9), (5, 10), (5, 11), (5, 12), (5, 13), (5, 14)] [39, 67, 68, 69, 70, 71, 72, 73, 74, 75, 76, 77, 78, 79, 80, 81, 82, 83, 84, 85] V V15 → rgd bX V15 → va_P D vwCl (xw ad kk V15 L Z) H → va_D A (xw ad kk V15 L Z) → va_S A s.heap H locs → lv_has ls 6 [(3, .int y13), (2, .int y14), (0, .ref (ad 5)), (1, .ref (Z.fa gf))] → W p l e (r_x_work Z) s m ([.ref (ad 5), .ref (Z.fa gf)] : List Value).toArray below meth c H locs (zcc Z - zcc Z) (zss Z - zss Z) (MQ below (q_x_work D ks ad kk V L Z  b gf A) ([.ref (ad 5), .ref (Z.fa gf)] : List Value).toArray s (zcc Z) (zss Z) A) (F0 m 4 ls []) := by
    intro fulp16
    induction fulp16 with
    | zero =>
      intro y13 y14 V15 H locs ls klp16_0 klp16_1 xlp16_0 xlp16_1 xlp16_2 xlp16_3 hn ajV15 hMV15 hP hD hS hl
      exfalso; omega
    | succ fulp16 ihlp16 =>
      intro y13 y14 V15 H locs ls klp16_0 klp16_1 xlp16_0 xlp16_1 xlp16_2 xlp16_3 hn ajV15 hMV15 hP hD hS hl
      have agV15 : agr [(5, 6), (5, 7), (5, 9), (5, 10), (5, 11), (5, 12), (5, 13), (5, 14)] [39, 67, 68, 69, 70, 71, 72, 73, 74, 75, 76, 77, 78, 79, 80, 81, 82, 83, 84, 85] V V15 := agV.tr ajV15 (by decide) (by decide)
      have r17 : 0 ≤ ((V15 5 6)).toInt ∧ ((V15 5 6)).toInt ≤ 400 := hMV15 5 6
      have mup := MO.up xlp16_0
      have msz := mup.1
      have mbk := mup.2.2.2.1
      obtain ⟨xk, fk⟩ := MO.fk xlp16_0
      have r18 : (-1) ≤ ((V15 71 gf)).toInt ∧ ((V15 71 gf)).toInt ≤ 23 := hMV15 71 gf
      have r19 : 0 ≤ ((V15 75 gf)).toInt ∧ ((V15 75 gf)).toInt ≤ 12 := hMV15 75 gf
      have r20 : 0 ≤ ((V15 80 gf)).toInt ∧ ((V15 80 gf)).toInt ≤ 300 := hMV15 80 gf
      have r21 : 0 ≤ ((V15 84 gf)).toInt ∧ ((V15 84 gf)).toInt ≤ 2147483647 := hMV15 84 gf
      have pq22 : (V15 5 8).toInt = ((V 5 8)).toInt := congrArg Int32.toInt (ajV15 5 8 rfl)
      have r23 : 0 ≤ ((V15 5 9)).toInt ∧ ((V15 5 9)).toInt ≤ 3 := hMV15 5 9
      have pq24 : (V15 3 13).toInt = ((V 3 13)).toInt := congrArg Int32.toInt (ajV15 3 13 rfl)
      have pq25 : (V15 43 (5 * b + 2)).toInt = ((V 43 (5 * b + 2))).toInt := congrArg Int32.toInt (ajV15 43 (5 * b + 2) rfl)
      have pq26 : (V15 41 b).toInt = ((V 41 b)).toInt := congrArg Int32.toInt (ajV15 41 b rfl)
      have pq27 : (V15 42 b).toInt = ((V 42 b)).toInt := congrArg Int32.toInt (ajV15 42 b rfl)
      have fc := fk.1 (by omega)
      have fo := fk.2.1 (by omega) (by omega)
      have ft := fk.2.2.1 (by omega)
      have fq := fk.2.2.2.1 (by omega)
      refine lv_iload_n hx hb dX5_work_4 rfl (lv_at hl 1 rfl) ?_
      refine lv_if_eq (tgt := 119) hx hb dX5_work_5 (by decide) (fun c28 => ?_) (fun c28 => ?_)
      · skip
        have f29 : y14.toInt = 0 := b_eq rfl (by decide) c28
        exfalso; omega
      · skip
        have f30 : y14.toInt ≠ 0 := b_neq rfl (by decide) c28
        refine lv_iload_n hx hb dX5_work_8 rfl (lv_at hl 0 rfl) ?_
        refine lv_aload_n hx hb dX5_work_9 rfl (lv_at hl 2 rfl) ?_
        refine va_get (D := D) (ci := 5) (v := .ref (ad (38 + Int32.toNatClampNeg (V15 5 5)))) (fs := (xfMachine ad V15 L Z)) (C := RX5) (T := TX5) (N := 15) hx hb hg inX5 hown hK hP 5 xgMachine rfl 5 (by decide) (hg _ w672) (fun _ h9 => h9) rfl dX5_work_10 ?_
        have pq31 : (V15 5 5).toInt = ((V 5 5)).toInt := congrArg Int32.toInt (ajV15 5 5 rfl)
        have r32 : 0 ≤ ((V 5 5)).toInt ∧ ((V 5 5)).toInt ≤ 1 := hMV 5 5
        refine g_topv (v := .ref (ad (38 + b))) (rfP (by omega)) ?_
        refine va_getN (D := D) (ci := 0) (v := .int (V15 42 b)) (fs := (xfBook ad V15 b)) (C := RX0) (T := TX0) (N := 13) hx hb hg inX0 hown hK hP (38 + b) (xgBook hb2) rfl 12 (by decide) (hnw.use 631 n631 rfl) (fun _ h9 => h9) rfl dX5_work_13 ?_
        refine g_top (v := (V 42 b)) (ajV15 42 b rfl) ?_
        refine lv_icmp_ge (tgt := 119) hx hb dX5_work_16 (by decide) (fun c33 => ?_) (fun c33 => ?_)
        · skip
          have f34 : ((V 42 b)).toInt ≤ y13.toInt := b_le rfl rfl c33
          have me35 : ME V15 V15 gf := ME.rf
          have af37 : (V15 42 b).toInt ≤ (V15 84 gf).toInt ∨ (bdp V15 b (V15 84 gf).toInt.toNat).1 = true := by rw [me35.1.bd, me35.1 42 b (by decide) (by decide)]; exact ft
          have mo36 : MO V15 Z b gf True (QN V15 b) (QN V15 b) := MO.ch xlp16_0 me35 rfl rfl (fun _ => Or.inl (by omega)) (fun x h => FK.k4 (by omega) (by omega) (by omega) af37 (by omega) (fun hph => absurd hph (by omega)))
          have rp38 : MJ V15 Z b := MO.mj mo36 (by omega) (by omega) id id Or.inr
          refine W.know (fun kr1 kr2 => ?_)
          refine W.widen (k := zcc Z) (n := zss Z) (Nat.sub_le _ _) (Nat.sub_le _ _) ?_
          exact W.vret hx hb hr (fun t ht hW => ⟨⟨(V15, L, Z), rfl, ⟨hMV15, agV15, rfl, zoZ, rp38⟩, ⟨by rw [ht]; exact hP, va_K.moved hW.alike hK, hD⟩, by rw [ht]; exact kr1, by rw [ht]; exact kr2⟩, hS.F ht⟩) hS.2.2 dX5_work_119
        · skip
          have f39 : y13.toInt < ((V 42 b)).toInt := b_nle rfl rfl c33
          refine lv_aload_n hx hb dX5_work_19 rfl (lv_at hl 3 rfl) ?_
          refine va_getN (D := D) (ci := 4) (v := .int (V15 84 gf)) (fs := (xfFrame V15 gf)) (C := RX4) (T := TX4) (N := 19) hx hb hg inX4 hown hK hP (336 + gf) (xgFrame hgf) rfl 17 (by decide) (hnw.use 1206 n1206 rfl) (fun _ h9 => h9) rfl dX5_work_20 ?_
          refine lv_aload_n hx hb dX5_work_23 rfl (lv_at hl 2 rfl) ?_
          refine va_get (D := D) (ci := 5) (v := .ref (ad (38 + Int32.toNatClampNeg (V15 5 5)))) (fs := (xfMachine ad V15 L Z)) (C := RX5) (T := TX5) (N := 15) hx hb hg inX5 hown hK hP 5 xgMachine rfl 5 (by decide) (hg _ w672) (fun _ h9 => h9) rfl dX5_work_24 ?_
          refine g_topv (v := .ref (ad (38 + b))) (rfP (by omega)) ?_
          refine va_getN (D := D) (ci := 0) (v := .int (V15 42 b)) (fs := (xfBook ad V15 b)) (C := RX0) (T := TX0) (N := 13) hx hb hg inX0 hown hK hP (38 + b) (xgBook hb2) rfl 12 (by decide) (hnw.use 631 n631 rfl) (fun _ h9 => h9) rfl dX5_work_27 ?_
          refine g_top (v := (V 42 b)) (ajV15 42 b rfl) ?_
          refine lv_icmp_ge (tgt := 119) hx hb dX5_work_30 (by decide) (fun c40 => ?_) (fun c40 => ?_)
          · skip
            have f41 : ((V 42 b)).toInt ≤ ((V15 84 gf)).toInt := b_le rfl rfl c40
            have me42 : ME V15 V15 gf := ME.rf
            have af44 : (V15 42 b).toInt ≤ (V15 84 gf).toInt ∨ (bdp V15 b (V15 84 gf).toInt.toNat).1 = true := by rw [me42.1.bd, me42.1 42 b (by decide) (by decide)]; exact ft
            have mo43 : MO V15 Z b gf True (QN V15 b) (QN V15 b) := MO.ch xlp16_0 me42 rfl rfl (fun _ => Or.inl (by omega)) (fun x h => FK.k4 (by omega) (by omega) (by omega) af44 (by omega) (fun hph => absurd hph (by omega)))
            have rp45 : MJ V15 Z b := MO.mj mo43 (by omega) (by omega) id id Or.inr
            refine W.know (fun kr1 kr2 => ?_)
            refine W.widen (k := zcc Z) (n := zss Z) (Nat.sub_le _ _) (Nat.sub_le _ _) ?_
            exact W.vret hx hb hr (fun t ht hW => ⟨⟨(V15, L, Z), rfl, ⟨hMV15, agV15, rfl, zoZ, rp45⟩, ⟨by rw [ht]; exact hP, va_K.moved hW.alike hK, hD⟩, by rw [ht]; exact kr1, by rw [ht]; exact kr2⟩, hS.F ht⟩) hS.2.2 dX5_work_119
          · skip
            have f46 : ((V15 84 gf)).toInt < ((V 42 b)).toInt := b_nle rfl rfl c40
            refine lv_aload_n hx hb dX5_work_33 rfl (lv_at hl 2 rfl) ?_
            refine va_get (D := D) (ci := 5) (v := .ref (ad (38 + Int32.toNatClampNeg (V15 5 5)))) (fs := (xfMachine ad V15 L Z)) (C := RX5) (T := TX5) (N := 15) hx hb hg inX5 hown hK hP 5 xgMachine rfl 5 (by decide) (hg _ w672) (fun _ h9 => h9) rfl dX5_work_34 ?_
            refine g_topv (v := .ref (ad (38 + b))) (rfP (by omega)) ?_
            refine va_getN (D := D) (ci := 0) (v := .ref (ad (70 + b))) (fs := (xfBook ad V15 b)) (C := RX0) (T := TX0) (N := 13) hx hb hg inX0 hown hK hP (38 + b) (xgBook hb2) rfl 10 (by decide) (hnw.use 624 n624 rfl) (fun _ h9 => h9) rfl dX5_work_37 ?_
            refine lv_aload_n hx hb dX5_work_40 rfl (lv_at hl 3 rfl) ?_
            refine va_getN (D := D) (ci := 4) (v := .int (V15 84 gf)) (fs := (xfFrame V15 gf)) (C := RX4) (T := TX4) (N := 19) hx hb hg inX4 hown hK hP (336 + gf) (xgFrame hgf) rfl 17 (by decide) (hnw.use 1206 n1206 rfl) (fun _ h9 => h9) rfl dX5_work_41 ?_
            have il47 : b < 2 := by omega
            refine va_iald (D := D) (i := (V15 84 gf)) hx hb hK hP (70 + b) (63 + b) (xgcode il47) (xtcode il47) (i_in (a := ((V15 84 gf)).toInt) rfl (by omega)) dX5_work_44 ?_
            have kc48 := i_clamp (x := (V15 84 gf)) rfl (by omega)
            refine g_top (v := V15 48 (8200 * b + (Int32.toNatClampNeg (V15 84 gf)))) (if_pos (by omega)) ?_
            refine g_top (v := (V 48 (8200 * b + (Int32.toNatClampNeg (V15 84 gf))))) (ajV15 48 (8200 * b + (Int32.toNatClampNeg (V15 84 gf))) rfl) ?_
            refine lv_istore (lv' := [(4, .int (V 48 (8200 * b + (Int32.toNatClampNeg (V15 84 gf))))), (3, .int y13), (2, .int y14), (0, .ref (ad 5)), (1, .ref (Z.fa gf))]) hx hb dX5_work_45 hl (by decide) rfl (fun ls hl => ?_)
            refine lv_aload_n hx hb dX5_work_47 rfl (lv_at hl 4 rfl) ?_
            refine lv_dup hx hb dX5_work_48 rfl ?_
            refine va_getN (D := D) (ci := 4) (v := .int (V15 84 gf)) (fs := (xfFrame V15 gf)) (C := RX4) (T := TX4) (N := 19) hx hb hg inX4 hown hK hP (336 + gf) (xgFrame hgf) rfl 17 (by decide) (hnw.use 1206 n1206 rfl) (fun _ h9 => h9) rfl dX5_work_49 ?_
            refine lv_iconst (v := 1) hx hb dX5_work_52 (by decide) ?_
            refine lv_iadd hx hb dX5_work_53 ?_
            refine lv_topi (fun z49 ez49 => ?_)
            have hz49 : z49.toInt = ((V15 84 gf)).toInt + 1 := i_add ez49 rfl (by decide) (by omega)
            refine va_putN (D := D) (ci := 4) (v := .int z49) (ty := tyX4 17) (fs := (xfFrame V15 gf)) (C := RX4) (T := TX4) (N := 19) hx hb hg inX4 tyX4 tyX4_ok nmX4 hown hK hP hD hS (336 + gf) (xgFrame hgf) rfl 17 (by decide) (hnw.use 1206 n1206 rfl) (fun _ h9 => h9) rfl (tyX4_ok 17 (by decide)) rfl rfl (Nat.le_of_ble_eq_true rfl) dX5_work_54 (fun H locs hP hD hS => ?_)
            obtain ⟨V50, hV50⟩ : ∃ z, z = up2 V15 84 gf z49 := ⟨_, rfl⟩
            have ew51 : (xw ad kk V15 L Z).set (336 + gf) ((Z.fa gf), .inr (4, (xfFrame V15 gf).set 17 (.int z49))) = xw ad kk V50 L Z := by rw [hV50]; exact xpFrame_at hgf
            have hP : va_P D vwCl (xw ad kk V50 L Z) H := by rw [← ew51]; exact hP
            have hD : va_D A (xw ad kk V50 L Z) := by rw [← ew51]; exact hD
            have hMV50 : rgd bX V50 := hMV15.put hV50 (show 0 ≤ z49.toInt ∧ z49.toInt ≤ 2147483647 from by omega)
            have agV50 : agr [(5, 6), (5, 7), (5, 9), (5, 10), (5, 11), (5, 12), (5, 13), (5, 14)] [39, 67, 68, 69, 70, 71, 72, 73, 74, 75, 76, 77, 78, 79, 80, 81, 82, 83, 84, 85] V V50 := agV15.up hV50 rfl
            have kat := i_clamp (x := V15 84 gf) rfl (by omega)
            have pq52 : (V15 48 (8200 * b + (Int32.toNatClampNeg (V15 84 gf)))).toInt = ((V 48 (8200 * b + (Int32.toNatClampNeg (V15 84 gf))))).toInt := congrArg Int32.toInt (ajV15 48 (8200 * b + (Int32.toNatClampNeg (V15 84 gf))) rfl)
            have hbd : (bdp V15 b (Int32.toNatClampNeg (V15 84 gf))).1 = true := by have q := ft.resolve_left (by omega); rw [show (V15 84 gf).toInt.toNat = (Int32.toNatClampNeg (V15 84 gf)) from by omega] at q; exact q
            have hco := mup.2.2.1.2 (Int32.toNatClampNeg (V15 84 gf)) (by omega) hbd
            refine lv_iload hx hb dX5_work_57 (lv_at hl 0 rfl) ?_
            refine lv_bipush (v := 10) hx hb dX5_work_59 (by decide) ?_
            refine lv_icmp_lt (tgt := 75) hx hb dX5_work_61 (by decide) (fun c53 => ?_) (fun c53 => ?_)
            · skip
              have f54 : ((V 48 (8200 * b + (Int32.toNatClampNeg (V15 84 gf))))).toInt < 10 := b_lt rfl (by decide) c53
              have atn : (V15 42 b).toInt ≤ z49.toInt ∨ (bdp V15 b z49.toInt.toNat).1 = true := Or.inr (by rw [show z49.toInt.toNat = (Int32.toNatClampNeg (V15 84 gf)) + 1 from by omega]; exact cd_lo hbd (by omega))
              refine lv_iload hx hb dX5_work_75 (lv_at hl 0 rfl) ?_
              refine lv_iconst (v := 5) hx hb dX5_work_77 (by decide) ?_
              refine lv_icmp_lt (tgt := 105) hx hb dX5_work_78 (by decide) (fun c55 => ?_) (fun c55 => ?_)
              · skip
                have f56 : ((V 48 (8200 * b + (Int32.toNatClampNeg (V15 84 gf))))).toInt < 5 := b_lt rfl (by decide) c55
                refine lv_aload_n hx hb dX5_work_105 rfl (lv_at hl 3 rfl) ?_
                refine lv_aload_n hx hb dX5_work_106 rfl (lv_at hl 4 rfl) ?_
                refine lv_iload hx hb dX5_work_107 (lv_at hl 0 rfl) ?_
                have pq57 : (V50 5 6).toInt = ((V15 5 6)).toInt := congrArg Int32.toInt (up2_o hV50 (by decide))
                have pq58 : (V50 67 gf).toInt = ((V15 67 gf)).toInt := congrArg Int32.toInt (up2_o hV50 (by decide))
                have pq59 : (V50 68 gf).toInt = ((V15 68 gf)).toInt := congrArg Int32.toInt (up2_o hV50 (by decide))
                have me60 : ME V15 V50 gf := (ME.up ME.rf hV50 (Or.inl ⟨by decide, by decide, Nat.le_refl _⟩))
                have pq61 : (V50 70 gf).toInt = ((V15 70 gf)).toInt := congrArg Int32.toInt (up2_o hV50 (by decide))
                have pq62 : (V50 71 gf).toInt = ((V15 71 gf)).toInt := congrArg Int32.toInt (up2_o hV50 (by decide))
                have pq63 : (V50 75 gf).toInt = ((V15 75 gf)).toInt := congrArg Int32.toInt (up2_o hV50 (by decide))
                have pq64 : (V50 76 gf).toInt = ((V15 76 gf)).toInt := congrArg Int32.toInt (up2_o hV50 (by decide))
                have pq65 : (V50 80 gf).toInt = ((V15 80 gf)).toInt := congrArg Int32.toInt (up2_o hV50 (by decide))
                have pq66 : (V50 84 gf).toInt = z49.toInt := congrArg Int32.toInt (up2_s hV50)
                have pq67 : (V50 5 8).toInt = ((V 5 8)).toInt := congrArg Int32.toInt ((up2_o hV50 (by decide)).trans (ajV15 5 8 rfl))
                have pq68 : (V50 5 9).toInt = ((V15 5 9)).toInt := congrArg Int32.toInt (up2_o hV50 (by decide))
                have pq69 : (V50 3 13).toInt = ((V 3 13)).toInt := congrArg Int32.toInt ((up2_o hV50 (by decide)).trans (ajV15 3 13 rfl))
                have pq70 : (V50 43 (5 * b + 2)).toInt = ((V 43 (5 * b + 2))).toInt := congrArg Int32.toInt ((up2_o hV50 (by decide)).trans (ajV15 43 (5 * b + 2) rfl))
                have pq71 : (V50 42 b).toInt = ((V 42 b)).toInt := congrArg Int32.toInt ((up2_o hV50 (by decide)).trans (ajV15 42 b rfl))
                have pq72 : (V50 41 b).toInt = ((V 41 b)).toInt := congrArg Int32.toInt ((up2_o hV50 (by decide)).trans (ajV15 41 b rfl))
                have af74 : (V50 42 b).toInt ≤ (V50 84 gf).toInt ∨ (bdp V50 b (V50 84 gf).toInt.toNat).1 = true := by rw [(up2_s hV50), me60.1.bd, me60.1 42 b (by decide) (by decide)]; exact atn
                have mo73 : MO V50 Z b gf True True True := MO.ch xlp16_0 me60 (up2_o hV50 (by decide)) (up2_o hV50 (by decide)) (fun _ => Or.inl (by omega)) (fun x h => FK.k4 (by omega) (by omega) (by omega) af74 (by omega) (fun hph => absurd hph (by omega)))
                refine W.know (fun k76 k77 => ?_)
                obtain ⟨Hk75, hHk75⟩ : ∃ z, z = H := ⟨_, rfl⟩
                have k76 : Hk75.size ≤ s.heap.size + (zcc Z - zcc Z) := by rw [hHk75]; exact k76
                have k77 : tot Hk75 ≤ tot s.heap + (zss Z - zss Z) := by rw [hHk75]; exact k77
                refine gZ_int (gA_runV (As := [.ref (Z.fa gf), .int (V 48 (8200 * b + (Int32.toNatClampNeg (V15 84 gf))))]) (rest := []) (ci := 5) (q0 := 5) hx hb hml hown hg hP hD hK hS hA hnw hgk (x_worksAlone l D ks H.size ad kk V50 L Z (V 48 (8200 * b + (Int32.toNatClampNeg (V15 84 gf)))) (b) (gf) hMV50 (show b < 2 from by omega) (show gf < Z.nf from by omega) mo73 (show (gf : Int) + 1 = (V50 5 6).toInt from by omega) (show (V50 67 gf).toInt = 4 from by omega) (show (V50 68 gf).toInt = 0 from by omega)) w1489 w1491 w77 w171 w1492 rfl xgMachine hdV_yX5_worksAlone ⟨Nat.le_of_ble_eq_true rfl, Nat.le_of_ble_eq_true rfl⟩ rfl hl.1 rfl (Nat.le_of_ble_eq_true rfl) dX5_work_109 ⟨z1 zoZ.1, z1 zoZ.2.1⟩) hD hS hA (fun z78 u79 H locs w80 hP hD hK hS y81 y82 => ?_)
                obtain ⟨V83, L84, Z85⟩ := u79
                obtain ⟨hMV83, ajV83, axL84, zlZ85, rgz78, t87, t88, t89, t90⟩ := w80
                have axL84 : L = L84 := Eq.symm axL84
                subst axL84
                have hP : va_P D vwCl (xw ad kk V83 L Z85) H := hP
                have hD : va_D A (xw ad kk V83 L Z85) := hD
                have hK : va_K D vwCl (xty kk Z85) s := hK
                have hMV83 : rgd bX V83 := hMV83
                have ajV83 : agr [(5, 6), (5, 7), (5, 9), (5, 10), (5, 13), (5, 14)] [39, 67, 68, 69, 70, 71, 72, 73, 74, 75, 76, 77, 78, 79, 80, 81, 82, 83, 84, 85] V50 V83 := ajV83
                have agV83 : agr [(5, 6), (5, 7), (5, 9), (5, 10), (5, 11), (5, 12), (5, 13), (5, 14)] [39, 67, 68, 69, 70, 71, 72, 73, 74, 75, 76, 77, 78, 79, 80, 81, 82, 83, 84, 85] V V83 := agV50.tr ajV83 (by decide) (by decide)
                have zlZ85 : ZL Z Z85 := zlZ85
                have zoZ85 : ZL Z Z85 := ZL.tr zoZ zlZ85
                have ziZ85 := zlZ85.1
                have zjZ85 := zlZ85.2.1
                have zkZ85 := zlZ85.2.2.1
                have zmZ85 := zoZ85.1
                have znZ85 := zoZ85.2.1
                have zpZ_Z85 := zoZ.1
                have zqZ_Z85 := zoZ.2.1
                have y81 : H.size ≤ Hk75.size + (zcc Z - zcc Z85) := by rw [hHk75]; exact y81
                have y82 : tot H ≤ tot Hk75 + (zss Z - zss Z85) := by rw [hHk75]; exact y82
                refine W.tight (k := zcc Z - zcc Z85) (n := zss Z - zss Z85) (by first | exact tg9 y81 k76 zlZ85.1 zoZ.1 | omega) (by first | exact tg9 y82 k77 zlZ85.2.1 zoZ.2.1 | omega) ?_
                have hl : lv_has ls 6 [(4, .int (V 48 (8200 * b + (Int32.toNatClampNeg (V15 84 gf))))), (3, .int y13), (2, .int y14), (0, .ref (ad 5)), (1, .ref (Z85.fa gf))] := by rw [zlZ85.2.2.2.2 gf hgf]; exact hl
                have rgz78 : 0 ≤ z78.toInt ∧ z78.toInt ≤ 1 := rgz78
                have t87 : Imp (z78.toInt = 1) (MO V83 Z85 b gf True True True) := t87
                have t88 : Imp (z78.toInt = 0) (MJ V83 Z85 b) := t88
                have t89 : Imp (z78.toInt = 1) ((V83 5 6).toInt = (V50 5 6).toInt ∧ (V83 67 gf).toInt = 4 ∧ (V83 68 gf).toInt = 0) := t89
                have t90 : Imp (z78.toInt = 1) (Z85 = Z) := t90
                have r91 : 0 ≤ ((V83 5 6)).toInt ∧ ((V83 5 6)).toInt ≤ 400 := hMV83 5 6
                refine lv_istore_n (lv' := [(2, .int z78), (4, .int (V 48 (8200 * b + (Int32.toNatClampNeg (V15 84 gf))))), (3, .int y13), (0, .ref (ad 5)), (1, .ref (Z85.fa gf))]) hx hb dX5_work_112 rfl hl (by decide) rfl (fun ls hl => ?_)
                by_cases hr0 : z78.toInt = 0
                · skip
                  obtain ⟨z92, ez92⟩ : ∃ y : Int32, y = y13 + 1 := ⟨_, rfl⟩
                  have hz92 : z92.toInt = y13.toInt + 1 := i_add ez92 rfl (by decide) (by omega)
                  refine lv_iinc (v := z92) (lv' := [(3, .int z92), (2, .int z78), (4, .int (V 48 (8200 * b + (Int32.toNatClampNeg (V15 84 gf))))), (0, .ref (ad 5)), (1, .ref (Z85.fa gf))]) hx hb dX5_work_113 hl (k := 2) rfl (by rw [ez92]; rfl) (by decide) rfl (fun ls hl => ?_)
                  refine lv_goto (tgt := 4) hx hb dX5_work_116 (by decide) ?_
                  refine lv_iload_n hx hb dX5_work_4 rfl (lv_at hl 1 rfl) ?_
                  refine lv_if_eq (tgt := 119) hx hb dX5_work_5 (by decide) (fun c93 => ?_) (fun c93 => ?_)
                  · skip
                    have f94 : z78.toInt = 0 := b_eq rfl (by decide) c93
                    refine W.know (fun kr1 kr2 => ?_)
                    refine W.widen (k := zcc Z) (n := zss Z) (Nat.sub_le _ _) (Nat.sub_le _ _) ?_
                    exact W.vret hx hb hr (fun t ht hW => ⟨⟨(V83, L, Z85), rfl, ⟨hMV83, agV83, rfl, zoZ85, (Imp.go t88 (by omega))⟩, ⟨by rw [ht]; exact hP, va_K.moved hW.alike hK, hD⟩, by rw [ht]; exact kr1, by rw [ht]; exact kr2⟩, hS.F ht⟩) hS.2.2 dX5_work_119
                  · skip
                    have f95 : z78.toInt ≠ 0 := b_neq rfl (by decide) c93
                    exfalso; first | omega | ((try (have i_t89 := Imp.go t89 (by omega))); omega)
                · skip
                  have hr1 : z78.toInt = 1 := by omega
                  have ezz : Z85 = Z := Imp.go t90 hr1
                  have hP : va_P D vwCl (xw ad kk V83 L Z) H := by rw [← ezz]; exact hP
                  have hD : va_D A (xw ad kk V83 L Z) := by rw [← ezz]; exact hD
                  have hK : va_K D vwCl (xty kk Z) s := by rw [← ezz]; exact hK
                  have hl : lv_has ls 6 [(2, .int z78), (4, .int (V 48 (8200 * b + (Int32.toNatClampNeg (V15 84 gf))))), (3, .int y13), (0, .ref (ad 5)), (1, .ref (Z.fa gf))] := by rw [← ezz]; exact hl
                  rw [ezz]
                  have mo96 : MO V83 Z b gf True True True := by rw [← ezz]; exact Imp.go t87 hr1
                  have hpk := Imp.go t89 hr1
                  obtain ⟨z97, ez97⟩ : ∃ y : Int32, y = y13 + 1 := ⟨_, rfl⟩
                  have hz97 : z97.toInt = y13.toInt + 1 := i_add ez97 rfl (by decide) (by omega)
                  refine lv_iinc (v := z97) (lv' := [(3, .int z97), (2, .int z78), (4, .int (V 48 (8200 * b + (Int32.toNatClampNeg (V15 84 gf))))), (0, .ref (ad 5)), (1, .ref (Z.fa gf))]) hx hb dX5_work_113 hl (k := 2) rfl (by rw [ez97]; rfl) (by decide) rfl (fun ls hl => ?_)
                  refine lv_goto (tgt := 4) hx hb dX5_work_116 (by decide) ?_
                  exact ihlp16 z97 z78 V83 H locs ls (by first | omega | ((try (have i_t89 := Imp.go t89 (by omega))); omega)) (by first | omega | ((try (have i_t89 := Imp.go t89 (by omega))); omega)) mo96 (show (gf : Int) + 1 = (V83 5 6).toInt from by first | omega | ((try (have i_t89 := Imp.go t89 (by omega))); omega)) (show (V83 67 gf).toInt = 4 from by first | omega | ((try (have i_t89 := Imp.go t89 (by omega))); omega)) (show (V83 68 gf).toInt = 0 from by first | omega | ((try (have i_t89 := Imp.go t89 (by omega))); omega)) (by first | omega | ((try (have i_t89 := Imp.go t89 (by omega))); omega)) (agr.tr (agr.up (agr.tr agr.rf ajV15 (by decide) (by decide)) hV50 rfl) ajV83 (by decide) (by decide)) hMV83 hP hD hS (lv_sub hl [0, 1, 3, 4] rfl)
              · skip
                have f98 : 5 ≤ ((V 48 (8200 * b + (Int32.toNatClampNeg (V15 84 gf))))).toInt := b_nlt rfl (by decide) c55
                refine lv_aload_n hx hb dX5_work_81 rfl (lv_at hl 3 rfl) ?_
                refine gA_int (gA_runV (As := []) (rest := []) (ci := 5) (q0 := 5) hx hb hml hown hg hP hD hK hS hA hnw hgk (x_mpull l D ks H.size ad kk V50 L Z  hMV50 ) w1482 w1484 w76 w171 w1485 rfl xgMachine hdV_yX5_pull ⟨Nat.le_of_ble_eq_true rfl, Nat.le_of_ble_eq_true rfl⟩ rfl hl.1 rfl (Nat.le_of_ble_eq_true rfl) dX5_work_82 ⟨z0, z0⟩) hP hD hK hS hA (fun z99 u100 H locs w101 hP hD hK hS => ?_)
                obtain ⟨V102, L103⟩ := u100
                obtain ⟨hMV102, ajV102, axL103⟩ := w101
                have axL103 : L = L103 := Eq.symm axL103
                subst axL103
                have hP : va_P D vwCl (xw ad kk V102 L Z) H := hP
                have hD : va_D A (xw ad kk V102 L Z) := hD
                have hMV102 : rgd bX V102 := hMV102
                have ajV102 : agr [(5, 7)] [] V50 V102 := ajV102
                have agV102 : agr [(5, 6), (5, 7), (5, 9), (5, 10), (5, 11), (5, 12), (5, 13), (5, 14)] [39, 67, 68, 69, 70, 71, 72, 73, 74, 75, 76, 77, 78, 79, 80, 81, 82, 83, 84, 85] V V102 := agV50.tr ajV102 (by decide) (by decide)
                refine lv_istore (lv' := [(5, .int z99), (4, .int (V 48 (8200 * b + (Int32.toNatClampNeg (V15 84 gf))))), (3, .int y13), (2, .int y14), (0, .ref (ad 5)), (1, .ref (Z.fa gf))]) hx hb dX5_work_85 hl (by decide) rfl (fun ls hl => ?_)
                refine lv_aload_n hx hb dX5_work_87 rfl (lv_at hl 4 rfl) ?_
                refine lv_iload hx hb dX5_work_88 (lv_at hl 1 rfl) ?_
                refine lv_aload_n hx hb dX5_work_90 rfl (lv_at hl 4 rfl) ?_
                refine gA_int (gA_runV (As := []) (rest := [.int (V 48 (8200 * b + (Int32.toNatClampNeg (V15 84 gf)))), .ref (ad 5)]) (ci := 5) (q0 := 5) hx hb hml hown hg hP hD hK hS hA hnw hgk (x_mpull l D ks H.size ad kk V102 L Z  hMV102 ) w1482 w1484 w76 w171 w1485 rfl xgMachine hdV_yX5_pull ⟨Nat.le_of_ble_eq_true rfl, Nat.le_of_ble_eq_true rfl⟩ rfl hl.1 rfl (Nat.le_of_ble_eq_true rfl) dX5_work_91 ⟨z0, z0⟩) hP hD hK hS hA (fun z104 u105 H locs w106 hP hD hK hS => ?_)
                obtain ⟨V107, L108⟩ := u105
                obtain ⟨hMV107, ajV107, axL108⟩ := w106
                have axL108 : L = L108 := Eq.symm axL108
                subst axL108
                have hP : va_P D vwCl (xw ad kk V107 L Z) H := hP
                have hD : va_D A (xw ad kk V107 L Z) := hD
                have hMV107 : rgd bX V107 := hMV107
                have ajV107 : agr [(5, 7)] [] V102 V107 := ajV107
                have agV107 : agr [(5, 6), (5, 7), (5, 9), (5, 10), (5, 11), (5, 12), (5, 13), (5, 14)] [39, 67, 68, 69, 70, 71, 72, 73, 74, 75, 76, 77, 78, 79, 80, 81, 82, 83, 84, 85] V V107 := agV102.tr ajV107 (by decide) (by decide)
                refine lv_iload hx hb dX5_work_94 (lv_at hl 0 rfl) ?_
                refine gE_int (g_runS (As := [.int (V 48 (8200 * b + (Int32.toNatClampNeg (V15 84 gf)))), .int z104, .int z99]) (rest := [.ref (ad 5)]) (wc := []) (tc := []) hx hb hml hown hg gw_self hP hD hK hS hA hnw hgk [] [] (by decide) rfl rfl (x_compute l D ks H.size (V 48 (8200 * b + (Int32.toNatClampNeg (V15 84 gf)))) z104 z99 ) w1486 w1487 w171 w1488 hdS_yX5_compute ⟨Nat.le_of_ble_eq_true rfl, Nat.le_of_ble_eq_true rfl⟩ rfl hl.1 rfl (Nat.le_of_ble_eq_true rfl) dX5_work_96 ⟨z0, z0⟩) hP hD hK hS hA (fun z109 u110 H locs w111 hP hD hK hS => ?_)
                refine gA_void (gA_runV (As := [.int z109]) (rest := []) (ci := 5) (q0 := 5) hx hb hml hown hg hP hD hK hS hA hnw hgk (x_mput l D ks H.size ad kk V107 L Z z109 hMV107 ) w1466 w1468 w72 w171 w1469 rfl xgMachine hdV_yX5_put ⟨Nat.le_of_ble_eq_true rfl, Nat.le_of_ble_eq_true rfl⟩ rfl hl.1 rfl (Nat.le_of_ble_eq_true rfl) dX5_work_99 ⟨z0, z0⟩) hP hD hK hS hA (fun u113 H locs w114 hP hD hK hS => ?_)
                obtain ⟨V115, L116⟩ := u113
                obtain ⟨hMV115, ajV115, axL116⟩ := w114
                have axL116 : L = L116 := Eq.symm axL116
                subst axL116
                have hP : va_P D vwCl (xw ad kk V115 L Z) H := hP
                have hD : va_D A (xw ad kk V115 L Z) := hD
                have hMV115 : rgd bX V115 := hMV115
                have ajV115 : agr [(5, 7)] [39] V107 V115 := ajV115
                have agV115 : agr [(5, 6), (5, 7), (5, 9), (5, 10), (5, 11), (5, 12), (5, 13), (5, 14)] [39, 67, 68, 69, 70, 71, 72, 73, 74, 75, 76, 77, 78, 79, 80, 81, 82, 83, 84, 85] V V115 := agV107.tr ajV115 (by decide) (by decide)
                refine lv_goto (tgt := 113) hx hb dX5_work_102 (by decide) ?_
                obtain ⟨z117, ez117⟩ : ∃ y : Int32, y = y13 + 1 := ⟨_, rfl⟩
                have hz117 : z117.toInt = y13.toInt + 1 := i_add ez117 rfl (by decide) (by omega)
                refine lv_iinc (v := z117) (lv' := [(3, .int z117), (5, .int z99), (4, .int (V 48 (8200 * b + (Int32.toNatClampNeg (V15 84 gf))))), (2, .int y14), (0, .ref (ad 5)), (1, .ref (Z.fa gf))]) hx hb dX5_work_113 hl (k := 2) rfl (by rw [ez117]; rfl) (by decide) rfl (fun ls hl => ?_)
                refine lv_goto (tgt := 4) hx hb dX5_work_116 (by decide) ?_
                have pq118 : (V115 5 6).toInt = ((V15 5 6)).toInt := congrArg Int32.toInt ((ajV115 5 6 rfl).trans ((ajV107 5 6 rfl).trans ((ajV102 5 6 rfl).trans (up2_o hV50 (by decide)))))
                have pq119 : (V115 67 gf).toInt = ((V15 67 gf)).toInt := congrArg Int32.toInt ((ajV115 67 gf rfl).trans ((ajV107 67 gf rfl).trans ((ajV102 67 gf rfl).trans (up2_o hV50 (by decide)))))
                have pq120 : (V115 68 gf).toInt = ((V15 68 gf)).toInt := congrArg Int32.toInt ((ajV115 68 gf rfl).trans ((ajV107 68 gf rfl).trans ((ajV102 68 gf rfl).trans (up2_o hV50 (by decide)))))
                have me121 : ME V15 V115 gf := (ME.tr (ME.tr (ME.tr (ME.up ME.rf hV50 (Or.inl ⟨by decide, by decide, Nat.le_refl _⟩)) (ME.ag ajV102 (by decide))) (ME.ag ajV107 (by decide))) (ME.ag ajV115 (by decide)))
                have pq122 : (V115 70 gf).toInt = ((V15 70 gf)).toInt := congrArg Int32.toInt ((ajV115 70 gf rfl).trans ((ajV107 70 gf rfl).trans ((ajV102 70 gf rfl).trans (up2_o hV50 (by decide)))))
                have pq123 : (V115 71 gf).toInt = ((V15 71 gf)).toInt := congrArg Int32.toInt ((ajV115 71 gf rfl).trans ((ajV107 71 gf rfl).trans ((ajV102 71 gf rfl).trans (up2_o hV50 (by decide)))))
                have pq124 : (V115 75 gf).toInt = ((V15 75 gf)).toInt := congrArg Int32.toInt ((ajV115 75 gf rfl).trans ((ajV107 75 gf rfl).trans ((ajV102 75 gf rfl).trans (up2_o hV50 (by decide)))))
                have pq125 : (V115 76 gf).toInt = ((V15 76 gf)).toInt := congrArg Int32.toInt ((ajV115 76 gf rfl).trans ((ajV107 76 gf rfl).trans ((ajV102 76 gf rfl).trans (up2_o hV50 (by decide)))))
                have pq126 : (V115 80 gf).toInt = ((V15 80 gf)).toInt := congrArg Int32.toInt ((ajV115 80 gf rfl).trans ((ajV107 80 gf rfl).trans ((ajV102 80 gf rfl).trans (up2_o hV50 (by decide)))))
                have pq127 : (V115 84 gf).toInt = z49.toInt := congrArg Int32.toInt ((ajV115 84 gf rfl).trans ((ajV107 84 gf rfl).trans ((ajV102 84 gf rfl).trans (up2_s hV50))))
                have pq128 : (V115 5 8).toInt = ((V 5 8)).toInt := congrArg Int32.toInt ((ajV115 5 8 rfl).trans ((ajV107 5 8 rfl).trans ((ajV102 5 8 rfl).trans ((up2_o hV50 (by decide)).trans (ajV15 5 8 rfl)))))
                have pq129 : (V115 5 9).toInt = ((V15 5 9)).toInt := congrArg Int32.toInt ((ajV115 5 9 rfl).trans ((ajV107 5 9 rfl).trans ((ajV102 5 9 rfl).trans (up2_o hV50 (by decide)))))
                have pq130 : (V115 3 13).toInt = ((V 3 13)).toInt := congrArg Int32.toInt ((ajV115 3 13 rfl).trans ((ajV107 3 13 rfl).trans ((ajV102 3 13 rfl).trans ((up2_o hV50 (by decide)).trans (ajV15 3 13 rfl)))))
                have pq131 : (V115 43 (5 * b + 2)).toInt = ((V 43 (5 * b + 2))).toInt := congrArg Int32.toInt ((ajV115 43 (5 * b + 2) rfl).trans ((ajV107 43 (5 * b + 2) rfl).trans ((ajV102 43 (5 * b + 2) rfl).trans ((up2_o hV50 (by decide)).trans (ajV15 43 (5 * b + 2) rfl)))))
                have pq132 : (V115 42 b).toInt = ((V 42 b)).toInt := congrArg Int32.toInt ((ajV115 42 b rfl).trans ((ajV107 42 b rfl).trans ((ajV102 42 b rfl).trans ((up2_o hV50 (by decide)).trans (ajV15 42 b rfl)))))
                have pq133 : (V115 41 b).toInt = ((V 41 b)).toInt := congrArg Int32.toInt ((ajV115 41 b rfl).trans ((ajV107 41 b rfl).trans ((ajV102 41 b rfl).trans ((up2_o hV50 (by decide)).trans (ajV15 41 b rfl)))))
                have af135 : (V115 42 b).toInt ≤ (V115 84 gf).toInt ∨ (bdp V115 b (V115 84 gf).toInt.toNat).1 = true := by rw [((ajV115 84 gf rfl).trans ((ajV107 84 gf rfl).trans ((ajV102 84 gf rfl).trans (up2_s hV50)))), me121.1.bd, me121.1 42 b (by decide) (by decide)]; exact atn
                have mo134 : MO V115 Z b gf True True True := MO.ch xlp16_0 me121 ((ajV115 67 gf rfl).trans ((ajV107 67 gf rfl).trans ((ajV102 67 gf rfl).trans (up2_o hV50 (by decide))))) ((ajV115 80 gf rfl).trans ((ajV107 80 gf rfl).trans ((ajV102 80 gf rfl).trans (up2_o hV50 (by decide))))) (fun _ => Or.inl (by omega)) (fun x h => FK.k4 (by omega) (by omega) (by omega) af135 (by omega) (fun hph => absurd hph (by omega)))
                exact ihlp16 z117 y14 V115 H locs ls (by omega) (by omega) mo134 (show (gf : Int) + 1 = (V115 5 6).toInt from by omega) (show (V115 67 gf).toInt = 4 from by omega) (show (V115 68 gf).toInt = 0 from by omega) (by omega) (agr.tr (agr.tr (agr.tr (agr.up (agr.tr agr.rf ajV15 (by decide) (by decide)) hV50 rfl) ajV102 (by decide) (by decide)) ajV107 (by decide) (by decide)) ajV115 (by decide) (by decide)) hMV115 hP hD hS (lv_sub hl [0, 3, 4, 5] rfl)
            · skip
              have f136 : 10 ≤ ((V 48 (8200 * b + (Int32.toNatClampNeg (V15 84 gf))))).toInt := b_nlt rfl (by decide) c53
              refine lv_aload_n hx hb dX5_work_64 rfl (lv_at hl 3 rfl) ?_
              refine lv_aload_n hx hb dX5_work_65 rfl (lv_at hl 4 rfl) ?_
              refine lv_iload hx hb dX5_work_66 (lv_at hl 0 rfl) ?_
              have pq137 : (V50 5 6).toInt = ((V15 5 6)).toInt := congrArg Int32.toInt (up2_o hV50 (by decide))
              have pq138 : (V50 67 gf).toInt = ((V15 67 gf)).toInt := congrArg Int32.toInt (up2_o hV50 (by decide))
              have pq139 : (V50 68 gf).toInt = ((V15 68 gf)).toInt := congrArg Int32.toInt (up2_o hV50 (by decide))
              have pq140 : (V50 84 gf).toInt = z49.toInt := congrArg Int32.toInt (up2_s hV50)
              have moa141 : MOa V50 Z b gf := MOa.up (MO.a xlp16_0 (by omega) (by omega)) hV50
              have me142 : ME V15 V50 0 := (ME.up ME.rf hV50 (Or.inl ⟨by decide, by decide, by omega⟩))
              have hop143 : ∀ a : Nat, (a : Int) = (V50 84 gf).toInt → (a : Int) < (V50 42 b).toInt → okO V50 b ((V 48 (8200 * b + (Int32.toNatClampNeg (V15 84 gf))))).toInt (V50 48 (8200 * b + a)).toInt ∧ (bdp V50 b (a + 1)).1 = true := fun a ha hl => cd_op mup.2.2.1 me142.1 hbd (by omega) (by omega) a (by omega) hl
              refine gA_int (gA_runV (As := [.ref (Z.fa gf), .int (V 48 (8200 * b + (Int32.toNatClampNeg (V15 84 gf))))]) (rest := []) (ci := 5) (q0 := 5) hx hb hml hown hg hP hD hK hS hA hnw hgk (x_worksWith l D ks H.size ad kk V50 L Z (V 48 (8200 * b + (Int32.toNatClampNeg (V15 84 gf)))) (b) (gf) hMV50 (by omega) (show b < 2 from by omega) (show gf < Z.nf from by omega) moa141 (show (gf : Int) + 1 = (V50 5 6).toInt from by omega) (show (V50 67 gf).toInt = 4 from by omega) (show (V50 68 gf).toInt = 0 from by omega) (show (V50 84 gf).toInt ≤ 8200 from by omega) hop143) w1478 w1480 w75 w171 w1481 rfl xgMachine hdV_yX5_worksWith ⟨Nat.le_of_ble_eq_true rfl, Nat.le_of_ble_eq_true rfl⟩ rfl hl.1 rfl (Nat.le_of_ble_eq_true rfl) dX5_work_68 ⟨z0, z0⟩) hP hD hK hS hA (fun z144 u145 H locs w146 hP hD hK hS => ?_)
              obtain ⟨V150, L151⟩ := u145
              obtain ⟨hMV150, ajV150, axL151, rgz144, t147, t148, t149⟩ := w146
              have axL151 : L = L151 := Eq.symm axL151
              subst axL151
              have hP : va_P D vwCl (xw ad kk V150 L Z) H := hP
              have hD : va_D A (xw ad kk V150 L Z) := hD
              have hMV150 : rgd bX V150 := hMV150
              have ajV150 : agr [(5, 6), (5, 7), (5, 9), (5, 11), (5, 12)] [39, 68, 75, 77, 78, 84] V50 V150 := ajV150
              have agV150 : agr [(5, 6), (5, 7), (5, 9), (5, 10), (5, 11), (5, 12), (5, 13), (5, 14)] [39, 67, 68, 69, 70, 71, 72, 73, 74, 75, 76, 77, 78, 79, 80, 81, 82, 83, 84, 85] V V150 := agV50.tr ajV150 (by decide) (by decide)
              have rgz144 : 0 ≤ z144.toInt ∧ z144.toInt ≤ 1 := rgz144
              have t147 : Imp (z144.toInt = 1) (MO V150 Z b gf True True True) := t147
              have t148 : Imp (z144.toInt = 0) (MJ V150 Z b) := t148
              have t149 : Imp (z144.toInt = 1) ((V150 5 6).toInt = (V50 5 6).toInt ∧ (V150 67 gf).toInt = 4 ∧ (V150 68 gf).toInt = 0) := t149
              have r152 : 0 ≤ ((V150 5 6)).toInt ∧ ((V150 5 6)).toInt ≤ 400 := hMV150 5 6
              refine lv_istore_n (lv' := [(2, .int z144), (4, .int (V 48 (8200 * b + (Int32.toNatClampNeg (V15 84 gf))))), (3, .int y13), (0, .ref (ad 5)), (1, .ref (Z.fa gf))]) hx hb dX5_work_71 rfl hl (by decide) rfl (fun ls hl => ?_)
              refine lv_goto (tgt := 113) hx hb dX5_work_72 (by decide) ?_
              by_cases hr0 : z144.toInt = 0
              · skip
                obtain ⟨z153, ez153⟩ : ∃ y : Int32, y = y13 + 1 := ⟨_, rfl⟩
                have hz153 : z153.toInt = y13.toInt + 1 := i_add ez153 rfl (by decide) (by omega)
                refine lv_iinc (v := z153) (lv' := [(3, .int z153), (2, .int z144), (4, .int (V 48 (8200 * b + (Int32.toNatClampNeg (V15 84 gf))))), (0, .ref (ad 5)), (1, .ref (Z.fa gf))]) hx hb dX5_work_113 hl (k := 2) rfl (by rw [ez153]; rfl) (by decide) rfl (fun ls hl => ?_)
                refine lv_goto (tgt := 4) hx hb dX5_work_116 (by decide) ?_
                refine lv_iload_n hx hb dX5_work_4 rfl (lv_at hl 1 rfl) ?_
                refine lv_if_eq (tgt := 119) hx hb dX5_work_5 (by decide) (fun c154 => ?_) (fun c154 => ?_)
                · skip
                  have f155 : z144.toInt = 0 := b_eq rfl (by decide) c154
                  refine W.know (fun kr1 kr2 => ?_)
                  refine W.widen (k := zcc Z) (n := zss Z) (Nat.sub_le _ _) (Nat.sub_le _ _) ?_
                  exact W.vret hx hb hr (fun t ht hW => ⟨⟨(V150, L, Z), rfl, ⟨hMV150, agV150, rfl, zoZ, (Imp.go t148 (by omega))⟩, ⟨by rw [ht]; exact hP, va_K.moved hW.alike hK, hD⟩, by rw [ht]; exact kr1, by rw [ht]; exact kr2⟩, hS.F ht⟩) hS.2.2 dX5_work_119
                · skip
                  have f156 : z144.toInt ≠ 0 := b_neq rfl (by decide) c154
                  exfalso; first | omega | ((try (have i_t149 := Imp.go t149 (by omega))); omega)
              · skip
                have hr1 : z144.toInt = 1 := by omega
                have mo157 : MO V150 Z b gf True True True := Imp.go t147 hr1
                have hpk := Imp.go t149 hr1
                obtain ⟨z158, ez158⟩ : ∃ y : Int32, y = y13 + 1 := ⟨_, rfl⟩
                have hz158 : z158.toInt = y13.toInt + 1 := i_add ez158 rfl (by decide) (by omega)
                refine lv_iinc (v := z158) (lv' := [(3, .int z158), (2, .int z144), (4, .int (V 48 (8200 * b + (Int32.toNatClampNeg (V15 84 gf))))), (0, .ref (ad 5)), (1, .ref (Z.fa gf))]) hx hb dX5_work_113 hl (k := 2) rfl (by rw [ez158]; rfl) (by decide) rfl (fun ls hl => ?_)
                refine lv_goto (tgt := 4) hx hb dX5_work_116 (by decide) ?_
                have pq159 : (V150 67 gf).toInt = ((V15 67 gf)).toInt := congrArg Int32.toInt ((ajV150 67 gf rfl).trans (up2_o hV50 (by decide)))
                exact ihlp16 z158 z144 V150 H locs ls (by first | omega | ((try (have i_t149 := Imp.go t149 (by omega))); omega)) (by first | omega | ((try (have i_t149 := Imp.go t149 (by omega))); omega)) mo157 (show (gf : Int) + 1 = (V150 5 6).toInt from by first | omega | ((try (have i_t149 := Imp.go t149 (by omega))); omega)) (show (V150 67 gf).toInt = 4 from by first | omega | ((try (have i_t149 := Imp.go t149 (by omega))); omega)) (show (V150 68 gf).toInt = 0 from by first | omega | ((try (have i_t149 := Imp.go t149 (by omega))); omega)) (by first | omega | ((try (have i_t149 := Imp.go t149 (by omega))); omega)) (agr.tr (agr.up (agr.tr agr.rf ajV15 (by decide) (by decide)) hV50 rfl) ajV150 (by decide) (by decide)) hMV150 hP hD hS (lv_sub hl [0, 1, 3, 4] rfl)
  have r160 : Int32.toInt 0 = 0 := by decide
  have r161 : Int32.toInt 1 = 1 := by decide
  exact lp16 ((8200 - (Int32.toInt 0) + 1 : Int).toNat) 0 1 V H locs ls (by decide) (by decide) mo (show (gf : Int) + 1 = (V 5 6).toInt from by omega) (show (V 67 gf).toInt = 4 from by omega) (show (V 68 gf).toInt = 0 from by omega) (by omega) agr.rf hMV hP hD hS (lv_sub hl [0, 1, 2, 3] rfl)
