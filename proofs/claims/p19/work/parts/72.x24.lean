section
theorem w1492 : Cond.code yX5_worksAlone cX5_worksAlone 3 (some .boolean) ∈ GW := gw_k tk9_6 137 (rfl) rfl
theorem w1489 : Cond.methodLink RX5 341 yX5_worksAlone ∈ GW := gw_k tk9_6 134 (by decide +kernel) rfl
theorem w1491 : Cond.instanceMethod yX5_worksAlone ∈ GW := gw_k tk9_6 136 (by decide +kernel) rfl
theorem w77 : Cond.selects RX5 yX5_worksAlone yX5_worksAlone ∈ GW := gw_mem 77 (by decide +kernel) rfl
theorem hdV_yX5_worksAlone : yX5_worksAlone.cls = RX5 ∧ yX5_worksAlone.cls ≠ "java/lang/invoke/MethodHandle" ∧ yX5_worksAlone.cls ≠ "java/lang/invoke/VarHandle" ∧ (parseMethodDescriptor yX5_worksAlone.desc).map (fun d => d.parameters.length) = some 2 := by decide +kernel
theorem w1488 : Cond.code yX5_compute cX5_compute 3 (some .int) ∈ GW := gw_k tk9_6 133 (rfl) rfl
theorem w1486 : Cond.methodLink RX5 334 yX5_compute ∈ GW := gw_k tk9_6 131 (by decide +kernel) rfl
theorem w1487 : Cond.static yX5_compute ∈ GW := gw_k tk9_6 132 (by decide +kernel) rfl
theorem hdS_yX5_compute : yX5_compute.cls ≠ "java/lang/invoke/MethodHandle" ∧ yX5_compute.cls ≠ "java/lang/invoke/VarHandle" ∧ (parseMethodDescriptor yX5_compute.desc).map (fun d => d.parameters.length) = some 3 := by decide +kernel
theorem w1481 : Cond.code yX5_worksWith cX5_worksWith 4 (some .boolean) ∈ GW := gw_k tk9_6 126 (rfl) rfl
theorem w1478 : Cond.methodLink RX5 326 yX5_worksWith ∈ GW := gw_k tk9_6 123 (by decide +kernel) rfl
theorem w1480 : Cond.instanceMethod yX5_worksWith ∈ GW := gw_k tk9_6 125 (by decide +kernel) rfl
theorem w75 : Cond.selects RX5 yX5_worksWith yX5_worksWith ∈ GW := gw_mem 75 (by decide +kernel) rfl
theorem hdV_yX5_worksWith : yX5_worksWith.cls = RX5 ∧ yX5_worksWith.cls ≠ "java/lang/invoke/MethodHandle" ∧ yX5_worksWith.cls ≠ "java/lang/invoke/VarHandle" ∧ (parseMethodDescriptor yX5_worksWith.desc).map (fun d => d.parameters.length) = some 2 := by decide +kernel
theorem dk9_dX5_worksAlone_0_0 : dOk cX5_worksAlone [(0, .iload_n 2, 1), (1, .tableswitch 88 1 4 #[31, 47, 57, 68], 31), (32, .aload_n 0, 1), (33, .invokevirtual 207, 3), (36, .ifCond .ne 10, 3), (46, .iconst 1, 1), (47, .ireturn, 1), (39, .aload_n 0, 1), (40, .aload_n 1, 1), (41, .invokevirtual 310, 3), (44, .iconst 0, 1), (45, .ireturn, 1), (48, .aload_n 0, 1), (49, .aload_n 1, 1), (50, .getfield 135, 3), (53, .invokevirtual 338, 3), (56, .iconst 1, 1), (57, .ireturn, 1), (58, .aload_n 0, 1), (59, .aload_n 0, 1), (60, .invokevirtual 330, 3), (63, .ineg, 1), (64, .invokevirtual 338, 3), (67, .iconst 1, 1)] = true ∧ dOk cX5_worksAlone [(68, .ireturn, 1), (69, .aload_n 1, 1), (70, .iconst 1, 1), (71, .putfield 94, 3), (74, .aload_n 0, 1), (75, .aload_n 1, 1), (76, .aload_n 1, 1), (77, .getfield 109, 3), (80, .aload_n 0, 1), (81, .invokevirtual 330, 3), (84, .invokevirtual 272, 3), (87, .iconst 0, 1), (88, .ireturn, 1), (89, .aload_n 0, 1), (90, .aload_n 0, 1), (91, .invokevirtual 330, 3), (94, .invokevirtual 203, 3), (97, .aload_n 0, 1), (98, .aload_n 1, 1), (99, .invokevirtual 310, 3), (102, .iconst 0, 1), (103, .ireturn, 1)] = true := by decide +kernel
theorem dX5_worksAlone_0 : decode cX5_worksAlone 0 = .ok (.iload_n 2, 1) := dr9 dk9_dX5_worksAlone_0_0.1 0 (0, .iload_n 2, 1) rfl
theorem dX5_worksAlone_1 : decode cX5_worksAlone 1 = .ok (.tableswitch 88 1 4 #[31, 47, 57, 68], 31) := dr9 dk9_dX5_worksAlone_0_0.1 1 (1, .tableswitch 88 1 4 #[31, 47, 57, 68], 31) rfl
theorem dX5_worksAlone_32 : decode cX5_worksAlone 32 = .ok (.aload_n 0, 1) := dr9 dk9_dX5_worksAlone_0_0.1 2 (32, .aload_n 0, 1) rfl
theorem dX5_worksAlone_33 : decode cX5_worksAlone 33 = .ok (.invokevirtual 207, 3) := dr9 dk9_dX5_worksAlone_0_0.1 3 (33, .invokevirtual 207, 3) rfl
theorem dX5_worksAlone_36 : decode cX5_worksAlone 36 = .ok (.ifCond .ne 10, 3) := dr9 dk9_dX5_worksAlone_0_0.1 4 (36, .ifCond .ne 10, 3) rfl
theorem dX5_worksAlone_46 : decode cX5_worksAlone 46 = .ok (.iconst 1, 1) := dr9 dk9_dX5_worksAlone_0_0.1 5 (46, .iconst 1, 1) rfl
theorem dX5_worksAlone_47 : decode cX5_worksAlone 47 = .ok (.ireturn, 1) := dr9 dk9_dX5_worksAlone_0_0.1 6 (47, .ireturn, 1) rfl
theorem dX5_worksAlone_39 : decode cX5_worksAlone 39 = .ok (.aload_n 0, 1) := dr9 dk9_dX5_worksAlone_0_0.1 7 (39, .aload_n 0, 1) rfl
theorem dX5_worksAlone_40 : decode cX5_worksAlone 40 = .ok (.aload_n 1, 1) := dr9 dk9_dX5_worksAlone_0_0.1 8 (40, .aload_n 1, 1) rfl
theorem dX5_worksAlone_41 : decode cX5_worksAlone 41 = .ok (.invokevirtual 310, 3) := dr9 dk9_dX5_worksAlone_0_0.1 9 (41, .invokevirtual 310, 3) rfl
theorem dX5_worksAlone_44 : decode cX5_worksAlone 44 = .ok (.iconst 0, 1) := dr9 dk9_dX5_worksAlone_0_0.1 10 (44, .iconst 0, 1) rfl
theorem dX5_worksAlone_45 : decode cX5_worksAlone 45 = .ok (.ireturn, 1) := dr9 dk9_dX5_worksAlone_0_0.1 11 (45, .ireturn, 1) rfl
theorem dX5_worksAlone_48 : decode cX5_worksAlone 48 = .ok (.aload_n 0, 1) := dr9 dk9_dX5_worksAlone_0_0.1 12 (48, .aload_n 0, 1) rfl
theorem dX5_worksAlone_49 : decode cX5_worksAlone 49 = .ok (.aload_n 1, 1) := dr9 dk9_dX5_worksAlone_0_0.1 13 (49, .aload_n 1, 1) rfl
theorem dX5_worksAlone_50 : decode cX5_worksAlone 50 = .ok (.getfield 135, 3) := dr9 dk9_dX5_worksAlone_0_0.1 14 (50, .getfield 135, 3) rfl
theorem dX5_worksAlone_53 : decode cX5_worksAlone 53 = .ok (.invokevirtual 338, 3) := dr9 dk9_dX5_worksAlone_0_0.1 15 (53, .invokevirtual 338, 3) rfl
theorem dX5_worksAlone_56 : decode cX5_worksAlone 56 = .ok (.iconst 1, 1) := dr9 dk9_dX5_worksAlone_0_0.1 16 (56, .iconst 1, 1) rfl
theorem dX5_worksAlone_57 : decode cX5_worksAlone 57 = .ok (.ireturn, 1) := dr9 dk9_dX5_worksAlone_0_0.1 17 (57, .ireturn, 1) rfl
theorem dX5_worksAlone_58 : decode cX5_worksAlone 58 = .ok (.aload_n 0, 1) := dr9 dk9_dX5_worksAlone_0_0.1 18 (58, .aload_n 0, 1) rfl
theorem dX5_worksAlone_59 : decode cX5_worksAlone 59 = .ok (.aload_n 0, 1) := dr9 dk9_dX5_worksAlone_0_0.1 19 (59, .aload_n 0, 1) rfl
theorem dX5_worksAlone_60 : decode cX5_worksAlone 60 = .ok (.invokevirtual 330, 3) := dr9 dk9_dX5_worksAlone_0_0.1 20 (60, .invokevirtual 330, 3) rfl
theorem dX5_worksAlone_63 : decode cX5_worksAlone 63 = .ok (.ineg, 1) := dr9 dk9_dX5_worksAlone_0_0.1 21 (63, .ineg, 1) rfl
theorem dX5_worksAlone_64 : decode cX5_worksAlone 64 = .ok (.invokevirtual 338, 3) := dr9 dk9_dX5_worksAlone_0_0.1 22 (64, .invokevirtual 338, 3) rfl
theorem dX5_worksAlone_67 : decode cX5_worksAlone 67 = .ok (.iconst 1, 1) := dr9 dk9_dX5_worksAlone_0_0.1 23 (67, .iconst 1, 1) rfl
theorem dX5_worksAlone_68 : decode cX5_worksAlone 68 = .ok (.ireturn, 1) := dr9 dk9_dX5_worksAlone_0_0.2 0 (68, .ireturn, 1) rfl
theorem dX5_worksAlone_69 : decode cX5_worksAlone 69 = .ok (.aload_n 1, 1) := dr9 dk9_dX5_worksAlone_0_0.2 1 (69, .aload_n 1, 1) rfl
theorem dX5_worksAlone_70 : decode cX5_worksAlone 70 = .ok (.iconst 1, 1) := dr9 dk9_dX5_worksAlone_0_0.2 2 (70, .iconst 1, 1) rfl
theorem dX5_worksAlone_71 : decode cX5_worksAlone 71 = .ok (.putfield 94, 3) := dr9 dk9_dX5_worksAlone_0_0.2 3 (71, .putfield 94, 3) rfl
theorem dX5_worksAlone_74 : decode cX5_worksAlone 74 = .ok (.aload_n 0, 1) := dr9 dk9_dX5_worksAlone_0_0.2 4 (74, .aload_n 0, 1) rfl
theorem dX5_worksAlone_75 : decode cX5_worksAlone 75 = .ok (.aload_n 1, 1) := dr9 dk9_dX5_worksAlone_0_0.2 5 (75, .aload_n 1, 1) rfl
theorem dX5_worksAlone_76 : decode cX5_worksAlone 76 = .ok (.aload_n 1, 1) := dr9 dk9_dX5_worksAlone_0_0.2 6 (76, .aload_n 1, 1) rfl
theorem dX5_worksAlone_77 : decode cX5_worksAlone 77 = .ok (.getfield 109, 3) := dr9 dk9_dX5_worksAlone_0_0.2 7 (77, .getfield 109, 3) rfl
theorem dX5_worksAlone_80 : decode cX5_worksAlone 80 = .ok (.aload_n 0, 1) := dr9 dk9_dX5_worksAlone_0_0.2 8 (80, .aload_n 0, 1) rfl
theorem dX5_worksAlone_81 : decode cX5_worksAlone 81 = .ok (.invokevirtual 330, 3) := dr9 dk9_dX5_worksAlone_0_0.2 9 (81, .invokevirtual 330, 3) rfl
theorem dX5_worksAlone_84 : decode cX5_worksAlone 84 = .ok (.invokevirtual 272, 3) := dr9 dk9_dX5_worksAlone_0_0.2 10 (84, .invokevirtual 272, 3) rfl
theorem dX5_worksAlone_87 : decode cX5_worksAlone 87 = .ok (.iconst 0, 1) := dr9 dk9_dX5_worksAlone_0_0.2 11 (87, .iconst 0, 1) rfl
theorem dX5_worksAlone_88 : decode cX5_worksAlone 88 = .ok (.ireturn, 1) := dr9 dk9_dX5_worksAlone_0_0.2 12 (88, .ireturn, 1) rfl
theorem dX5_worksAlone_89 : decode cX5_worksAlone 89 = .ok (.aload_n 0, 1) := dr9 dk9_dX5_worksAlone_0_0.2 13 (89, .aload_n 0, 1) rfl
theorem dX5_worksAlone_90 : decode cX5_worksAlone 90 = .ok (.aload_n 0, 1) := dr9 dk9_dX5_worksAlone_0_0.2 14 (90, .aload_n 0, 1) rfl
theorem dX5_worksAlone_91 : decode cX5_worksAlone 91 = .ok (.invokevirtual 330, 3) := dr9 dk9_dX5_worksAlone_0_0.2 15 (91, .invokevirtual 330, 3) rfl
theorem dX5_worksAlone_94 : decode cX5_worksAlone 94 = .ok (.invokevirtual 203, 3) := dr9 dk9_dX5_worksAlone_0_0.2 16 (94, .invokevirtual 203, 3) rfl
theorem dX5_worksAlone_97 : decode cX5_worksAlone 97 = .ok (.aload_n 0, 1) := dr9 dk9_dX5_worksAlone_0_0.2 17 (97, .aload_n 0, 1) rfl
theorem dX5_worksAlone_98 : decode cX5_worksAlone 98 = .ok (.aload_n 1, 1) := dr9 dk9_dX5_worksAlone_0_0.2 18 (98, .aload_n 1, 1) rfl
theorem dX5_worksAlone_99 : decode cX5_worksAlone 99 = .ok (.invokevirtual 310, 3) := dr9 dk9_dX5_worksAlone_0_0.2 19 (99, .invokevirtual 310, 3) rfl
theorem dX5_worksAlone_102 : decode cX5_worksAlone 102 = .ok (.iconst 0, 1) := dr9 dk9_dX5_worksAlone_0_0.2 20 (102, .iconst 0, 1) rfl
theorem dX5_worksAlone_103 : decode cX5_worksAlone 103 = .ok (.ireturn, 1) := dr9 dk9_dX5_worksAlone_0_0.2 21 (103, .ireturn, 1) rfl
theorem dk9_dX5_work_0_0 : dOk cX5_work [(0, .iconst 1, 1), (1, .istore_n 2, 1), (2, .iconst 0, 1), (3, .istore_n 3, 1), (4, .iload_n 2, 1), (5, .ifCond .eq 114, 3), (8, .iload_n 3, 1), (9, .aload_n 0, 1), (10, .getfield 24, 3), (13, .getfield 320, 3), (16, .if_icmp .ge 103, 3), (119, .return_, 1), (19, .aload_n 1, 1), (20, .getfield 141, 3), (23, .aload_n 0, 1), (24, .getfield 24, 3), (27, .getfield 320, 3), (30, .if_icmp .ge 89, 3), (33, .aload_n 0, 1), (34, .getfield 24, 3), (37, .getfield 323, 3), (40, .aload_n 1, 1), (41, .getfield 141, 3), (44, .iaload, 1)] = true ∧ dOk cX5_work [(45, .istore 4, 2), (47, .aload_n 1, 1), (48, .dup, 1), (49, .getfield 141, 3), (52, .iconst 1, 1), (53, .iadd, 1), (54, .putfield 141, 3), (57, .iload 4, 2), (59, .bipush 10, 2), (61, .if_icmp .lt 14, 3), (75, .iload 4, 2), (77, .iconst 5, 1), (78, .if_icmp .lt 27, 3), (105, .aload_n 0, 1), (106, .aload_n 1, 1), (107, .iload 4, 2), (109, .invokevirtual 341, 3), (112, .istore_n 2, 1), (113, .iinc 3 1, 3), (116, .goto (-112), 3), (81, .aload_n 0, 1), (82, .invokevirtual 330, 3), (85, .istore 5, 2), (87, .aload_n 0, 1)] = true ∧ dOk cX5_work [(88, .iload 4, 2), (90, .aload_n 0, 1), (91, .invokevirtual 330, 3), (94, .iload 5, 2), (96, .invokestatic 334, 3), (99, .invokevirtual 338, 3), (102, .goto 11, 3), (64, .aload_n 0, 1), (65, .aload_n 1, 1), (66, .iload 4, 2), (68, .invokevirtual 326, 3), (71, .istore_n 2, 1), (72, .goto 41, 3)] = true := by decide +kernel
theorem dX5_work_0 : decode cX5_work 0 = .ok (.iconst 1, 1) := dr9 dk9_dX5_work_0_0.1 0 (0, .iconst 1, 1) rfl
theorem dX5_work_1 : decode cX5_work 1 = .ok (.istore_n 2, 1) := dr9 dk9_dX5_work_0_0.1 1 (1, .istore_n 2, 1) rfl
theorem dX5_work_2 : decode cX5_work 2 = .ok (.iconst 0, 1) := dr9 dk9_dX5_work_0_0.1 2 (2, .iconst 0, 1) rfl
theorem dX5_work_3 : decode cX5_work 3 = .ok (.istore_n 3, 1) := dr9 dk9_dX5_work_0_0.1 3 (3, .istore_n 3, 1) rfl
theorem dX5_work_4 : decode cX5_work 4 = .ok (.iload_n 2, 1) := dr9 dk9_dX5_work_0_0.1 4 (4, .iload_n 2, 1) rfl
theorem dX5_work_5 : decode cX5_work 5 = .ok (.ifCond .eq 114, 3) := dr9 dk9_dX5_work_0_0.1 5 (5, .ifCond .eq 114, 3) rfl
theorem dX5_work_8 : decode cX5_work 8 = .ok (.iload_n 3, 1) := dr9 dk9_dX5_work_0_0.1 6 (8, .iload_n 3, 1) rfl
theorem dX5_work_9 : decode cX5_work 9 = .ok (.aload_n 0, 1) := dr9 dk9_dX5_work_0_0.1 7 (9, .aload_n 0, 1) rfl
theorem dX5_work_10 : decode cX5_work 10 = .ok (.getfield 24, 3) := dr9 dk9_dX5_work_0_0.1 8 (10, .getfield 24, 3) rfl
theorem dX5_work_13 : decode cX5_work 13 = .ok (.getfield 320, 3) := dr9 dk9_dX5_work_0_0.1 9 (13, .getfield 320, 3) rfl
theorem dX5_work_16 : decode cX5_work 16 = .ok (.if_icmp .ge 103, 3) := dr9 dk9_dX5_work_0_0.1 10 (16, .if_icmp .ge 103, 3) rfl
theorem dX5_work_119 : decode cX5_work 119 = .ok (.return_, 1) := dr9 dk9_dX5_work_0_0.1 11 (119, .return_, 1) rfl
theorem dX5_work_19 : decode cX5_work 19 = .ok (.aload_n 1, 1) := dr9 dk9_dX5_work_0_0.1 12 (19, .aload_n 1, 1) rfl
theorem dX5_work_20 : decode cX5_work 20 = .ok (.getfield 141, 3) := dr9 dk9_dX5_work_0_0.1 13 (20, .getfield 141, 3) rfl
theorem dX5_work_23 : decode cX5_work 23 = .ok (.aload_n 0, 1) := dr9 dk9_dX5_work_0_0.1 14 (23, .aload_n 0, 1) rfl
theorem dX5_work_24 : decode cX5_work 24 = .ok (.getfield 24, 3) := dr9 dk9_dX5_work_0_0.1 15 (24, .getfield 24, 3) rfl
theorem dX5_work_27 : decode cX5_work 27 = .ok (.getfield 320, 3) := dr9 dk9_dX5_work_0_0.1 16 (27, .getfield 320, 3) rfl
theorem dX5_work_30 : decode cX5_work 30 = .ok (.if_icmp .ge 89, 3) := dr9 dk9_dX5_work_0_0.1 17 (30, .if_icmp .ge 89, 3) rfl
theorem dX5_work_33 : decode cX5_work 33 = .ok (.aload_n 0, 1) := dr9 dk9_dX5_work_0_0.1 18 (33, .aload_n 0, 1) rfl
theorem dX5_work_34 : decode cX5_work 34 = .ok (.getfield 24, 3) := dr9 dk9_dX5_work_0_0.1 19 (34, .getfield 24, 3) rfl
theorem dX5_work_37 : decode cX5_work 37 = .ok (.getfield 323, 3) := dr9 dk9_dX5_work_0_0.1 20 (37, .getfield 323, 3) rfl
theorem dX5_work_40 : decode cX5_work 40 = .ok (.aload_n 1, 1) := dr9 dk9_dX5_work_0_0.1 21 (40, .aload_n 1, 1) rfl
theorem dX5_work_41 : decode cX5_work 41 = .ok (.getfield 141, 3) := dr9 dk9_dX5_work_0_0.1 22 (41, .getfield 141, 3) rfl
theorem dX5_work_44 : decode cX5_work 44 = .ok (.iaload, 1) := dr9 dk9_dX5_work_0_0.1 23 (44, .iaload, 1) rfl
theorem dX5_work_45 : decode cX5_work 45 = .ok (.istore 4, 2) := dr9 dk9_dX5_work_0_0.2.1 0 (45, .istore 4, 2) rfl
theorem dX5_work_47 : decode cX5_work 47 = .ok (.aload_n 1, 1) := dr9 dk9_dX5_work_0_0.2.1 1 (47, .aload_n 1, 1) rfl
theorem dX5_work_48 : decode cX5_work 48 = .ok (.dup, 1) := dr9 dk9_dX5_work_0_0.2.1 2 (48, .dup, 1) rfl
theorem dX5_work_49 : decode cX5_work 49 = .ok (.getfield 141, 3) := dr9 dk9_dX5_work_0_0.2.1 3 (49, .getfield 141, 3) rfl
theorem dX5_work_52 : decode cX5_work 52 = .ok (.iconst 1, 1) := dr9 dk9_dX5_work_0_0.2.1 4 (52, .iconst 1, 1) rfl
theorem dX5_work_53 : decode cX5_work 53 = .ok (.iadd, 1) := dr9 dk9_dX5_work_0_0.2.1 5 (53, .iadd, 1) rfl
theorem dX5_work_54 : decode cX5_work 54 = .ok (.putfield 141, 3) := dr9 dk9_dX5_work_0_0.2.1 6 (54, .putfield 141, 3) rfl
theorem dX5_work_57 : decode cX5_work 57 = .ok (.iload 4, 2) := dr9 dk9_dX5_work_0_0.2.1 7 (57, .iload 4, 2) rfl
theorem dX5_work_59 : decode cX5_work 59 = .ok (.bipush 10, 2) := dr9 dk9_dX5_work_0_0.2.1 8 (59, .bipush 10, 2) rfl
theorem dX5_work_61 : decode cX5_work 61 = .ok (.if_icmp .lt 14, 3) := dr9 dk9_dX5_work_0_0.2.1 9 (61, .if_icmp .lt 14, 3) rfl
theorem dX5_work_75 : decode cX5_work 75 = .ok (.iload 4, 2) := dr9 dk9_dX5_work_0_0.2.1 10 (75, .iload 4, 2) rfl
theorem dX5_work_77 : decode cX5_work 77 = .ok (.iconst 5, 1) := dr9 dk9_dX5_work_0_0.2.1 11 (77, .iconst 5, 1) rfl
theorem dX5_work_78 : decode cX5_work 78 = .ok (.if_icmp .lt 27, 3) := dr9 dk9_dX5_work_0_0.2.1 12 (78, .if_icmp .lt 27, 3) rfl
theorem dX5_work_105 : decode cX5_work 105 = .ok (.aload_n 0, 1) := dr9 dk9_dX5_work_0_0.2.1 13 (105, .aload_n 0, 1) rfl
theorem dX5_work_106 : decode cX5_work 106 = .ok (.aload_n 1, 1) := dr9 dk9_dX5_work_0_0.2.1 14 (106, .aload_n 1, 1) rfl
theorem dX5_work_107 : decode cX5_work 107 = .ok (.iload 4, 2) := dr9 dk9_dX5_work_0_0.2.1 15 (107, .iload 4, 2) rfl
theorem dX5_work_109 : decode cX5_work 109 = .ok (.invokevirtual 341, 3) := dr9 dk9_dX5_work_0_0.2.1 16 (109, .invokevirtual 341, 3) rfl
theorem dX5_work_112 : decode cX5_work 112 = .ok (.istore_n 2, 1) := dr9 dk9_dX5_work_0_0.2.1 17 (112, .istore_n 2, 1) rfl
theorem dX5_work_113 : decode cX5_work 113 = .ok (.iinc 3 1, 3) := dr9 dk9_dX5_work_0_0.2.1 18 (113, .iinc 3 1, 3) rfl
theorem dX5_work_116 : decode cX5_work 116 = .ok (.goto (-112), 3) := dr9 dk9_dX5_work_0_0.2.1 19 (116, .goto (-112), 3) rfl
theorem dX5_work_81 : decode cX5_work 81 = .ok (.aload_n 0, 1) := dr9 dk9_dX5_work_0_0.2.1 20 (81, .aload_n 0, 1) rfl
theorem dX5_work_82 : decode cX5_work 82 = .ok (.invokevirtual 330, 3) := dr9 dk9_dX5_work_0_0.2.1 21 (82, .invokevirtual 330, 3) rfl
theorem dX5_work_85 : decode cX5_work 85 = .ok (.istore 5, 2) := dr9 dk9_dX5_work_0_0.2.1 22 (85, .istore 5, 2) rfl
theorem dX5_work_87 : decode cX5_work 87 = .ok (.aload_n 0, 1) := dr9 dk9_dX5_work_0_0.2.1 23 (87, .aload_n 0, 1) rfl
theorem dX5_work_88 : decode cX5_work 88 = .ok (.iload 4, 2) := dr9 dk9_dX5_work_0_0.2.2 0 (88, .iload 4, 2) rfl
theorem dX5_work_90 : decode cX5_work 90 = .ok (.aload_n 0, 1) := dr9 dk9_dX5_work_0_0.2.2 1 (90, .aload_n 0, 1) rfl
theorem dX5_work_91 : decode cX5_work 91 = .ok (.invokevirtual 330, 3) := dr9 dk9_dX5_work_0_0.2.2 2 (91, .invokevirtual 330, 3) rfl
theorem dX5_work_94 : decode cX5_work 94 = .ok (.iload 5, 2) := dr9 dk9_dX5_work_0_0.2.2 3 (94, .iload 5, 2) rfl
theorem dX5_work_96 : decode cX5_work 96 = .ok (.invokestatic 334, 3) := dr9 dk9_dX5_work_0_0.2.2 4 (96, .invokestatic 334, 3) rfl
theorem dX5_work_99 : decode cX5_work 99 = .ok (.invokevirtual 338, 3) := dr9 dk9_dX5_work_0_0.2.2 5 (99, .invokevirtual 338, 3) rfl
theorem dX5_work_102 : decode cX5_work 102 = .ok (.goto 11, 3) := dr9 dk9_dX5_work_0_0.2.2 6 (102, .goto 11, 3) rfl
theorem dX5_work_64 : decode cX5_work 64 = .ok (.aload_n 0, 1) := dr9 dk9_dX5_work_0_0.2.2 7 (64, .aload_n 0, 1) rfl
theorem dX5_work_65 : decode cX5_work 65 = .ok (.aload_n 1, 1) := dr9 dk9_dX5_work_0_0.2.2 8 (65, .aload_n 1, 1) rfl
theorem dX5_work_66 : decode cX5_work 66 = .ok (.iload 4, 2) := dr9 dk9_dX5_work_0_0.2.2 9 (66, .iload 4, 2) rfl
theorem dX5_work_68 : decode cX5_work 68 = .ok (.invokevirtual 326, 3) := dr9 dk9_dX5_work_0_0.2.2 10 (68, .invokevirtual 326, 3) rfl
theorem dX5_work_71 : decode cX5_work 71 = .ok (.istore_n 2, 1) := dr9 dk9_dX5_work_0_0.2.2 11 (71, .istore_n 2, 1) rfl
theorem dX5_work_72 : decode cX5_work 72 = .ok (.goto 41, 3) := dr9 dk9_dX5_work_0_0.2.2 12 (72, .goto 41, 3) rfl
abbrev r_x_worksAlone (Z : XZ) : Room := { frames := 4, cells := zcc Z, slots := zss Z, locals := 90 }
abbrev q_x_worksAlone (D : va_G) (ks : KS) (ad : Nat → Nat) (kk : Nat → ClassId) (V : Vf) (L : Lf) (Z : XZ) (p1 : Int32) (b : Nat) (gf : Nat) (A : Nat → Prop) : Array Value → State → Outcome → State → Prop := qZi D (fun (r : Int32) (u : Vf × Lf × XZ) => rgd bX u.1 ∧ agr [(5, 6), (5, 7), (5, 9), (5, 10), (5, 13), (5, 14)] [39, 67, 68, 69, 70, 71, 72, 73, 74, 75, 76, 77, 78, 79, 80, 81, 82, 83, 84, 85] V u.1 ∧ u.2.1 = L ∧ ZL Z u.2.2 ∧ (0 ≤ r.toInt ∧ r.toInt ≤ 1) ∧ (Imp (r.toInt = 1) (MO u.1 u.2.2 b gf True True True)) ∧ (Imp (r.toInt = 0) (MJ u.1 u.2.2 b)) ∧ (Imp (r.toInt = 1) ((u.1 5 6).toInt = (V 5 6).toInt ∧ (u.1 67 gf).toInt = 4 ∧ (u.1 68 gf).toInt = 0)) ∧ (Imp (r.toInt = 1) (u.2.2 = Z))) (fun u => xw ad kk u.1 u.2.1 u.2.2) (fun u => xty kk u.2.2) (fun u => zcc Z - zcc u.2.2) (fun u => zss Z - zss u.2.2) A
set_option maxHeartbeats 4000000 in
set_option maxRecDepth 100000 in
theorem x_worksAlone (l : Launch) (D : va_G) (ks : KS) (sz : Nat) (ad : Nat → Nat) (kk : Nat → ClassId) (V : Vf) (L : Lf) (Z : XZ) (p1 : Int32) (b : Nat) (gf : Nat) (hMV : rgd bX V) (hb2 : b < 2) (hgf : gf < Z.nf) (mo : MO V Z b gf True True True) (gd : (gf : Int) + 1 = (V 5 6).toInt) (gk : (V 67 gf).toInt = 4) (gph : (V 68 gf).toInt = 0)  : Met l yX5_worksAlone (Cond.code yX5_worksAlone cX5_worksAlone 3 (some .boolean) :: GW) (r_x_worksAlone Z) (va_Pc [.ref (ad 5), .ref (Z.fa gf), .int p1] (gp D ks (xw ad kk V L Z) (xty kk Z) sz)) (q_x_worksAlone D ks ad kk V L Z p1 b gf (va_A (xw ad kk V L Z) sz)) (zcc Z) (zss Z) (va_A (xw ad kk V L Z) sz) := by
  refine g_met (q_x_worksAlone D ks ad kk V L Z p1 b gf) (by decide) (Nat.le_of_ble_eq_true rfl) ?_
  intro p e s m below meth c A ls H locs hx hb hr hml hown hg hlocks hin hnw hgk hP hK hD hS hA hl
  have hown : s.vm.findClass RX5 = some m.cls := hown
  have hl : lv_has ls 3 [(0, .ref (ad 5)), (1, .ref (Z.fa gf)), (2, .int p1)] := hl
  have hP : va_P D vwCl (xw ad kk V L Z) H := hP
  have hD : va_D A (xw ad kk V L Z) := hD
  have hK : va_K D vwCl (xty kk Z) s := hK
  have agV : agr [(5, 6), (5, 7), (5, 9), (5, 10), (5, 13), (5, 14)] [39, 67, 68, 69, 70, 71, 72, 73, 74, 75, 76, 77, 78, 79, 80, 81, 82, 83, 84, 85] V V := agr.rf
  have zoZ : ZL Z Z := ZL.rf
  refine W.know (fun ka kb => ?_)
  refine W.tight (k := zcc Z - zcc Z) (n := zss Z - zss Z) (by omega) (by omega) ?_
  have r1 : 0 ≤ ((V 5 6)).toInt ∧ ((V 5 6)).toInt ≤ 400 := hMV 5 6
  have kdp := i_clamp (x := V 5 6) rfl (by (first | exact om_c66f1b494bd9 gd | omega))
  have hdn : (gf : Int) + 1 ≤ (Z.nf : Int) := by (first | exact om_29efded833ec hgf | omega)
  have mup := MO.up mo
  have msz := mup.1
  have mbk := mup.2.2.2.1
  obtain ⟨xk, fk⟩ := MO.fk mo
  have r2 : (-1) ≤ ((V 71 gf)).toInt ∧ ((V 71 gf)).toInt ≤ 23 := hMV 71 gf
  have r3 : 0 ≤ ((V 75 gf)).toInt ∧ ((V 75 gf)).toInt ≤ 12 := hMV 75 gf
  have r4 : 0 ≤ ((V 80 gf)).toInt ∧ ((V 80 gf)).toInt ≤ 300 := hMV 80 gf
  have r5 : 0 ≤ ((V 84 gf)).toInt ∧ ((V 84 gf)).toInt ≤ 2147483647 := hMV 84 gf
  have r6 : 0 ≤ ((V 5 8)).toInt ∧ ((V 5 8)).toInt ≤ 300 := hMV 5 8
  have r7 : 0 ≤ ((V 5 9)).toInt ∧ ((V 5 9)).toInt ≤ 3 := hMV 5 9
  have r8 : 0 ≤ ((V 3 13)).toInt ∧ ((V 3 13)).toInt ≤ 300 := hMV 3 13
  have r9 : 0 ≤ ((V 43 (5 * b + 2))).toInt ∧ ((V 43 (5 * b + 2))).toInt ≤ ((xcap (5 * b + 2) : Nat) : Int) := hMV 43 (5 * b + 2)
  have r10 : xcap (5 * b + 2) = 24 := xcap_2
  have r11 : 0 ≤ ((V 41 b)).toInt ∧ ((V 41 b)).toInt ≤ 12 := hMV 41 b
  have r12 : 0 ≤ ((V 42 b)).toInt ∧ ((V 42 b)).toInt ≤ 8200 := hMV 42 b
  have fc := fk.1 (by omega)
  have fo := fk.2.1 (by omega) (by omega)
  have ft := fk.2.2.1 (by omega)
  have fq := fk.2.2.2.1 (by omega)
  refine lv_iload_n hx hb dX5_worksAlone_0 rfl (lv_at hl 2 rfl) ?_
  by_cases q13 : p1 = 1
  · refine g_top (v := 1) q13 ?_
    have fq13 : p1.toInt = 1 := b_eq rfl (by decide) q13
    refine lv_tableIn (x := 1) (off := 31) (tgt := 32) hx hb dX5_worksAlone_1 (by decide) (by decide) (by decide) (by decide) ?_
    refine lv_aload_n hx hb dX5_worksAlone_32 rfl (lv_at hl 0 rfl) ?_
    refine gA_int (gA_runV (As := []) (rest := []) (ci := 5) (q0 := 5) hx hb hml hown hg hP hD hK hS hA hnw hgk (x_takesStep l D ks H.size ad kk V L Z  hMV ) w1281 w1283 w48 w171 w1284 rfl xgMachine hdV_yX5_takesStep ⟨Nat.le_of_ble_eq_true rfl, Nat.le_of_ble_eq_true rfl⟩ rfl hl.1 rfl (Nat.le_of_ble_eq_true rfl) dX5_worksAlone_33 ⟨z0, z0⟩) hP hD hK hS hA (fun z14 u15 H locs w16 hP hD hK hS => ?_)
    obtain ⟨V19, L20⟩ := u15
    obtain ⟨hMV19, ajV19, axL20, rgz14, t17, t18⟩ := w16
    have axL20 : L = L20 := Eq.symm axL20
    subst axL20
    have hP : va_P D vwCl (xw ad kk V19 L Z) H := hP
    have hD : va_D A (xw ad kk V19 L Z) := hD
    have hMV19 : rgd bX V19 := hMV19
    have ajV19 : agr [(5, 9), (5, 13), (5, 14)] [] V V19 := ajV19
    have agV19 : agr [(5, 6), (5, 7), (5, 9), (5, 10), (5, 13), (5, 14)] [39, 67, 68, 69, 70, 71, 72, 73, 74, 75, 76, 77, 78, 79, 80, 81, 82, 83, 84, 85] V V19 := agV.tr ajV19 (by decide) (by decide)
    have rgz14 : 0 ≤ z14.toInt ∧ z14.toInt ≤ 1 := rgz14
    have t17 : Imp (z14.toInt = 0) ((V19 5 9).toInt = 3) := t17
    have t18 : Imp (z14.toInt = 1) ((V19 5 9).toInt = (V 5 9).toInt) := t18
    have r21 : 0 ≤ ((V19 5 9)).toInt ∧ ((V19 5 9)).toInt ≤ 3 := hMV19 5 9
    refine lv_if_ne (tgt := 46) hx hb dX5_worksAlone_36 (by decide) (fun c22 => ?_) (fun c22 => ?_)
    · skip
      have f23 : z14.toInt ≠ 0 := b_neq rfl (by decide) c22
      refine lv_iconst (v := 1) hx hb dX5_worksAlone_46 (by decide) ?_
      have pq24 : (V19 5 6).toInt = ((V 5 6)).toInt := congrArg Int32.toInt (ajV19 5 6 rfl)
      have pq25 : (V19 67 gf).toInt = ((V 67 gf)).toInt := congrArg Int32.toInt (ajV19 67 gf rfl)
      have pq26 : (V19 68 gf).toInt = ((V 68 gf)).toInt := congrArg Int32.toInt (ajV19 68 gf rfl)
      have me27 : ME V V19 gf := (ME.tr ME.rf (ME.ag ajV19 (by decide)))
      have pq28 : (V19 70 gf).toInt = ((V 70 gf)).toInt := congrArg Int32.toInt (ajV19 70 gf rfl)
      have pq29 : (V19 71 gf).toInt = ((V 71 gf)).toInt := congrArg Int32.toInt (ajV19 71 gf rfl)
      have pq30 : (V19 75 gf).toInt = ((V 75 gf)).toInt := congrArg Int32.toInt (ajV19 75 gf rfl)
      have pq31 : (V19 76 gf).toInt = ((V 76 gf)).toInt := congrArg Int32.toInt (ajV19 76 gf rfl)
      have pq32 : (V19 80 gf).toInt = ((V 80 gf)).toInt := congrArg Int32.toInt (ajV19 80 gf rfl)
      have pq33 : (V19 84 gf).toInt = ((V 84 gf)).toInt := congrArg Int32.toInt (ajV19 84 gf rfl)
      have pq34 : (V19 5 8).toInt = ((V 5 8)).toInt := congrArg Int32.toInt (ajV19 5 8 rfl)
      have pq35 : (V19 3 13).toInt = ((V 3 13)).toInt := congrArg Int32.toInt (ajV19 3 13 rfl)
      have pq36 : (V19 43 (5 * b + 2)).toInt = ((V 43 (5 * b + 2))).toInt := congrArg Int32.toInt (ajV19 43 (5 * b + 2) rfl)
      have pq37 : (V19 42 b).toInt = ((V 42 b)).toInt := congrArg Int32.toInt (ajV19 42 b rfl)
      have pq38 : (V19 41 b).toInt = ((V 41 b)).toInt := congrArg Int32.toInt (ajV19 41 b rfl)
      have af40 : (V19 42 b).toInt ≤ (V19 84 gf).toInt ∨ (bdp V19 b (V19 84 gf).toInt.toNat).1 = true := by rw [(ajV19 84 gf rfl), me27.1.bd, me27.1 42 b (by decide) (by decide)]; exact ft
      have mo39 : MO V19 Z b gf True True True := MO.ch mo me27 (ajV19 67 gf rfl) (ajV19 80 gf rfl) (fun _ => Or.inl (by omega)) (fun x h => FK.k4 (by first | omega | ((try (have i_t18 := Imp.go t18 (by omega))); (try (have i_t17 := Imp.go t17 (by omega))); (try (have i_t17 := Imp.go t17 (by omega))); (try (have i_t18 := Imp.go t18 (by omega))); omega)) (by first | omega | ((try (have i_t18 := Imp.go t18 (by omega))); (try (have i_t17 := Imp.go t17 (by omega))); (try (have i_t17 := Imp.go t17 (by omega))); (try (have i_t18 := Imp.go t18 (by omega))); omega)) (by first | omega | ((try (have i_t18 := Imp.go t18 (by omega))); (try (have i_t17 := Imp.go t17 (by omega))); (try (have i_t17 := Imp.go t17 (by omega))); (try (have i_t18 := Imp.go t18 (by omega))); omega)) af40 (by first | omega | ((try (have i_t18 := Imp.go t18 (by omega))); (try (have i_t17 := Imp.go t17 (by omega))); (try (have i_t17 := Imp.go t17 (by omega))); (try (have i_t18 := Imp.go t18 (by omega))); omega)) (fun hph => absurd hph (by omega)))
      refine W.know (fun kr1 kr2 => ?_)
      refine W.widen (k := zcc Z) (n := zss Z) (Nat.sub_le _ _) (Nat.sub_le _ _) ?_
      exact W.zret (v := 1) hx hb hr rfl (fun t ht hW => ⟨⟨1, (V19, L, Z), rfl, ⟨hMV19, agV19, rfl, zoZ, (by decide), (Imp.mk (fun _ => mo39)), (Imp.mk (fun hp => absurd hp (by decide))), (Imp.mk (fun _ => (show (V19 5 6).toInt = (V 5 6).toInt ∧ (V19 67 gf).toInt = 4 ∧ (V19 68 gf).toInt = 0 from by first | exact om_a46bf36ddf1a gk gph pq24 pq25 pq26 | first | omega | ((try (have i_t18 := Imp.go t18 (by omega))); (try (have i_t17 := Imp.go t17 (by omega))); (try (have i_t17 := Imp.go t17 (by omega))); (try (have i_t18 := Imp.go t18 (by omega))); omega)))), (Imp.mk (fun _ => rfl))⟩, ⟨by rw [ht]; exact hP, va_K.moved hW.alike hK, hD⟩, by rw [ht]; exact kr1, by rw [ht]; exact kr2⟩, hS.F ht⟩) hS.2.2 dX5_worksAlone_47
    · skip
      have f41 : z14.toInt = 0 := b_eq rfl (by decide) c22
      refine lv_aload_n hx hb dX5_worksAlone_39 rfl (lv_at hl 0 rfl) ?_
      refine lv_aload_n hx hb dX5_worksAlone_40 rfl (lv_at hl 1 rfl) ?_
      have pq42 : (V19 5 6).toInt = ((V 5 6)).toInt := congrArg Int32.toInt (ajV19 5 6 rfl)
      have pq43 : (V19 67 gf).toInt = ((V 67 gf)).toInt := congrArg Int32.toInt (ajV19 67 gf rfl)
      have me44 : ME V V19 gf := (ME.tr ME.rf (ME.ag ajV19 (by decide)))
      have pq45 : (V19 68 gf).toInt = ((V 68 gf)).toInt := congrArg Int32.toInt (ajV19 68 gf rfl)
      have pq46 : (V19 70 gf).toInt = ((V 70 gf)).toInt := congrArg Int32.toInt (ajV19 70 gf rfl)
      have pq47 : (V19 71 gf).toInt = ((V 71 gf)).toInt := congrArg Int32.toInt (ajV19 71 gf rfl)
      have pq48 : (V19 75 gf).toInt = ((V 75 gf)).toInt := congrArg Int32.toInt (ajV19 75 gf rfl)
      have pq49 : (V19 76 gf).toInt = ((V 76 gf)).toInt := congrArg Int32.toInt (ajV19 76 gf rfl)
      have pq50 : (V19 80 gf).toInt = ((V 80 gf)).toInt := congrArg Int32.toInt (ajV19 80 gf rfl)
      have pq51 : (V19 84 gf).toInt = ((V 84 gf)).toInt := congrArg Int32.toInt (ajV19 84 gf rfl)
      have pq52 : (V19 5 8).toInt = ((V 5 8)).toInt := congrArg Int32.toInt (ajV19 5 8 rfl)
      have pq53 : (V19 3 13).toInt = ((V 3 13)).toInt := congrArg Int32.toInt (ajV19 3 13 rfl)
      have pq54 : (V19 43 (5 * b + 2)).toInt = ((V 43 (5 * b + 2))).toInt := congrArg Int32.toInt (ajV19 43 (5 * b + 2) rfl)
      have pq55 : (V19 42 b).toInt = ((V 42 b)).toInt := congrArg Int32.toInt (ajV19 42 b rfl)
      have pq56 : (V19 41 b).toInt = ((V 41 b)).toInt := congrArg Int32.toInt (ajV19 41 b rfl)
      have af58 : (V19 42 b).toInt ≤ (V19 84 gf).toInt ∨ (bdp V19 b (V19 84 gf).toInt.toNat).1 = true := by rw [(ajV19 84 gf rfl), me44.1.bd, me44.1 42 b (by decide) (by decide)]; exact ft
      have mo57 : MO V19 Z b gf True False True := MO.ch mo me44 (ajV19 67 gf rfl) (ajV19 80 gf rfl) (fun _ => Or.inl (by omega)) (fun x h => FK.k4 (by first | omega | ((try (have i_t18 := Imp.go t18 (by omega))); (try (have i_t17 := Imp.go t17 (by omega))); (try (have i_t17 := Imp.go t17 (by omega))); (try (have i_t18 := Imp.go t18 (by omega))); omega)) (by first | omega | ((try (have i_t18 := Imp.go t18 (by omega))); (try (have i_t17 := Imp.go t17 (by omega))); (try (have i_t17 := Imp.go t17 (by omega))); (try (have i_t18 := Imp.go t18 (by omega))); omega)) (by first | omega | ((try (have i_t18 := Imp.go t18 (by omega))); (try (have i_t17 := Imp.go t17 (by omega))); (try (have i_t17 := Imp.go t17 (by omega))); (try (have i_t18 := Imp.go t18 (by omega))); omega)) af58 (by first | omega | ((try (have i_t18 := Imp.go t18 (by omega))); (try (have i_t17 := Imp.go t17 (by omega))); (try (have i_t17 := Imp.go t17 (by omega))); (try (have i_t18 := Imp.go t18 (by omega))); omega)) (fun _ z => z.elim))
      refine gA_void (gA_runV (As := [.ref (Z.fa gf)]) (rest := []) (ci := 5) (q0 := 5) hx hb hml hown hg hP hD hK hS hA hnw hgk (x_endWork2 l D ks H.size ad kk V19 L Z (b) (gf) hMV19 (show b < 2 from by first | exact om_f940a4667dd6 hb2 | first | omega | ((try (have i_t18 := Imp.go t18 (by omega))); (try (have i_t17 := Imp.go t17 (by omega))); (try (have i_t17 := Imp.go t17 (by omega))); (try (have i_t18 := Imp.go t18 (by omega))); omega)) (show gf < Z.nf from by first | exact om_8c5722e49bb1 hgf | first | omega | ((try (have i_t18 := Imp.go t18 (by omega))); (try (have i_t17 := Imp.go t17 (by omega))); (try (have i_t17 := Imp.go t17 (by omega))); (try (have i_t18 := Imp.go t18 (by omega))); omega)) mo57 (show (gf : Int) + 1 = (V19 5 6).toInt from by first | exact om_6e5bbaaa0e03 gd pq42 | first | omega | ((try (have i_t18 := Imp.go t18 (by omega))); (try (have i_t17 := Imp.go t17 (by omega))); (try (have i_t17 := Imp.go t17 (by omega))); (try (have i_t18 := Imp.go t18 (by omega))); omega)) (show (V19 67 gf).toInt = 4 from by first | exact om_ac6651f4ff0c gk pq43 | first | omega | ((try (have i_t18 := Imp.go t18 (by omega))); (try (have i_t17 := Imp.go t17 (by omega))); (try (have i_t17 := Imp.go t17 (by omega))); (try (have i_t18 := Imp.go t18 (by omega))); omega))) w1458 w1460 w70 w171 w1461 rfl xgMachine hdV_yX5_endWork ⟨Nat.le_of_ble_eq_true rfl, Nat.le_of_ble_eq_true rfl⟩ rfl hl.1 rfl (Nat.le_of_ble_eq_true rfl) dX5_worksAlone_41 ⟨z0, z0⟩) hP hD hK hS hA (fun u60 H locs w61 hP hD hK hS => ?_)
      obtain ⟨V63, L64⟩ := u60
      obtain ⟨hMV63, ajV63, axL64, t62⟩ := w61
      have axL64 : L = L64 := Eq.symm axL64
      subst axL64
      have hP : va_P D vwCl (xw ad kk V63 L Z) H := hP
      have hD : va_D A (xw ad kk V63 L Z) := hD
      have hMV63 : rgd bX V63 := hMV63
      have ajV63 : agr [(5, 6), (5, 7)] [] V19 V63 := ajV63
      have agV63 : agr [(5, 6), (5, 7), (5, 9), (5, 10), (5, 13), (5, 14)] [39, 67, 68, 69, 70, 71, 72, 73, 74, 75, 76, 77, 78, 79, 80, 81, 82, 83, 84, 85] V V63 := agV19.tr ajV63 (by decide) (by decide)
      have t62 : MJ V63 Z b := t62
      refine lv_iconst (v := 0) hx hb dX5_worksAlone_44 (by decide) ?_
      have r65 : 0 ≤ ((V63 5 6)).toInt ∧ ((V63 5 6)).toInt ≤ 400 := hMV63 5 6
      have pq66 : (V63 67 gf).toInt = ((V 67 gf)).toInt := congrArg Int32.toInt ((ajV63 67 gf rfl).trans (ajV19 67 gf rfl))
      have pq67 : (V63 68 gf).toInt = ((V 68 gf)).toInt := congrArg Int32.toInt ((ajV63 68 gf rfl).trans (ajV19 68 gf rfl))
      refine W.know (fun kr1 kr2 => ?_)
      refine W.widen (k := zcc Z) (n := zss Z) (Nat.sub_le _ _) (Nat.sub_le _ _) ?_
      exact W.zret (v := 0) hx hb hr rfl (fun t ht hW => ⟨⟨0, (V63, L, Z), rfl, ⟨hMV63, agV63, rfl, zoZ, (by decide), (Imp.mk (fun hp => absurd hp (by decide))), (Imp.mk (fun _ => t62)), (Imp.mk (fun hp => absurd hp (by decide))), (Imp.mk (fun hp => absurd hp (by decide)))⟩, ⟨by rw [ht]; exact hP, va_K.moved hW.alike hK, hD⟩, by rw [ht]; exact kr1, by rw [ht]; exact kr2⟩, hS.F ht⟩) hS.2.2 dX5_worksAlone_45
  have gq13 : p1.toInt ≠ 1 := b_neq rfl (by decide) q13
  by_cases q68 : p1 = 2
  · refine g_top (v := 2) q68 ?_
    have fq68 : p1.toInt = 2 := b_eq rfl (by decide) q68
    refine lv_tableIn (x := 2) (off := 47) (tgt := 48) hx hb dX5_worksAlone_1 (by decide) (by decide) (by decide) (by decide) ?_
    refine lv_aload_n hx hb dX5_worksAlone_48 rfl (lv_at hl 0 rfl) ?_
    refine lv_aload_n hx hb dX5_worksAlone_49 rfl (lv_at hl 1 rfl) ?_
    refine va_getN (D := D) (ci := 4) (v := .int (V 74 gf)) (fs := (xfFrame V gf)) (C := RX4) (T := TX4) (N := 19) hx hb hg inX4 hown hK hP (336 + gf) (xgFrame hgf) rfl 7 (by decide) (hnw.use 1196 n1196 rfl) (fun _ h9 => h9) rfl dX5_worksAlone_50 ?_
    refine gA_void (gA_runV (As := [.int (V 74 gf)]) (rest := []) (ci := 5) (q0 := 5) hx hb hml hown hg hP hD hK hS hA hnw hgk (x_mput l D ks H.size ad kk V L Z (V 74 gf) hMV ) w1466 w1468 w72 w171 w1469 rfl xgMachine hdV_yX5_put ⟨Nat.le_of_ble_eq_true rfl, Nat.le_of_ble_eq_true rfl⟩ rfl hl.1 rfl (Nat.le_of_ble_eq_true rfl) dX5_worksAlone_53 ⟨z0, z0⟩) hP hD hK hS hA (fun u70 H locs w71 hP hD hK hS => ?_)
    obtain ⟨V72, L73⟩ := u70
    obtain ⟨hMV72, ajV72, axL73⟩ := w71
    have axL73 : L = L73 := Eq.symm axL73
    subst axL73
    have hP : va_P D vwCl (xw ad kk V72 L Z) H := hP
    have hD : va_D A (xw ad kk V72 L Z) := hD
    have hMV72 : rgd bX V72 := hMV72
    have ajV72 : agr [(5, 7)] [39] V V72 := ajV72
    have agV72 : agr [(5, 6), (5, 7), (5, 9), (5, 10), (5, 13), (5, 14)] [39, 67, 68, 69, 70, 71, 72, 73, 74, 75, 76, 77, 78, 79, 80, 81, 82, 83, 84, 85] V V72 := agV.tr ajV72 (by decide) (by decide)
    refine lv_iconst (v := 1) hx hb dX5_worksAlone_56 (by decide) ?_
    have pq74 : (V72 5 6).toInt = ((V 5 6)).toInt := congrArg Int32.toInt (ajV72 5 6 rfl)
    have pq75 : (V72 67 gf).toInt = ((V 67 gf)).toInt := congrArg Int32.toInt (ajV72 67 gf rfl)
    have pq76 : (V72 68 gf).toInt = ((V 68 gf)).toInt := congrArg Int32.toInt (ajV72 68 gf rfl)
    have me77 : ME V V72 gf := (ME.tr ME.rf (ME.ag ajV72 (by decide)))
    have pq78 : (V72 70 gf).toInt = ((V 70 gf)).toInt := congrArg Int32.toInt (ajV72 70 gf rfl)
    have pq79 : (V72 71 gf).toInt = ((V 71 gf)).toInt := congrArg Int32.toInt (ajV72 71 gf rfl)
    have pq80 : (V72 75 gf).toInt = ((V 75 gf)).toInt := congrArg Int32.toInt (ajV72 75 gf rfl)
    have pq81 : (V72 76 gf).toInt = ((V 76 gf)).toInt := congrArg Int32.toInt (ajV72 76 gf rfl)
    have pq82 : (V72 80 gf).toInt = ((V 80 gf)).toInt := congrArg Int32.toInt (ajV72 80 gf rfl)
    have pq83 : (V72 84 gf).toInt = ((V 84 gf)).toInt := congrArg Int32.toInt (ajV72 84 gf rfl)
    have pq84 : (V72 5 8).toInt = ((V 5 8)).toInt := congrArg Int32.toInt (ajV72 5 8 rfl)
    have pq85 : (V72 5 9).toInt = ((V 5 9)).toInt := congrArg Int32.toInt (ajV72 5 9 rfl)
    have pq86 : (V72 3 13).toInt = ((V 3 13)).toInt := congrArg Int32.toInt (ajV72 3 13 rfl)
    have pq87 : (V72 43 (5 * b + 2)).toInt = ((V 43 (5 * b + 2))).toInt := congrArg Int32.toInt (ajV72 43 (5 * b + 2) rfl)
    have pq88 : (V72 42 b).toInt = ((V 42 b)).toInt := congrArg Int32.toInt (ajV72 42 b rfl)
    have pq89 : (V72 41 b).toInt = ((V 41 b)).toInt := congrArg Int32.toInt (ajV72 41 b rfl)
    have af91 : (V72 42 b).toInt ≤ (V72 84 gf).toInt ∨ (bdp V72 b (V72 84 gf).toInt.toNat).1 = true := by rw [(ajV72 84 gf rfl), me77.1.bd, me77.1 42 b (by decide) (by decide)]; exact ft
    have mo90 : MO V72 Z b gf True True True := MO.ch mo me77 (ajV72 67 gf rfl) (ajV72 80 gf rfl) (fun _ => Or.inl (by omega)) (fun x h => FK.k4 (by omega) (by omega) (by omega) af91 (by omega) (fun hph => absurd hph (by omega)))
    refine W.know (fun kr1 kr2 => ?_)
    refine W.widen (k := zcc Z) (n := zss Z) (Nat.sub_le _ _) (Nat.sub_le _ _) ?_
    exact W.zret (v := 1) hx hb hr rfl (fun t ht hW => ⟨⟨1, (V72, L, Z), rfl, ⟨hMV72, agV72, rfl, zoZ, (by decide), (Imp.mk (fun _ => mo90)), (Imp.mk (fun hp => absurd hp (by decide))), (Imp.mk (fun _ => (show (V72 5 6).toInt = (V 5 6).toInt ∧ (V72 67 gf).toInt = 4 ∧ (V72 68 gf).toInt = 0 from by (first | exact om_a46bf36ddf1a gk gph pq74 pq75 pq76 | omega)))), (Imp.mk (fun _ => rfl))⟩, ⟨by rw [ht]; exact hP, va_K.moved hW.alike hK, hD⟩, by rw [ht]; exact kr1, by rw [ht]; exact kr2⟩, hS.F ht⟩) hS.2.2 dX5_worksAlone_57
  have gq68 : p1.toInt ≠ 2 := b_neq rfl (by decide) q68
  by_cases q92 : p1 = 3
  · refine g_top (v := 3) q92 ?_
    have fq92 : p1.toInt = 3 := b_eq rfl (by decide) q92
    refine lv_tableIn (x := 3) (off := 57) (tgt := 58) hx hb dX5_worksAlone_1 (by decide) (by decide) (by decide) (by decide) ?_
    refine lv_aload_n hx hb dX5_worksAlone_58 rfl (lv_at hl 0 rfl) ?_
    refine lv_aload_n hx hb dX5_worksAlone_59 rfl (lv_at hl 0 rfl) ?_
    refine gA_int (gA_runV (As := []) (rest := [.ref (ad 5)]) (ci := 5) (q0 := 5) hx hb hml hown hg hP hD hK hS hA hnw hgk (x_mpull l D ks H.size ad kk V L Z  hMV ) w1482 w1484 w76 w171 w1485 rfl xgMachine hdV_yX5_pull ⟨Nat.le_of_ble_eq_true rfl, Nat.le_of_ble_eq_true rfl⟩ rfl hl.1 rfl (Nat.le_of_ble_eq_true rfl) dX5_worksAlone_60 ⟨z0, z0⟩) hP hD hK hS hA (fun z93 u94 H locs w95 hP hD hK hS => ?_)
    obtain ⟨V96, L97⟩ := u94
    obtain ⟨hMV96, ajV96, axL97⟩ := w95
    have axL97 : L = L97 := Eq.symm axL97
    subst axL97
    have hP : va_P D vwCl (xw ad kk V96 L Z) H := hP
    have hD : va_D A (xw ad kk V96 L Z) := hD
    have hMV96 : rgd bX V96 := hMV96
    have ajV96 : agr [(5, 7)] [] V V96 := ajV96
    have agV96 : agr [(5, 6), (5, 7), (5, 9), (5, 10), (5, 13), (5, 14)] [39, 67, 68, 69, 70, 71, 72, 73, 74, 75, 76, 77, 78, 79, 80, 81, 82, 83, 84, 85] V V96 := agV.tr ajV96 (by decide) (by decide)
    refine lv_ineg hx hb dX5_worksAlone_63 ?_
    refine lv_topi (fun z98 ez98 => ?_)
    refine gA_void (gA_runV (As := [.int z98]) (rest := []) (ci := 5) (q0 := 5) hx hb hml hown hg hP hD hK hS hA hnw hgk (x_mput l D ks H.size ad kk V96 L Z z98 hMV96 ) w1466 w1468 w72 w171 w1469 rfl xgMachine hdV_yX5_put ⟨Nat.le_of_ble_eq_true rfl, Nat.le_of_ble_eq_true rfl⟩ rfl hl.1 rfl (Nat.le_of_ble_eq_true rfl) dX5_worksAlone_64 ⟨z0, z0⟩) hP hD hK hS hA (fun u100 H locs w101 hP hD hK hS => ?_)
    obtain ⟨V102, L103⟩ := u100
    obtain ⟨hMV102, ajV102, axL103⟩ := w101
    have axL103 : L = L103 := Eq.symm axL103
    subst axL103
    have hP : va_P D vwCl (xw ad kk V102 L Z) H := hP
    have hD : va_D A (xw ad kk V102 L Z) := hD
    have hMV102 : rgd bX V102 := hMV102
    have ajV102 : agr [(5, 7)] [39] V96 V102 := ajV102
    have agV102 : agr [(5, 6), (5, 7), (5, 9), (5, 10), (5, 13), (5, 14)] [39, 67, 68, 69, 70, 71, 72, 73, 74, 75, 76, 77, 78, 79, 80, 81, 82, 83, 84, 85] V V102 := agV96.tr ajV102 (by decide) (by decide)
    refine lv_iconst (v := 1) hx hb dX5_worksAlone_67 (by decide) ?_
    have pq104 : (V102 5 6).toInt = ((V 5 6)).toInt := congrArg Int32.toInt ((ajV102 5 6 rfl).trans (ajV96 5 6 rfl))
    have pq105 : (V102 67 gf).toInt = ((V 67 gf)).toInt := congrArg Int32.toInt ((ajV102 67 gf rfl).trans (ajV96 67 gf rfl))
    have pq106 : (V102 68 gf).toInt = ((V 68 gf)).toInt := congrArg Int32.toInt ((ajV102 68 gf rfl).trans (ajV96 68 gf rfl))
    have me107 : ME V V102 gf := (ME.tr (ME.tr ME.rf (ME.ag ajV96 (by decide))) (ME.ag ajV102 (by decide)))
    have pq108 : (V102 70 gf).toInt = ((V 70 gf)).toInt := congrArg Int32.toInt ((ajV102 70 gf rfl).trans (ajV96 70 gf rfl))
    have pq109 : (V102 71 gf).toInt = ((V 71 gf)).toInt := congrArg Int32.toInt ((ajV102 71 gf rfl).trans (ajV96 71 gf rfl))
    have pq110 : (V102 75 gf).toInt = ((V 75 gf)).toInt := congrArg Int32.toInt ((ajV102 75 gf rfl).trans (ajV96 75 gf rfl))
    have pq111 : (V102 76 gf).toInt = ((V 76 gf)).toInt := congrArg Int32.toInt ((ajV102 76 gf rfl).trans (ajV96 76 gf rfl))
    have pq112 : (V102 80 gf).toInt = ((V 80 gf)).toInt := congrArg Int32.toInt ((ajV102 80 gf rfl).trans (ajV96 80 gf rfl))
    have pq113 : (V102 84 gf).toInt = ((V 84 gf)).toInt := congrArg Int32.toInt ((ajV102 84 gf rfl).trans (ajV96 84 gf rfl))
    have pq114 : (V102 5 8).toInt = ((V 5 8)).toInt := congrArg Int32.toInt ((ajV102 5 8 rfl).trans (ajV96 5 8 rfl))
    have pq115 : (V102 5 9).toInt = ((V 5 9)).toInt := congrArg Int32.toInt ((ajV102 5 9 rfl).trans (ajV96 5 9 rfl))
    have pq116 : (V102 3 13).toInt = ((V 3 13)).toInt := congrArg Int32.toInt ((ajV102 3 13 rfl).trans (ajV96 3 13 rfl))
    have pq117 : (V102 43 (5 * b + 2)).toInt = ((V 43 (5 * b + 2))).toInt := congrArg Int32.toInt ((ajV102 43 (5 * b + 2) rfl).trans (ajV96 43 (5 * b + 2) rfl))
    have pq118 : (V102 42 b).toInt = ((V 42 b)).toInt := congrArg Int32.toInt ((ajV102 42 b rfl).trans (ajV96 42 b rfl))
    have pq119 : (V102 41 b).toInt = ((V 41 b)).toInt := congrArg Int32.toInt ((ajV102 41 b rfl).trans (ajV96 41 b rfl))
    have af121 : (V102 42 b).toInt ≤ (V102 84 gf).toInt ∨ (bdp V102 b (V102 84 gf).toInt.toNat).1 = true := by rw [((ajV102 84 gf rfl).trans (ajV96 84 gf rfl)), me107.1.bd, me107.1 42 b (by decide) (by decide)]; exact ft
    have mo120 : MO V102 Z b gf True True True := MO.ch mo me107 ((ajV102 67 gf rfl).trans (ajV96 67 gf rfl)) ((ajV102 80 gf rfl).trans (ajV96 80 gf rfl)) (fun _ => Or.inl (by omega)) (fun x h => FK.k4 (by omega) (by omega) (by omega) af121 (by omega) (fun hph => absurd hph (by omega)))
    refine W.know (fun kr1 kr2 => ?_)
    refine W.widen (k := zcc Z) (n := zss Z) (Nat.sub_le _ _) (Nat.sub_le _ _) ?_
    exact W.zret (v := 1) hx hb hr rfl (fun t ht hW => ⟨⟨1, (V102, L, Z), rfl, ⟨hMV102, agV102, rfl, zoZ, (by decide), (Imp.mk (fun _ => mo120)), (Imp.mk (fun hp => absurd hp (by decide))), (Imp.mk (fun _ => (show (V102 5 6).toInt = (V 5 6).toInt ∧ (V102 67 gf).toInt = 4 ∧ (V102 68 gf).toInt = 0 from by (first | exact om_a46bf36ddf1a gk gph pq104 pq105 pq106 | omega)))), (Imp.mk (fun _ => rfl))⟩, ⟨by rw [ht]; exact hP, va_K.moved hW.alike hK, hD⟩, by rw [ht]; exact kr1, by rw [ht]; exact kr2⟩, hS.F ht⟩) hS.2.2 dX5_worksAlone_68
  have gq92 : p1.toInt ≠ 3 := b_neq rfl (by decide) q92
  by_cases q122 : p1 = 4
  · refine g_top (v := 4) q122 ?_
    have fq122 : p1.toInt = 4 := b_eq rfl (by decide) q122
    refine lv_tableIn (x := 4) (off := 68) (tgt := 69) hx hb dX5_worksAlone_1 (by decide) (by decide) (by decide) (by decide) ?_
    refine lv_aload_n hx hb dX5_worksAlone_69 rfl (lv_at hl 1 rfl) ?_
    refine lv_iconst (v := 1) hx hb dX5_worksAlone_70 (by decide) ?_
    refine va_putN (D := D) (ci := 4) (v := .int 1) (ty := tyX4 1) (fs := (xfFrame V gf)) (C := RX4) (T := TX4) (N := 19) hx hb hg inX4 tyX4 tyX4_ok nmX4 hown hK hP hD hS (336 + gf) (xgFrame hgf) rfl 1 (by decide) (hnw.use 1190 n1190 rfl) (fun _ h9 => h9) rfl (tyX4_ok 1 (by decide)) rfl rfl (Nat.le_of_ble_eq_true rfl) dX5_worksAlone_71 (fun H locs hP hD hS => ?_)
    obtain ⟨V123, hV123⟩ : ∃ z, z = up2 V 68 gf 1 := ⟨_, rfl⟩
    have ew124 : (xw ad kk V L Z).set (336 + gf) ((Z.fa gf), .inr (4, (xfFrame V gf).set 1 (.int 1))) = xw ad kk V123 L Z := by rw [hV123]; exact xpFrame_phase hgf
    have hP : va_P D vwCl (xw ad kk V123 L Z) H := by rw [← ew124]; exact hP
    have hD : va_D A (xw ad kk V123 L Z) := by rw [← ew124]; exact hD
    have hMV123 : rgd bX V123 := hMV.put hV123 (i_full _)
    have agV123 : agr [(5, 6), (5, 7), (5, 9), (5, 10), (5, 13), (5, 14)] [39, 67, 68, 69, 70, 71, 72, 73, 74, 75, 76, 77, 78, 79, 80, 81, 82, 83, 84, 85] V V123 := agV.up hV123 rfl
    refine lv_aload_n hx hb dX5_worksAlone_74 rfl (lv_at hl 0 rfl) ?_
    refine lv_aload_n hx hb dX5_worksAlone_75 rfl (lv_at hl 1 rfl) ?_
    refine lv_aload_n hx hb dX5_worksAlone_76 rfl (lv_at hl 1 rfl) ?_
    refine va_getN (D := D) (ci := 4) (v := .int (V123 75 gf)) (fs := (xfFrame V123 gf)) (C := RX4) (T := TX4) (N := 19) hx hb hg inX4 hown hK hP (336 + gf) (xgFrame hgf) rfl 8 (by decide) (hnw.use 1197 n1197 rfl) (fun _ h9 => h9) rfl dX5_worksAlone_77 ?_
    refine g_top (v := (V 75 gf)) (up2_o hV123 (by decide)) ?_
    refine lv_aload_n hx hb dX5_worksAlone_80 rfl (lv_at hl 0 rfl) ?_
    refine gA_int (gA_runV (As := []) (rest := [.int (V 75 gf), .ref (Z.fa gf), .ref (ad 5)]) (ci := 5) (q0 := 5) hx hb hml hown hg hP hD hK hS hA hnw hgk (x_mpull l D ks H.size ad kk V123 L Z  hMV123 ) w1482 w1484 w76 w171 w1485 rfl xgMachine hdV_yX5_pull ⟨Nat.le_of_ble_eq_true rfl, Nat.le_of_ble_eq_true rfl⟩ rfl hl.1 rfl (Nat.le_of_ble_eq_true rfl) dX5_worksAlone_81 ⟨z0, z0⟩) hP hD hK hS hA (fun z125 u126 H locs w127 hP hD hK hS => ?_)
    obtain ⟨V128, L129⟩ := u126
    obtain ⟨hMV128, ajV128, axL129⟩ := w127
    have axL129 : L = L129 := Eq.symm axL129
    subst axL129
    have hP : va_P D vwCl (xw ad kk V128 L Z) H := hP
    have hD : va_D A (xw ad kk V128 L Z) := hD
    have hMV128 : rgd bX V128 := hMV128
    have ajV128 : agr [(5, 7)] [] V123 V128 := ajV128
    have agV128 : agr [(5, 6), (5, 7), (5, 9), (5, 10), (5, 13), (5, 14)] [39, 67, 68, 69, 70, 71, 72, 73, 74, 75, 76, 77, 78, 79, 80, 81, 82, 83, 84, 85] V V128 := agV123.tr ajV128 (by decide) (by decide)
    have pq130 : (V128 71 gf).toInt = ((V 71 gf)).toInt := congrArg Int32.toInt ((ajV128 71 gf rfl).trans (up2_o hV123 (by decide)))
    have pq131 : (V128 43 (5 * b + 2)).toInt = ((V 43 (5 * b + 2))).toInt := congrArg Int32.toInt ((ajV128 43 (5 * b + 2) rfl).trans (up2_o hV123 (by decide)))
    have pq132 : (V128 3 13).toInt = ((V 3 13)).toInt := congrArg Int32.toInt ((ajV128 3 13 rfl).trans (up2_o hV123 (by decide)))
    have pq133 : (V128 70 gf).toInt = ((V 70 gf)).toInt := congrArg Int32.toInt ((ajV128 70 gf rfl).trans (up2_o hV123 (by decide)))
    have me134 : ME V V128 gf := (ME.tr (ME.up ME.rf hV123 (Or.inl ⟨by decide, by decide, Nat.le_refl _⟩)) (ME.ag ajV128 (by decide)))
    have pq135 : (V128 67 gf).toInt = ((V 67 gf)).toInt := congrArg Int32.toInt ((ajV128 67 gf rfl).trans (up2_o hV123 (by decide)))
    have pq136 : (V128 68 gf).toInt = 1 := (congrArg Int32.toInt ((ajV128 68 gf rfl).trans (up2_s hV123))).trans (by decide)
    have pq137 : (V128 75 gf).toInt = ((V 75 gf)).toInt := congrArg Int32.toInt ((ajV128 75 gf rfl).trans (up2_o hV123 (by decide)))
    have pq138 : (V128 76 gf).toInt = ((V 76 gf)).toInt := congrArg Int32.toInt ((ajV128 76 gf rfl).trans (up2_o hV123 (by decide)))
    have pq139 : (V128 80 gf).toInt = ((V 80 gf)).toInt := congrArg Int32.toInt ((ajV128 80 gf rfl).trans (up2_o hV123 (by decide)))
    have pq140 : (V128 84 gf).toInt = ((V 84 gf)).toInt := congrArg Int32.toInt ((ajV128 84 gf rfl).trans (up2_o hV123 (by decide)))
    have pq141 : (V128 5 6).toInt = ((V 5 6)).toInt := congrArg Int32.toInt ((ajV128 5 6 rfl).trans (up2_o hV123 (by decide)))
    have pq142 : (V128 5 8).toInt = ((V 5 8)).toInt := congrArg Int32.toInt ((ajV128 5 8 rfl).trans (up2_o hV123 (by decide)))
    have pq143 : (V128 5 9).toInt = ((V 5 9)).toInt := congrArg Int32.toInt ((ajV128 5 9 rfl).trans (up2_o hV123 (by decide)))
    have pq144 : (V128 42 b).toInt = ((V 42 b)).toInt := congrArg Int32.toInt ((ajV128 42 b rfl).trans (up2_o hV123 (by decide)))
    have pq145 : (V128 41 b).toInt = ((V 41 b)).toInt := congrArg Int32.toInt ((ajV128 41 b rfl).trans (up2_o hV123 (by decide)))
    have ep148 : V128 84 gf = (V 84 gf) := ((ajV128 84 gf rfl).trans (up2_o hV123 (by decide)))
    have af147 : (V128 42 b).toInt ≤ (V128 84 gf).toInt ∨ (bdp V128 b (V128 84 gf).toInt.toNat).1 = true := by rw [ep148, me134.1.bd, me134.1 42 b (by decide) (by decide)]; exact ft
    have mo146 : MO V128 Z b gf True True True := MO.ch mo me134 ((ajV128 67 gf rfl).trans (up2_o hV123 (by decide))) ((ajV128 80 gf rfl).trans (up2_o hV123 (by decide))) (fun _ => Or.inl (by omega)) (fun x h => FK.k4 (by omega) (by omega) (by omega) af147 (by omega) (fun hph => absurd hph (by omega)))
    have mt149 : MT V128 Z b := MO.mt mo146 (by (first | exact om_c09d41618ed8 hgf | omega)) (by (first | exact om_82fa09255765 gd pq141 | omega))
    refine W.know (fun k151 k152 => ?_)
    obtain ⟨Hk150, hHk150⟩ : ∃ z, z = H := ⟨_, rfl⟩
    have k151 : Hk150.size ≤ s.heap.size + (zcc Z - zcc Z) := by rw [hHk150]; exact k151
    have k152 : tot Hk150 ≤ tot s.heap + (zss Z - zss Z) := by rw [hHk150]; exact k152
    refine gZ_void (gA_runV (As := [.ref (Z.fa gf), .int (V 75 gf), .int z125]) (rest := []) (ci := 5) (q0 := 5) hx hb hml hown hg hP hD hK hS hA hnw hgk (x_pushInside l D ks H.size ad kk V128 L Z (V 75 gf) z125 (b) (gf) hMV128 (by (first | exact om_8dd06492493b r3.1 r3.2 | omega)) (show b < 2 from by (first | exact om_f940a4667dd6 hb2 | omega)) (show gf < Z.nf from by (first | exact om_8c5722e49bb1 hgf | omega)) mt149 (show 0 ≤ (V128 71 gf).toInt ∧ (V128 71 gf).toInt < (V128 43 (5 * b + 2)).toInt from by omega) (show 0 ≤ (V128 70 gf).toInt ∧ (V128 70 gf).toInt < (V128 3 13).toInt from by omega)) w1388 w1390 w60 w171 w1391 rfl xgMachine hdV_yX5_pushInside ⟨Nat.le_of_ble_eq_true rfl, Nat.le_of_ble_eq_true rfl⟩ rfl hl.1 rfl (Nat.le_of_ble_eq_true rfl) dX5_worksAlone_84 ⟨z1 zoZ.1, z1 zoZ.2.1⟩) hD hS hA (fun u154 H locs w155 hP hD hK hS y156 y157 => ?_)
    obtain ⟨V158, L159, Z160⟩ := u154
    obtain ⟨hMV158, ajV158, axL159, zlZ160, t162⟩ := w155
    have axL159 : L = L159 := Eq.symm axL159
    subst axL159
    have hP : va_P D vwCl (xw ad kk V158 L Z160) H := hP
    have hD : va_D A (xw ad kk V158 L Z160) := hD
    have hK : va_K D vwCl (xty kk Z160) s := hK
    have hMV158 : rgd bX V158 := hMV158
    have ajV158 : agr [(5, 6), (5, 9)] [67, 68, 69, 70, 71, 72, 73, 74, 75, 76, 77, 78, 79, 80, 81, 82, 83, 84, 85] V128 V158 := ajV158
    have agV158 : agr [(5, 6), (5, 7), (5, 9), (5, 10), (5, 13), (5, 14)] [39, 67, 68, 69, 70, 71, 72, 73, 74, 75, 76, 77, 78, 79, 80, 81, 82, 83, 84, 85] V V158 := agV128.tr ajV158 (by decide) (by decide)
    have zlZ160 : ZL Z Z160 := zlZ160
    have zoZ160 : ZL Z Z160 := ZL.tr zoZ zlZ160
    have ziZ160 := zlZ160.1
    have zjZ160 := zlZ160.2.1
    have zkZ160 := zlZ160.2.2.1
    have zmZ160 := zoZ160.1
    have znZ160 := zoZ160.2.1
    have zpZ_Z160 := zoZ.1
    have zqZ_Z160 := zoZ.2.1
    have y156 : H.size ≤ Hk150.size + (zcc Z - zcc Z160) := by rw [hHk150]; exact y156
    have y157 : tot H ≤ tot Hk150 + (zss Z - zss Z160) := by rw [hHk150]; exact y157
    refine W.tight (k := zcc Z - zcc Z160) (n := zss Z - zss Z160) (by first | exact tg9 y156 k151 zlZ160.1 zoZ.1 | omega) (by first | exact tg9 y157 k152 zlZ160.2.1 zoZ.2.1 | omega) ?_
    have hl : lv_has ls 3 [(0, .ref (ad 5)), (1, .ref (Z160.fa gf)), (2, .int p1)] := by rw [zlZ160.2.2.2.2 gf hgf]; exact hl
    have t162 : MJ V158 Z160 b := t162
    refine lv_iconst (v := 0) hx hb dX5_worksAlone_87 (by decide) ?_
    have r163 : 0 ≤ ((V158 5 6)).toInt ∧ ((V158 5 6)).toInt ≤ 400 := hMV158 5 6
    refine W.know (fun kr1 kr2 => ?_)
    refine W.widen (k := zcc Z) (n := zss Z) (Nat.sub_le _ _) (Nat.sub_le _ _) ?_
    exact W.zret (v := 0) hx hb hr rfl (fun t ht hW => ⟨⟨0, (V158, L, Z160), rfl, ⟨hMV158, agV158, rfl, zoZ160, (by decide), (Imp.mk (fun hp => absurd hp (by decide))), (Imp.mk (fun _ => t162)), (Imp.mk (fun hp => absurd hp (by decide))), (Imp.mk (fun hp => absurd hp (by decide)))⟩, ⟨by rw [ht]; exact hP, va_K.moved hW.alike hK, hD⟩, by rw [ht]; exact kr1, by rw [ht]; exact kr2⟩, hS.F ht⟩) hS.2.2 dX5_worksAlone_88
  have gq122 : p1.toInt ≠ 4 := b_neq rfl (by decide) q122
  refine lv_tableOut (x := p1) (tgt := 89) hx hb dX5_worksAlone_1 (by omega) (by decide) ?_
  refine lv_aload_n hx hb dX5_worksAlone_89 rfl (lv_at hl 0 rfl) ?_
  refine lv_aload_n hx hb dX5_worksAlone_90 rfl (lv_at hl 0 rfl) ?_
  refine gA_int (gA_runV (As := []) (rest := [.ref (ad 5)]) (ci := 5) (q0 := 5) hx hb hml hown hg hP hD hK hS hA hnw hgk (x_mpull l D ks H.size ad kk V L Z  hMV ) w1482 w1484 w76 w171 w1485 rfl xgMachine hdV_yX5_pull ⟨Nat.le_of_ble_eq_true rfl, Nat.le_of_ble_eq_true rfl⟩ rfl hl.1 rfl (Nat.le_of_ble_eq_true rfl) dX5_worksAlone_91 ⟨z0, z0⟩) hP hD hK hS hA (fun z164 u165 H locs w166 hP hD hK hS => ?_)
  obtain ⟨V167, L168⟩ := u165
  obtain ⟨hMV167, ajV167, axL168⟩ := w166
  have axL168 : L = L168 := Eq.symm axL168
  subst axL168
  have hP : va_P D vwCl (xw ad kk V167 L Z) H := hP
  have hD : va_D A (xw ad kk V167 L Z) := hD
  have hMV167 : rgd bX V167 := hMV167
  have ajV167 : agr [(5, 7)] [] V V167 := ajV167
  have agV167 : agr [(5, 6), (5, 7), (5, 9), (5, 10), (5, 13), (5, 14)] [39, 67, 68, 69, 70, 71, 72, 73, 74, 75, 76, 77, 78, 79, 80, 81, 82, 83, 84, 85] V V167 := agV.tr ajV167 (by decide) (by decide)
  refine gA_void (gA_runV (As := [.int z164]) (rest := []) (ci := 5) (q0 := 5) hx hb hml hown hg hP hD hK hS hA hnw hgk (x_answerWith2 l D ks H.size ad kk V167 L Z z164 hMV167 ) w1304 w1306 w49 w171 w1307 rfl xgMachine hdV_yX5_answerWith ⟨Nat.le_of_ble_eq_true rfl, Nat.le_of_ble_eq_true rfl⟩ rfl hl.1 rfl (Nat.le_of_ble_eq_true rfl) dX5_worksAlone_94 ⟨z0, z0⟩) hP hD hK hS hA (fun u170 H locs w171 hP hD hK hS => ?_)
  obtain ⟨V174, L175⟩ := u170
  obtain ⟨hMV174, ajV174, axL175, t172, t173⟩ := w171
  have axL175 : L = L175 := Eq.symm axL175
  subst axL175
  have hP : va_P D vwCl (xw ad kk V174 L Z) H := hP
  have hD : va_D A (xw ad kk V174 L Z) := hD
  have hMV174 : rgd bX V174 := hMV174
  have ajV174 : agr [(5, 9), (5, 10)] [] V167 V174 := ajV174
  have agV174 : agr [(5, 6), (5, 7), (5, 9), (5, 10), (5, 13), (5, 14)] [39, 67, 68, 69, 70, 71, 72, 73, 74, 75, 76, 77, 78, 79, 80, 81, 82, 83, 84, 85] V V174 := agV167.tr ajV174 (by decide) (by decide)
  have t172 : (V174 5 9).toInt = 1 := t172
  have t173 : (V174 5 10).toInt = z164.toInt := t173
  have r176 : 0 ≤ ((V174 5 9)).toInt ∧ ((V174 5 9)).toInt ≤ 3 := hMV174 5 9
  refine lv_aload_n hx hb dX5_worksAlone_97 rfl (lv_at hl 0 rfl) ?_
  refine lv_aload_n hx hb dX5_worksAlone_98 rfl (lv_at hl 1 rfl) ?_
  have pq177 : (V174 5 6).toInt = ((V 5 6)).toInt := congrArg Int32.toInt ((ajV174 5 6 rfl).trans (ajV167 5 6 rfl))
  have pq178 : (V174 67 gf).toInt = ((V 67 gf)).toInt := congrArg Int32.toInt ((ajV174 67 gf rfl).trans (ajV167 67 gf rfl))
  have me179 : ME V V174 gf := (ME.tr (ME.tr ME.rf (ME.ag ajV167 (by decide))) (ME.ag ajV174 (by decide)))
  have pq180 : (V174 68 gf).toInt = ((V 68 gf)).toInt := congrArg Int32.toInt ((ajV174 68 gf rfl).trans (ajV167 68 gf rfl))
  have pq181 : (V174 70 gf).toInt = ((V 70 gf)).toInt := congrArg Int32.toInt ((ajV174 70 gf rfl).trans (ajV167 70 gf rfl))
  have pq182 : (V174 71 gf).toInt = ((V 71 gf)).toInt := congrArg Int32.toInt ((ajV174 71 gf rfl).trans (ajV167 71 gf rfl))
  have pq183 : (V174 75 gf).toInt = ((V 75 gf)).toInt := congrArg Int32.toInt ((ajV174 75 gf rfl).trans (ajV167 75 gf rfl))
  have pq184 : (V174 76 gf).toInt = ((V 76 gf)).toInt := congrArg Int32.toInt ((ajV174 76 gf rfl).trans (ajV167 76 gf rfl))
  have pq185 : (V174 80 gf).toInt = ((V 80 gf)).toInt := congrArg Int32.toInt ((ajV174 80 gf rfl).trans (ajV167 80 gf rfl))
  have pq186 : (V174 84 gf).toInt = ((V 84 gf)).toInt := congrArg Int32.toInt ((ajV174 84 gf rfl).trans (ajV167 84 gf rfl))
  have pq187 : (V174 5 8).toInt = ((V 5 8)).toInt := congrArg Int32.toInt ((ajV174 5 8 rfl).trans (ajV167 5 8 rfl))
  have pq188 : (V174 3 13).toInt = ((V 3 13)).toInt := congrArg Int32.toInt ((ajV174 3 13 rfl).trans (ajV167 3 13 rfl))
  have pq189 : (V174 43 (5 * b + 2)).toInt = ((V 43 (5 * b + 2))).toInt := congrArg Int32.toInt ((ajV174 43 (5 * b + 2) rfl).trans (ajV167 43 (5 * b + 2) rfl))
  have pq190 : (V174 42 b).toInt = ((V 42 b)).toInt := congrArg Int32.toInt ((ajV174 42 b rfl).trans (ajV167 42 b rfl))
  have pq191 : (V174 41 b).toInt = ((V 41 b)).toInt := congrArg Int32.toInt ((ajV174 41 b rfl).trans (ajV167 41 b rfl))
  have af193 : (V174 42 b).toInt ≤ (V174 84 gf).toInt ∨ (bdp V174 b (V174 84 gf).toInt.toNat).1 = true := by rw [((ajV174 84 gf rfl).trans (ajV167 84 gf rfl)), me179.1.bd, me179.1 42 b (by decide) (by decide)]; exact ft
  have mo192 : MO V174 Z b gf True False True := MO.ch mo me179 ((ajV174 67 gf rfl).trans (ajV167 67 gf rfl)) ((ajV174 80 gf rfl).trans (ajV167 80 gf rfl)) (fun _ => Or.inl (by omega)) (fun x h => FK.k4 (by omega) (by omega) (by omega) af193 (by omega) (fun _ z => z.elim))
  refine gA_void (gA_runV (As := [.ref (Z.fa gf)]) (rest := []) (ci := 5) (q0 := 5) hx hb hml hown hg hP hD hK hS hA hnw hgk (x_endWork2 l D ks H.size ad kk V174 L Z (b) (gf) hMV174 (show b < 2 from by (first | exact om_f940a4667dd6 hb2 | omega)) (show gf < Z.nf from by (first | exact om_8c5722e49bb1 hgf | omega)) mo192 (show (gf : Int) + 1 = (V174 5 6).toInt from by (first | exact om_6e5bbaaa0e03 gd pq177 | omega)) (show (V174 67 gf).toInt = 4 from by (first | exact om_ac6651f4ff0c gk pq178 | omega))) w1458 w1460 w70 w171 w1461 rfl xgMachine hdV_yX5_endWork ⟨Nat.le_of_ble_eq_true rfl, Nat.le_of_ble_eq_true rfl⟩ rfl hl.1 rfl (Nat.le_of_ble_eq_true rfl) dX5_worksAlone_99 ⟨z0, z0⟩) hP hD hK hS hA (fun u195 H locs w196 hP hD hK hS => ?_)
  obtain ⟨V198, L199⟩ := u195
  obtain ⟨hMV198, ajV198, axL199, t197⟩ := w196
  have axL199 : L = L199 := Eq.symm axL199
  subst axL199
  have hP : va_P D vwCl (xw ad kk V198 L Z) H := hP
  have hD : va_D A (xw ad kk V198 L Z) := hD
  have hMV198 : rgd bX V198 := hMV198
  have ajV198 : agr [(5, 6), (5, 7)] [] V174 V198 := ajV198
  have agV198 : agr [(5, 6), (5, 7), (5, 9), (5, 10), (5, 13), (5, 14)] [39, 67, 68, 69, 70, 71, 72, 73, 74, 75, 76, 77, 78, 79, 80, 81, 82, 83, 84, 85] V V198 := agV174.tr ajV198 (by decide) (by decide)
  have t197 : MJ V198 Z b := t197
  refine lv_iconst (v := 0) hx hb dX5_worksAlone_102 (by decide) ?_
  have r200 : 0 ≤ ((V198 5 6)).toInt ∧ ((V198 5 6)).toInt ≤ 400 := hMV198 5 6
  have pq201 : (V198 67 gf).toInt = ((V 67 gf)).toInt := congrArg Int32.toInt ((ajV198 67 gf rfl).trans ((ajV174 67 gf rfl).trans (ajV167 67 gf rfl)))
  have pq202 : (V198 68 gf).toInt = ((V 68 gf)).toInt := congrArg Int32.toInt ((ajV198 68 gf rfl).trans ((ajV174 68 gf rfl).trans (ajV167 68 gf rfl)))
  refine W.know (fun kr1 kr2 => ?_)
  refine W.widen (k := zcc Z) (n := zss Z) (Nat.sub_le _ _) (Nat.sub_le _ _) ?_
  exact W.zret (v := 0) hx hb hr rfl (fun t ht hW => ⟨⟨0, (V198, L, Z), rfl, ⟨hMV198, agV198, rfl, zoZ, (by decide), (Imp.mk (fun hp => absurd hp (by decide))), (Imp.mk (fun _ => t197)), (Imp.mk (fun hp => absurd hp (by decide))), (Imp.mk (fun hp => absurd hp (by decide)))⟩, ⟨by rw [ht]; exact hP, va_K.moved hW.alike hK, hD⟩, by rw [ht]; exact kr1, by rw [ht]; exact kr2⟩, hS.F ht⟩) hS.2.2 dX5_worksAlone_103
abbrev r_x_work (Z : XZ) : Room := { frames := 5, cells := zcc Z, slots := zss Z, locals := 112 }
abbrev q_x_work (D : va_G) (ks : KS) (ad : Nat → Nat) (kk : Nat → ClassId) (V : Vf) (L : Lf) (Z : XZ) (b : Nat) (gf : Nat) (A : Nat → Prop) : Array Value → State → Outcome → State → Prop := qZv D (fun (u : Vf × Lf × XZ) => rgd bX u.1 ∧ agr [(5, 6), (5, 7), (5, 9), (5, 10), (5, 11), (5, 12), (5, 13), (5, 14)] [39, 67, 68, 69, 70, 71, 72, 73, 74, 75, 76, 77, 78, 79, 80, 81, 82, 83, 84, 85] V u.1 ∧ u.2.1 = L ∧ ZL Z u.2.2 ∧ (MJ u.1 u.2.2 b)) (fun u => xw ad kk u.1 u.2.1 u.2.2) (fun u => xty kk u.2.2) (fun u => zcc Z - zcc u.2.2) (fun u => zss Z - zss u.2.2) A
set_option maxHeartbeats 4000000 in
set_option maxRecDepth 100000 in
theorem x_work (l : Launch) (D : va_G) (ks : KS) (sz : Nat) (ad : Nat → Nat) (kk : Nat → ClassId) (V : Vf) (L : Lf) (Z : XZ) (b : Nat) (gf : Nat) (hMV : rgd bX V) (hb2 : b < 2) (hgf : gf < Z.nf) (mo : MO V Z b gf True True True) (gd : (gf : Int) + 1 = (V 5 6).toInt) (gk : (V 67 gf).toInt = 4) (gph : (V 68 gf).toInt = 0)  : Met l yX5_work (Cond.code yX5_work cX5_work 6 none :: GW) (r_x_work Z) (va_Pc [.ref (ad 5), .ref (Z.fa gf)] (gp D ks (xw ad kk V L Z) (xty kk Z) sz)) (q_x_work D ks ad kk V L Z  b gf (va_A (xw ad kk V L Z) sz)) (zcc Z) (zss Z) (va_A (xw ad kk V L Z) sz) := by
  refine g_met (q_x_work D ks ad kk V L Z  b gf) (by decide) (Nat.le_of_ble_eq_true rfl) ?_
  intro p e s m below meth c A ls H locs hx hb hr hml hown hg hlocks hin hnw hgk hP hK hD hS hA hl
  have hown : s.vm.findClass RX5 = some m.cls := hown
  have hl : lv_has ls 6 [(0, .ref (ad 5)), (1, .ref (Z.fa gf))] := hl
  have hP : va_P D vwCl (xw ad kk V L Z) H := hP
  have hD : va_D A (xw ad kk V L Z) := hD
  have hK : va_K D vwCl (xty kk Z) s := hK
  have agV : agr [(5, 6), (5, 7), (5, 9), (5, 10), (5, 11), (5, 12), (5, 13), (5, 14)] [39, 67, 68, 69, 70, 71, 72, 73, 74, 75, 76, 77, 78, 79, 80, 81, 82, 83, 84, 85] V V := agr.rf
  have zoZ : ZL Z Z := ZL.rf
  refine W.know (fun ka kb => ?_)
  refine W.tight (k := zcc Z - zcc Z) (n := zss Z - zss Z) (by omega) (by omega) ?_
  have r1 : 0 ≤ ((V 5 6)).toInt ∧ ((V 5 6)).toInt ≤ 400 := hMV 5 6
  have kdp := i_clamp (x := V 5 6) rfl (by (first | exact om_c66f1b494bd9 gd | omega))
  have hdn : (gf : Int) + 1 ≤ (Z.nf : Int) := by (first | exact om_29efded833ec hgf | omega)
  have mup := MO.up mo
  have msz := mup.1
  have mbk := mup.2.2.2.1
  obtain ⟨xk, fk⟩ := MO.fk mo
  have r2 : (-1) ≤ ((V 71 gf)).toInt ∧ ((V 71 gf)).toInt ≤ 23 := hMV 71 gf
  have r3 : 0 ≤ ((V 75 gf)).toInt ∧ ((V 75 gf)).toInt ≤ 12 := hMV 75 gf
  have r4 : 0 ≤ ((V 80 gf)).toInt ∧ ((V 80 gf)).toInt ≤ 300 := hMV 80 gf
  have r5 : 0 ≤ ((V 84 gf)).toInt ∧ ((V 84 gf)).toInt ≤ 2147483647 := hMV 84 gf
  have r6 : 0 ≤ ((V 5 8)).toInt ∧ ((V 5 8)).toInt ≤ 300 := hMV 5 8
  have r7 : 0 ≤ ((V 5 9)).toInt ∧ ((V 5 9)).toInt ≤ 3 := hMV 5 9
  have r8 : 0 ≤ ((V 3 13)).toInt ∧ ((V 3 13)).toInt ≤ 300 := hMV 3 13
  have r9 : 0 ≤ ((V 43 (5 * b + 2))).toInt ∧ ((V 43 (5 * b + 2))).toInt ≤ ((xcap (5 * b + 2) : Nat) : Int) := hMV 43 (5 * b + 2)
  have r10 : xcap (5 * b + 2) = 24 := xcap_2
  have r11 : 0 ≤ ((V 41 b)).toInt ∧ ((V 41 b)).toInt ≤ 12 := hMV 41 b
  have r12 : 0 ≤ ((V 42 b)).toInt ∧ ((V 42 b)).toInt ≤ 8200 := hMV 42 b
  have fc := fk.1 (by omega)
  have fo := fk.2.1 (by omega) (by omega)
  have ft := fk.2.2.1 (by omega)
  have fq := fk.2.2.2.1 (by omega)
  refine lv_iconst (v := 1) hx hb dX5_work_0 (by decide) ?_
  refine lv_istore_n (lv' := [(2, .int 1), (0, .ref (ad 5)), (1, .ref (Z.fa gf))]) hx hb dX5_work_1 rfl hl (by decide) rfl (fun ls hl => ?_)
  refine lv_iconst (v := 0) hx hb dX5_work_2 (by decide) ?_
  refine lv_istore_n (lv' := [(3, .int 0), (2, .int 1), (0, .ref (ad 5)), (1, .ref (Z.fa gf))]) hx hb dX5_work_3 rfl hl (by decide) rfl (fun ls hl => ?_)
  have lp16 : ∀ (fulp16 : Nat) (y13 : Int32) (y14 : Int32) (V15 : Vf) (H : Heap) (locs : List Loc) (ls : Array Slot), 0 ≤ y13.toInt ∧ y13.toInt ≤ 8200 → 1 ≤ y14.toInt ∧ y14.toInt ≤ 1 → MO V15 Z b gf True True True → (gf : Int) + 1 = (V15 5 6).toInt → (V15 67 gf).toInt = 4 → (V15 68 gf).toInt = 0 → 8200 - y13.toInt < (fulp16 : Int) → agr [(5, 6), (5, 7), (5, 9), (5, 10), (5, 11), (5, 12), (5, 13), (5, 14)] [39, 67, 68, 69, 70, 71, 72, 73, 74, 75, 76, 77, 78, 79, 80, 81, 82, 83, 84, 85] V V15 → rgd bX V15 → va_P D vwCl (xw ad kk V15 L Z) H → va_D A (xw ad kk V15 L Z) → va_S A s.heap H locs → lv_has ls 6 [(3, .int y13), (2, .int y14), (0, .ref (ad 5)), (1, .ref (Z.fa gf))] → W p l e (r_x_work Z) s m ([.ref (ad 5), .ref (Z.fa gf)] : List Value).toArray below meth c H locs (zcc Z - zcc Z) (zss Z - zss Z) (MQ below (q_x_work D ks ad kk V L Z  b gf A) ([.ref (ad 5), .ref (Z.fa gf)] : List Value).toArray s (zcc Z) (zss Z) A) (F0 m 4 ls []) := by
    intro fulp16
    induction fulp16 with
    | zero =>
      intro y13 y14 V15 H locs ls klp16_0 klp16_1 xlp16_0 xlp16_1 xlp16_2 xlp16_3 hn ajV15 hMV15 hP hD hS hl
      exfalso; (first | exact om_95ea9e43c4d3 klp16_0.2 hn | omega)
    | succ fulp16 ihlp16 =>
      intro y13 y14 V15 H locs ls klp16_0 klp16_1 xlp16_0 xlp16_1 xlp16_2 xlp16_3 hn ajV15 hMV15 hP hD hS hl
      have agV15 : agr [(5, 6), (5, 7), (5, 9), (5, 10), (5, 11), (5, 12), (5, 13), (5, 14)] [39, 67, 68, 69, 70, 71, 72, 73, 74, 75, 76, 77, 78, 79, 80, 81, 82, 83, 84, 85] V V15 := agV.tr ajV15 (by decide) (by decide)
      have r17 : 0 ≤ ((V15 5 6)).toInt ∧ ((V15 5 6)).toInt ≤ 400 := hMV15 5 6
      have mup := MO.up xlp16_0
      have msz := mup.1
      have mbk := mup.2.2.2.1
      obtain ⟨xk, fk⟩ := MO.fk xlp16_0
      have r18 : (-1) ≤ ((V15 71 gf)).toInt ∧ ((V15 71 gf)).toInt ≤ 23 := hMV15 71 gf
      have r19 : 0 ≤ ((V15 75 gf)).toInt ∧ ((V15 75 gf)).toInt ≤ 12 := hMV15 75 gf
      have r20 : 0 ≤ ((V15 80 gf)).toInt ∧ ((V15 80 gf)).toInt ≤ 300 := hMV15 80 gf
      have r21 : 0 ≤ ((V15 84 gf)).toInt ∧ ((V15 84 gf)).toInt ≤ 2147483647 := hMV15 84 gf
      have pq22 : (V15 5 8).toInt = ((V 5 8)).toInt := congrArg Int32.toInt (ajV15 5 8 rfl)
      have r23 : 0 ≤ ((V15 5 9)).toInt ∧ ((V15 5 9)).toInt ≤ 3 := hMV15 5 9
      have pq24 : (V15 3 13).toInt = ((V 3 13)).toInt := congrArg Int32.toInt (ajV15 3 13 rfl)
      have pq25 : (V15 43 (5 * b + 2)).toInt = ((V 43 (5 * b + 2))).toInt := congrArg Int32.toInt (ajV15 43 (5 * b + 2) rfl)
      have pq26 : (V15 41 b).toInt = ((V 41 b)).toInt := congrArg Int32.toInt (ajV15 41 b rfl)
      have pq27 : (V15 42 b).toInt = ((V 42 b)).toInt := congrArg Int32.toInt (ajV15 42 b rfl)
      have fc := fk.1 (by omega)
      have fo := fk.2.1 (by omega) (by omega)
      have ft := fk.2.2.1 (by omega)
      have fq := fk.2.2.2.1 (by omega)
      refine lv_iload_n hx hb dX5_work_4 rfl (lv_at hl 1 rfl) ?_
      refine lv_if_eq (tgt := 119) hx hb dX5_work_5 (by decide) (fun c28 => ?_) (fun c28 => ?_)
      · skip
        have f29 : y14.toInt = 0 := b_eq rfl (by decide) c28
        exfalso; (first | exact om_09885ab343b9 klp16_1.1 f29 | omega)
      · skip
        have f30 : y14.toInt ≠ 0 := b_neq rfl (by decide) c28
        refine lv_iload_n hx hb dX5_work_8 rfl (lv_at hl 0 rfl) ?_
        refine lv_aload_n hx hb dX5_work_9 rfl (lv_at hl 2 rfl) ?_
        refine va_get (D := D) (ci := 5) (v := .ref (ad (38 + Int32.toNatClampNeg (V15 5 5)))) (fs := (xfMachine ad V15 L Z)) (C := RX5) (T := TX5) (N := 15) hx hb hg inX5 hown hK hP 5 xgMachine rfl 5 (by decide) (hg _ w672) (fun _ h9 => h9) rfl dX5_work_10 ?_
        have pq31 : (V15 5 5).toInt = ((V 5 5)).toInt := congrArg Int32.toInt (ajV15 5 5 rfl)
        have r32 : 0 ≤ ((V 5 5)).toInt ∧ ((V 5 5)).toInt ≤ 1 := hMV 5 5
        refine g_topv (v := .ref (ad (38 + b))) (rfP (by omega)) ?_
        refine va_getN (D := D) (ci := 0) (v := .int (V15 42 b)) (fs := (xfBook ad V15 b)) (C := RX0) (T := TX0) (N := 13) hx hb hg inX0 hown hK hP (38 + b) (xgBook hb2) rfl 12 (by decide) (hnw.use 631 n631 rfl) (fun _ h9 => h9) rfl dX5_work_13 ?_
        refine g_top (v := (V 42 b)) (ajV15 42 b rfl) ?_
        refine lv_icmp_ge (tgt := 119) hx hb dX5_work_16 (by decide) (fun c33 => ?_) (fun c33 => ?_)
        · skip
          have f34 : ((V 42 b)).toInt ≤ y13.toInt := b_le rfl rfl c33
          have me35 : ME V15 V15 gf := ME.rf
          have af37 : (V15 42 b).toInt ≤ (V15 84 gf).toInt ∨ (bdp V15 b (V15 84 gf).toInt.toNat).1 = true := by rw [me35.1.bd, me35.1 42 b (by decide) (by decide)]; exact ft
          have mo36 : MO V15 Z b gf True (QN V15 b) (QN V15 b) := MO.ch xlp16_0 me35 rfl rfl (fun _ => Or.inl (by omega)) (fun x h => FK.k4 (by omega) (by omega) (by omega) af37 (by omega) (fun hph => absurd hph (by omega)))
          have rp38 : MJ V15 Z b := MO.mj mo36 (by (first | exact om_c09d41618ed8 hgf | omega)) (by (first | exact om_6815fc1b8223 xlp16_1 | omega)) id id Or.inr
          refine W.know (fun kr1 kr2 => ?_)
          refine W.widen (k := zcc Z) (n := zss Z) (Nat.sub_le _ _) (Nat.sub_le _ _) ?_
          exact W.vret hx hb hr (fun t ht hW => ⟨⟨(V15, L, Z), rfl, ⟨hMV15, agV15, rfl, zoZ, rp38⟩, ⟨by rw [ht]; exact hP, va_K.moved hW.alike hK, hD⟩, by rw [ht]; exact kr1, by rw [ht]; exact kr2⟩, hS.F ht⟩) hS.2.2 dX5_work_119
        · skip
          have f39 : y13.toInt < ((V 42 b)).toInt := b_nle rfl rfl c33
          refine lv_aload_n hx hb dX5_work_19 rfl (lv_at hl 3 rfl) ?_
          refine va_getN (D := D) (ci := 4) (v := .int (V15 84 gf)) (fs := (xfFrame V15 gf)) (C := RX4) (T := TX4) (N := 19) hx hb hg inX4 hown hK hP (336 + gf) (xgFrame hgf) rfl 17 (by decide) (hnw.use 1206 n1206 rfl) (fun _ h9 => h9) rfl dX5_work_20 ?_
          refine lv_aload_n hx hb dX5_work_23 rfl (lv_at hl 2 rfl) ?_
          refine va_get (D := D) (ci := 5) (v := .ref (ad (38 + Int32.toNatClampNeg (V15 5 5)))) (fs := (xfMachine ad V15 L Z)) (C := RX5) (T := TX5) (N := 15) hx hb hg inX5 hown hK hP 5 xgMachine rfl 5 (by decide) (hg _ w672) (fun _ h9 => h9) rfl dX5_work_24 ?_
          refine g_topv (v := .ref (ad (38 + b))) (rfP (by omega)) ?_
          refine va_getN (D := D) (ci := 0) (v := .int (V15 42 b)) (fs := (xfBook ad V15 b)) (C := RX0) (T := TX0) (N := 13) hx hb hg inX0 hown hK hP (38 + b) (xgBook hb2) rfl 12 (by decide) (hnw.use 631 n631 rfl) (fun _ h9 => h9) rfl dX5_work_27 ?_
          refine g_top (v := (V 42 b)) (ajV15 42 b rfl) ?_
          refine lv_icmp_ge (tgt := 119) hx hb dX5_work_30 (by decide) (fun c40 => ?_) (fun c40 => ?_)
          · skip
            have f41 : ((V 42 b)).toInt ≤ ((V15 84 gf)).toInt := b_le rfl rfl c40
            have me42 : ME V15 V15 gf := ME.rf
            have af44 : (V15 42 b).toInt ≤ (V15 84 gf).toInt ∨ (bdp V15 b (V15 84 gf).toInt.toNat).1 = true := by rw [me42.1.bd, me42.1 42 b (by decide) (by decide)]; exact ft
            have mo43 : MO V15 Z b gf True (QN V15 b) (QN V15 b) := MO.ch xlp16_0 me42 rfl rfl (fun _ => Or.inl (by omega)) (fun x h => FK.k4 (by omega) (by omega) (by omega) af44 (by omega) (fun hph => absurd hph (by omega)))
            have rp45 : MJ V15 Z b := MO.mj mo43 (by (first | exact om_c09d41618ed8 hgf | omega)) (by (first | exact om_6815fc1b8223 xlp16_1 | omega)) id id Or.inr
            refine W.know (fun kr1 kr2 => ?_)
            refine W.widen (k := zcc Z) (n := zss Z) (Nat.sub_le _ _) (Nat.sub_le _ _) ?_
            exact W.vret hx hb hr (fun t ht hW => ⟨⟨(V15, L, Z), rfl, ⟨hMV15, agV15, rfl, zoZ, rp45⟩, ⟨by rw [ht]; exact hP, va_K.moved hW.alike hK, hD⟩, by rw [ht]; exact kr1, by rw [ht]; exact kr2⟩, hS.F ht⟩) hS.2.2 dX5_work_119
          · skip
            have f46 : ((V15 84 gf)).toInt < ((V 42 b)).toInt := b_nle rfl rfl c40
            refine lv_aload_n hx hb dX5_work_33 rfl (lv_at hl 2 rfl) ?_
            refine va_get (D := D) (ci := 5) (v := .ref (ad (38 + Int32.toNatClampNeg (V15 5 5)))) (fs := (xfMachine ad V15 L Z)) (C := RX5) (T := TX5) (N := 15) hx hb hg inX5 hown hK hP 5 xgMachine rfl 5 (by decide) (hg _ w672) (fun _ h9 => h9) rfl dX5_work_34 ?_
            refine g_topv (v := .ref (ad (38 + b))) (rfP (by omega)) ?_
            refine va_getN (D := D) (ci := 0) (v := .ref (ad (70 + b))) (fs := (xfBook ad V15 b)) (C := RX0) (T := TX0) (N := 13) hx hb hg inX0 hown hK hP (38 + b) (xgBook hb2) rfl 10 (by decide) (hnw.use 624 n624 rfl) (fun _ h9 => h9) rfl dX5_work_37 ?_
            refine lv_aload_n hx hb dX5_work_40 rfl (lv_at hl 3 rfl) ?_
            refine va_getN (D := D) (ci := 4) (v := .int (V15 84 gf)) (fs := (xfFrame V15 gf)) (C := RX4) (T := TX4) (N := 19) hx hb hg inX4 hown hK hP (336 + gf) (xgFrame hgf) rfl 17 (by decide) (hnw.use 1206 n1206 rfl) (fun _ h9 => h9) rfl dX5_work_41 ?_
            have il47 : b < 2 := by (first | exact om_f940a4667dd6 hb2 | omega)
            refine va_iald (D := D) (i := (V15 84 gf)) hx hb hK hP (70 + b) (63 + b) (xgcode il47) (xtcode il47) (i_in (a := ((V15 84 gf)).toInt) rfl (by (first | exact om_b03dc4e34d5a r12.2 r21.1 f46 | omega))) dX5_work_44 ?_
            have kc48 := i_clamp (x := (V15 84 gf)) rfl (by (first | exact om_eafa9039069c r21.1 | omega))
            refine g_top (v := V15 48 (8200 * b + (Int32.toNatClampNeg (V15 84 gf)))) (if_pos (by omega)) ?_
            refine g_top (v := (V 48 (8200 * b + (Int32.toNatClampNeg (V15 84 gf))))) (ajV15 48 (8200 * b + (Int32.toNatClampNeg (V15 84 gf))) rfl) ?_
            refine lv_istore (lv' := [(4, .int (V 48 (8200 * b + (Int32.toNatClampNeg (V15 84 gf))))), (3, .int y13), (2, .int y14), (0, .ref (ad 5)), (1, .ref (Z.fa gf))]) hx hb dX5_work_45 hl (by decide) rfl (fun ls hl => ?_)
            refine lv_aload_n hx hb dX5_work_47 rfl (lv_at hl 4 rfl) ?_
            refine lv_dup hx hb dX5_work_48 rfl ?_
            refine va_getN (D := D) (ci := 4) (v := .int (V15 84 gf)) (fs := (xfFrame V15 gf)) (C := RX4) (T := TX4) (N := 19) hx hb hg inX4 hown hK hP (336 + gf) (xgFrame hgf) rfl 17 (by decide) (hnw.use 1206 n1206 rfl) (fun _ h9 => h9) rfl dX5_work_49 ?_
            refine lv_iconst (v := 1) hx hb dX5_work_52 (by decide) ?_
            refine lv_iadd hx hb dX5_work_53 ?_
            refine lv_topi (fun z49 ez49 => ?_)
            have hz49 : z49.toInt = ((V15 84 gf)).toInt + 1 := i_add ez49 rfl (by decide) (by (first | exact om_f150dd2841b6 r12.2 r21.1 f46 | omega))
            refine va_putN (D := D) (ci := 4) (v := .int z49) (ty := tyX4 17) (fs := (xfFrame V15 gf)) (C := RX4) (T := TX4) (N := 19) hx hb hg inX4 tyX4 tyX4_ok nmX4 hown hK hP hD hS (336 + gf) (xgFrame hgf) rfl 17 (by decide) (hnw.use 1206 n1206 rfl) (fun _ h9 => h9) rfl (tyX4_ok 17 (by decide)) rfl rfl (Nat.le_of_ble_eq_true rfl) dX5_work_54 (fun H locs hP hD hS => ?_)
            obtain ⟨V50, hV50⟩ : ∃ z, z = up2 V15 84 gf z49 := ⟨_, rfl⟩
            have ew51 : (xw ad kk V15 L Z).set (336 + gf) ((Z.fa gf), .inr (4, (xfFrame V15 gf).set 17 (.int z49))) = xw ad kk V50 L Z := by rw [hV50]; exact xpFrame_at hgf
            have hP : va_P D vwCl (xw ad kk V50 L Z) H := by rw [← ew51]; exact hP
            have hD : va_D A (xw ad kk V50 L Z) := by rw [← ew51]; exact hD
            have hMV50 : rgd bX V50 := hMV15.put hV50 (show 0 ≤ z49.toInt ∧ z49.toInt ≤ 2147483647 from by (first | exact om_e35dbd57c2e4 r12.2 r21.1 f46 hz49 | omega))
            have agV50 : agr [(5, 6), (5, 7), (5, 9), (5, 10), (5, 11), (5, 12), (5, 13), (5, 14)] [39, 67, 68, 69, 70, 71, 72, 73, 74, 75, 76, 77, 78, 79, 80, 81, 82, 83, 84, 85] V V50 := agV15.up hV50 rfl
            have kat := i_clamp (x := V15 84 gf) rfl (by (first | exact om_eafa9039069c r21.1 | omega))
            have pq52 : (V15 48 (8200 * b + (Int32.toNatClampNeg (V15 84 gf)))).toInt = ((V 48 (8200 * b + (Int32.toNatClampNeg (V15 84 gf))))).toInt := congrArg Int32.toInt (ajV15 48 (8200 * b + (Int32.toNatClampNeg (V15 84 gf))) rfl)
            have hbd : (bdp V15 b (Int32.toNatClampNeg (V15 84 gf))).1 = true := by have q := ft.resolve_left (by omega); rw [show (V15 84 gf).toInt.toNat = (Int32.toNatClampNeg (V15 84 gf)) from by omega] at q; exact q
            have hco := mup.2.2.1.2 (Int32.toNatClampNeg (V15 84 gf)) (by omega) hbd
            refine lv_iload hx hb dX5_work_57 (lv_at hl 0 rfl) ?_
            refine lv_bipush (v := 10) hx hb dX5_work_59 (by decide) ?_
            refine lv_icmp_lt (tgt := 75) hx hb dX5_work_61 (by decide) (fun c53 => ?_) (fun c53 => ?_)
            · skip
              have f54 : ((V 48 (8200 * b + (Int32.toNatClampNeg (V15 84 gf))))).toInt < 10 := b_lt rfl (by decide) c53
              have atn : (V15 42 b).toInt ≤ z49.toInt ∨ (bdp V15 b z49.toInt.toNat).1 = true := Or.inr (by rw [show z49.toInt.toNat = (Int32.toNatClampNeg (V15 84 gf)) + 1 from by omega]; exact cd_lo hbd (by omega))
              refine lv_iload hx hb dX5_work_75 (lv_at hl 0 rfl) ?_
              refine lv_iconst (v := 5) hx hb dX5_work_77 (by decide) ?_
              refine lv_icmp_lt (tgt := 105) hx hb dX5_work_78 (by decide) (fun c55 => ?_) (fun c55 => ?_)
              · skip
                have f56 : ((V 48 (8200 * b + (Int32.toNatClampNeg (V15 84 gf))))).toInt < 5 := b_lt rfl (by decide) c55
                refine lv_aload_n hx hb dX5_work_105 rfl (lv_at hl 3 rfl) ?_
                refine lv_aload_n hx hb dX5_work_106 rfl (lv_at hl 4 rfl) ?_
                refine lv_iload hx hb dX5_work_107 (lv_at hl 0 rfl) ?_
                have pq57 : (V50 5 6).toInt = ((V15 5 6)).toInt := congrArg Int32.toInt (up2_o hV50 (by decide))
                have pq58 : (V50 67 gf).toInt = ((V15 67 gf)).toInt := congrArg Int32.toInt (up2_o hV50 (by decide))
                have pq59 : (V50 68 gf).toInt = ((V15 68 gf)).toInt := congrArg Int32.toInt (up2_o hV50 (by decide))
                have me60 : ME V15 V50 gf := (ME.up ME.rf hV50 (Or.inl ⟨by decide, by decide, Nat.le_refl _⟩))
                have pq61 : (V50 70 gf).toInt = ((V15 70 gf)).toInt := congrArg Int32.toInt (up2_o hV50 (by decide))
                have pq62 : (V50 71 gf).toInt = ((V15 71 gf)).toInt := congrArg Int32.toInt (up2_o hV50 (by decide))
                have pq63 : (V50 75 gf).toInt = ((V15 75 gf)).toInt := congrArg Int32.toInt (up2_o hV50 (by decide))
                have pq64 : (V50 76 gf).toInt = ((V15 76 gf)).toInt := congrArg Int32.toInt (up2_o hV50 (by decide))
                have pq65 : (V50 80 gf).toInt = ((V15 80 gf)).toInt := congrArg Int32.toInt (up2_o hV50 (by decide))
                have pq66 : (V50 84 gf).toInt = z49.toInt := congrArg Int32.toInt (up2_s hV50)
                have pq67 : (V50 5 8).toInt = ((V 5 8)).toInt := congrArg Int32.toInt ((up2_o hV50 (by decide)).trans (ajV15 5 8 rfl))
                have pq68 : (V50 5 9).toInt = ((V15 5 9)).toInt := congrArg Int32.toInt (up2_o hV50 (by decide))
                have pq69 : (V50 3 13).toInt = ((V 3 13)).toInt := congrArg Int32.toInt ((up2_o hV50 (by decide)).trans (ajV15 3 13 rfl))
                have pq70 : (V50 43 (5 * b + 2)).toInt = ((V 43 (5 * b + 2))).toInt := congrArg Int32.toInt ((up2_o hV50 (by decide)).trans (ajV15 43 (5 * b + 2) rfl))
                have pq71 : (V50 42 b).toInt = ((V 42 b)).toInt := congrArg Int32.toInt ((up2_o hV50 (by decide)).trans (ajV15 42 b rfl))
                have pq72 : (V50 41 b).toInt = ((V 41 b)).toInt := congrArg Int32.toInt ((up2_o hV50 (by decide)).trans (ajV15 41 b rfl))
                have af74 : (V50 42 b).toInt ≤ (V50 84 gf).toInt ∨ (bdp V50 b (V50 84 gf).toInt.toNat).1 = true := by rw [(up2_s hV50), me60.1.bd, me60.1 42 b (by decide) (by decide)]; exact atn
                have mo73 : MO V50 Z b gf True True True := MO.ch xlp16_0 me60 (up2_o hV50 (by decide)) (up2_o hV50 (by decide)) (fun _ => Or.inl (by omega)) (fun x h => FK.k4 (by omega) (by omega) (by omega) af74 (by omega) (fun hph => absurd hph (by omega)))
                refine W.know (fun k76 k77 => ?_)
                obtain ⟨Hk75, hHk75⟩ : ∃ z, z = H := ⟨_, rfl⟩
                have k76 : Hk75.size ≤ s.heap.size + (zcc Z - zcc Z) := by rw [hHk75]; exact k76
                have k77 : tot Hk75 ≤ tot s.heap + (zss Z - zss Z) := by rw [hHk75]; exact k77
                refine gZ_int (gA_runV (As := [.ref (Z.fa gf), .int (V 48 (8200 * b + (Int32.toNatClampNeg (V15 84 gf))))]) (rest := []) (ci := 5) (q0 := 5) hx hb hml hown hg hP hD hK hS hA hnw hgk (x_worksAlone l D ks H.size ad kk V50 L Z (V 48 (8200 * b + (Int32.toNatClampNeg (V15 84 gf)))) (b) (gf) hMV50 (show b < 2 from by (first | exact om_f940a4667dd6 hb2 | omega)) (show gf < Z.nf from by (first | exact om_8c5722e49bb1 hgf | omega)) mo73 (show (gf : Int) + 1 = (V50 5 6).toInt from by (first | exact om_6e5bbaaa0e03 xlp16_1 pq57 | omega)) (show (V50 67 gf).toInt = 4 from by (first | exact om_ac6651f4ff0c xlp16_2 pq58 | omega)) (show (V50 68 gf).toInt = 0 from by (first | exact om_36161e850215 xlp16_3 pq59 | omega))) w1489 w1491 w77 w171 w1492 rfl xgMachine hdV_yX5_worksAlone ⟨Nat.le_of_ble_eq_true rfl, Nat.le_of_ble_eq_true rfl⟩ rfl hl.1 rfl (Nat.le_of_ble_eq_true rfl) dX5_work_109 ⟨z1 zoZ.1, z1 zoZ.2.1⟩) hD hS hA (fun z78 u79 H locs w80 hP hD hK hS y81 y82 => ?_)
                obtain ⟨V83, L84, Z85⟩ := u79
                obtain ⟨hMV83, ajV83, axL84, zlZ85, rgz78, t87, t88, t89, t90⟩ := w80
                have axL84 : L = L84 := Eq.symm axL84
                subst axL84
                have hP : va_P D vwCl (xw ad kk V83 L Z85) H := hP
                have hD : va_D A (xw ad kk V83 L Z85) := hD
                have hK : va_K D vwCl (xty kk Z85) s := hK
                have hMV83 : rgd bX V83 := hMV83
                have ajV83 : agr [(5, 6), (5, 7), (5, 9), (5, 10), (5, 13), (5, 14)] [39, 67, 68, 69, 70, 71, 72, 73, 74, 75, 76, 77, 78, 79, 80, 81, 82, 83, 84, 85] V50 V83 := ajV83
                have agV83 : agr [(5, 6), (5, 7), (5, 9), (5, 10), (5, 11), (5, 12), (5, 13), (5, 14)] [39, 67, 68, 69, 70, 71, 72, 73, 74, 75, 76, 77, 78, 79, 80, 81, 82, 83, 84, 85] V V83 := agV50.tr ajV83 (by decide) (by decide)
                have zlZ85 : ZL Z Z85 := zlZ85
                have zoZ85 : ZL Z Z85 := ZL.tr zoZ zlZ85
                have ziZ85 := zlZ85.1
                have zjZ85 := zlZ85.2.1
                have zkZ85 := zlZ85.2.2.1
                have zmZ85 := zoZ85.1
                have znZ85 := zoZ85.2.1
                have zpZ_Z85 := zoZ.1
                have zqZ_Z85 := zoZ.2.1
                have y81 : H.size ≤ Hk75.size + (zcc Z - zcc Z85) := by rw [hHk75]; exact y81
                have y82 : tot H ≤ tot Hk75 + (zss Z - zss Z85) := by rw [hHk75]; exact y82
                refine W.tight (k := zcc Z - zcc Z85) (n := zss Z - zss Z85) (by first | exact tg9 y81 k76 zlZ85.1 zoZ.1 | omega) (by first | exact tg9 y82 k77 zlZ85.2.1 zoZ.2.1 | omega) ?_
                have hl : lv_has ls 6 [(4, .int (V 48 (8200 * b + (Int32.toNatClampNeg (V15 84 gf))))), (3, .int y13), (2, .int y14), (0, .ref (ad 5)), (1, .ref (Z85.fa gf))] := by rw [zlZ85.2.2.2.2 gf hgf]; exact hl
                have rgz78 : 0 ≤ z78.toInt ∧ z78.toInt ≤ 1 := rgz78
                have t87 : Imp (z78.toInt = 1) (MO V83 Z85 b gf True True True) := t87
                have t88 : Imp (z78.toInt = 0) (MJ V83 Z85 b) := t88
                have t89 : Imp (z78.toInt = 1) ((V83 5 6).toInt = (V50 5 6).toInt ∧ (V83 67 gf).toInt = 4 ∧ (V83 68 gf).toInt = 0) := t89
                have t90 : Imp (z78.toInt = 1) (Z85 = Z) := t90
                have r91 : 0 ≤ ((V83 5 6)).toInt ∧ ((V83 5 6)).toInt ≤ 400 := hMV83 5 6
                refine lv_istore_n (lv' := [(2, .int z78), (4, .int (V 48 (8200 * b + (Int32.toNatClampNeg (V15 84 gf))))), (3, .int y13), (0, .ref (ad 5)), (1, .ref (Z85.fa gf))]) hx hb dX5_work_112 rfl hl (by decide) rfl (fun ls hl => ?_)
                by_cases hr0 : z78.toInt = 0
                · skip
                  obtain ⟨z92, ez92⟩ : ∃ y : Int32, y = y13 + 1 := ⟨_, rfl⟩
                  have hz92 : z92.toInt = y13.toInt + 1 := i_add ez92 rfl (by decide) (by (first | exact om_f150dd2841b6 r12.2 klp16_0.1 f39 | omega))
                  refine lv_iinc (v := z92) (lv' := [(3, .int z92), (2, .int z78), (4, .int (V 48 (8200 * b + (Int32.toNatClampNeg (V15 84 gf))))), (0, .ref (ad 5)), (1, .ref (Z85.fa gf))]) hx hb dX5_work_113 hl (k := 2) rfl (by rw [ez92]; rfl) (by decide) rfl (fun ls hl => ?_)
                  refine lv_goto (tgt := 4) hx hb dX5_work_116 (by decide) ?_
                  refine lv_iload_n hx hb dX5_work_4 rfl (lv_at hl 1 rfl) ?_
                  refine lv_if_eq (tgt := 119) hx hb dX5_work_5 (by decide) (fun c93 => ?_) (fun c93 => ?_)
                  · skip
                    have f94 : z78.toInt = 0 := b_eq rfl (by decide) c93
                    refine W.know (fun kr1 kr2 => ?_)
                    refine W.widen (k := zcc Z) (n := zss Z) (Nat.sub_le _ _) (Nat.sub_le _ _) ?_
                    exact W.vret hx hb hr (fun t ht hW => ⟨⟨(V83, L, Z85), rfl, ⟨hMV83, agV83, rfl, zoZ85, (Imp.go t88 (by (first | exact om_b1799fcf2d63 rgz78.1 f94 | omega)))⟩, ⟨by rw [ht]; exact hP, va_K.moved hW.alike hK, hD⟩, by rw [ht]; exact kr1, by rw [ht]; exact kr2⟩, hS.F ht⟩) hS.2.2 dX5_work_119
                  · skip
                    have f95 : z78.toInt ≠ 0 := b_neq rfl (by decide) c93
                    exfalso; first | omega | ((try (have i_t89 := Imp.go t89 (by omega))); omega)
                · skip
                  have hr1 : z78.toInt = 1 := by omega
                  have ezz : Z85 = Z := Imp.go t90 hr1
                  have hP : va_P D vwCl (xw ad kk V83 L Z) H := by rw [← ezz]; exact hP
                  have hD : va_D A (xw ad kk V83 L Z) := by rw [← ezz]; exact hD
                  have hK : va_K D vwCl (xty kk Z) s := by rw [← ezz]; exact hK
                  have hl : lv_has ls 6 [(2, .int z78), (4, .int (V 48 (8200 * b + (Int32.toNatClampNeg (V15 84 gf))))), (3, .int y13), (0, .ref (ad 5)), (1, .ref (Z.fa gf))] := by rw [← ezz]; exact hl
                  rw [ezz]
                  have mo96 : MO V83 Z b gf True True True := by rw [← ezz]; exact Imp.go t87 hr1
                  have hpk := Imp.go t89 hr1
                  obtain ⟨z97, ez97⟩ : ∃ y : Int32, y = y13 + 1 := ⟨_, rfl⟩
                  have hz97 : z97.toInt = y13.toInt + 1 := i_add ez97 rfl (by decide) (by (first | exact om_f150dd2841b6 r12.2 klp16_0.1 f39 | omega))
                  refine lv_iinc (v := z97) (lv' := [(3, .int z97), (2, .int z78), (4, .int (V 48 (8200 * b + (Int32.toNatClampNeg (V15 84 gf))))), (0, .ref (ad 5)), (1, .ref (Z.fa gf))]) hx hb dX5_work_113 hl (k := 2) rfl (by rw [ez97]; rfl) (by decide) rfl (fun ls hl => ?_)
                  refine lv_goto (tgt := 4) hx hb dX5_work_116 (by decide) ?_
                  exact ihlp16 z97 z78 V83 H locs ls (by first | exact om_4c7236201e99 r12.2 klp16_0.1 f39 hz97 | first | omega | ((try (have i_t89 := Imp.go t89 (by omega))); omega)) (by first | exact om_e6bad570a1f1 rgz78.2 hr1 | first | omega | ((try (have i_t89 := Imp.go t89 (by omega))); omega)) mo96 (show (gf : Int) + 1 = (V83 5 6).toInt from by first | exact om_697b823fa352 xlp16_1 pq57 ((Imp.go t89 (hr1)).1) | first | omega | ((try (have i_t89 := Imp.go t89 (by omega))); omega)) (show (V83 67 gf).toInt = 4 from by first | exact om_c88e7ce0b8a2 ((Imp.go t89 (hr1)).2.1) | first | omega | ((try (have i_t89 := Imp.go t89 (by omega))); omega)) (show (V83 68 gf).toInt = 0 from by first | exact om_b66ba74381d5 ((Imp.go t89 (hr1)).2.2) | first | omega | ((try (have i_t89 := Imp.go t89 (by omega))); omega)) (by first | exact om_5e93b663c12e hn hz97 | first | omega | ((try (have i_t89 := Imp.go t89 (by omega))); omega)) (agr.tr (agr.up (agr.tr agr.rf ajV15 (by decide) (by decide)) hV50 rfl) ajV83 (by decide) (by decide)) hMV83 hP hD hS (lv_sub hl [0, 1, 3, 4] rfl)
              · skip
                have f98 : 5 ≤ ((V 48 (8200 * b + (Int32.toNatClampNeg (V15 84 gf))))).toInt := b_nlt rfl (by decide) c55
                refine lv_aload_n hx hb dX5_work_81 rfl (lv_at hl 3 rfl) ?_
                refine gA_int (gA_runV (As := []) (rest := []) (ci := 5) (q0 := 5) hx hb hml hown hg hP hD hK hS hA hnw hgk (x_mpull l D ks H.size ad kk V50 L Z  hMV50 ) w1482 w1484 w76 w171 w1485 rfl xgMachine hdV_yX5_pull ⟨Nat.le_of_ble_eq_true rfl, Nat.le_of_ble_eq_true rfl⟩ rfl hl.1 rfl (Nat.le_of_ble_eq_true rfl) dX5_work_82 ⟨z0, z0⟩) hP hD hK hS hA (fun z99 u100 H locs w101 hP hD hK hS => ?_)
                obtain ⟨V102, L103⟩ := u100
                obtain ⟨hMV102, ajV102, axL103⟩ := w101
                have axL103 : L = L103 := Eq.symm axL103
                subst axL103
                have hP : va_P D vwCl (xw ad kk V102 L Z) H := hP
                have hD : va_D A (xw ad kk V102 L Z) := hD
                have hMV102 : rgd bX V102 := hMV102
                have ajV102 : agr [(5, 7)] [] V50 V102 := ajV102
                have agV102 : agr [(5, 6), (5, 7), (5, 9), (5, 10), (5, 11), (5, 12), (5, 13), (5, 14)] [39, 67, 68, 69, 70, 71, 72, 73, 74, 75, 76, 77, 78, 79, 80, 81, 82, 83, 84, 85] V V102 := agV50.tr ajV102 (by decide) (by decide)
                refine lv_istore (lv' := [(5, .int z99), (4, .int (V 48 (8200 * b + (Int32.toNatClampNeg (V15 84 gf))))), (3, .int y13), (2, .int y14), (0, .ref (ad 5)), (1, .ref (Z.fa gf))]) hx hb dX5_work_85 hl (by decide) rfl (fun ls hl => ?_)
                refine lv_aload_n hx hb dX5_work_87 rfl (lv_at hl 4 rfl) ?_
                refine lv_iload hx hb dX5_work_88 (lv_at hl 1 rfl) ?_
                refine lv_aload_n hx hb dX5_work_90 rfl (lv_at hl 4 rfl) ?_
                refine gA_int (gA_runV (As := []) (rest := [.int (V 48 (8200 * b + (Int32.toNatClampNeg (V15 84 gf)))), .ref (ad 5)]) (ci := 5) (q0 := 5) hx hb hml hown hg hP hD hK hS hA hnw hgk (x_mpull l D ks H.size ad kk V102 L Z  hMV102 ) w1482 w1484 w76 w171 w1485 rfl xgMachine hdV_yX5_pull ⟨Nat.le_of_ble_eq_true rfl, Nat.le_of_ble_eq_true rfl⟩ rfl hl.1 rfl (Nat.le_of_ble_eq_true rfl) dX5_work_91 ⟨z0, z0⟩) hP hD hK hS hA (fun z104 u105 H locs w106 hP hD hK hS => ?_)
                obtain ⟨V107, L108⟩ := u105
                obtain ⟨hMV107, ajV107, axL108⟩ := w106
                have axL108 : L = L108 := Eq.symm axL108
                subst axL108
                have hP : va_P D vwCl (xw ad kk V107 L Z) H := hP
                have hD : va_D A (xw ad kk V107 L Z) := hD
                have hMV107 : rgd bX V107 := hMV107
                have ajV107 : agr [(5, 7)] [] V102 V107 := ajV107
                have agV107 : agr [(5, 6), (5, 7), (5, 9), (5, 10), (5, 11), (5, 12), (5, 13), (5, 14)] [39, 67, 68, 69, 70, 71, 72, 73, 74, 75, 76, 77, 78, 79, 80, 81, 82, 83, 84, 85] V V107 := agV102.tr ajV107 (by decide) (by decide)
                refine lv_iload hx hb dX5_work_94 (lv_at hl 0 rfl) ?_
                refine gE_int (g_runS (As := [.int (V 48 (8200 * b + (Int32.toNatClampNeg (V15 84 gf)))), .int z104, .int z99]) (rest := [.ref (ad 5)]) (wc := []) (tc := []) hx hb hml hown hg gw_self hP hD hK hS hA hnw hgk [] [] (by decide) rfl rfl (x_compute l D ks H.size (V 48 (8200 * b + (Int32.toNatClampNeg (V15 84 gf)))) z104 z99 ) w1486 w1487 w171 w1488 hdS_yX5_compute ⟨Nat.le_of_ble_eq_true rfl, Nat.le_of_ble_eq_true rfl⟩ rfl hl.1 rfl (Nat.le_of_ble_eq_true rfl) dX5_work_96 ⟨z0, z0⟩) hP hD hK hS hA (fun z109 u110 H locs w111 hP hD hK hS => ?_)
                refine gA_void (gA_runV (As := [.int z109]) (rest := []) (ci := 5) (q0 := 5) hx hb hml hown hg hP hD hK hS hA hnw hgk (x_mput l D ks H.size ad kk V107 L Z z109 hMV107 ) w1466 w1468 w72 w171 w1469 rfl xgMachine hdV_yX5_put ⟨Nat.le_of_ble_eq_true rfl, Nat.le_of_ble_eq_true rfl⟩ rfl hl.1 rfl (Nat.le_of_ble_eq_true rfl) dX5_work_99 ⟨z0, z0⟩) hP hD hK hS hA (fun u113 H locs w114 hP hD hK hS => ?_)
                obtain ⟨V115, L116⟩ := u113
                obtain ⟨hMV115, ajV115, axL116⟩ := w114
                have axL116 : L = L116 := Eq.symm axL116
                subst axL116
                have hP : va_P D vwCl (xw ad kk V115 L Z) H := hP
                have hD : va_D A (xw ad kk V115 L Z) := hD
                have hMV115 : rgd bX V115 := hMV115
                have ajV115 : agr [(5, 7)] [39] V107 V115 := ajV115
                have agV115 : agr [(5, 6), (5, 7), (5, 9), (5, 10), (5, 11), (5, 12), (5, 13), (5, 14)] [39, 67, 68, 69, 70, 71, 72, 73, 74, 75, 76, 77, 78, 79, 80, 81, 82, 83, 84, 85] V V115 := agV107.tr ajV115 (by decide) (by decide)
                refine lv_goto (tgt := 113) hx hb dX5_work_102 (by decide) ?_
                obtain ⟨z117, ez117⟩ : ∃ y : Int32, y = y13 + 1 := ⟨_, rfl⟩
                have hz117 : z117.toInt = y13.toInt + 1 := i_add ez117 rfl (by decide) (by (first | exact om_f150dd2841b6 r12.2 klp16_0.1 f39 | omega))
                refine lv_iinc (v := z117) (lv' := [(3, .int z117), (5, .int z99), (4, .int (V 48 (8200 * b + (Int32.toNatClampNeg (V15 84 gf))))), (2, .int y14), (0, .ref (ad 5)), (1, .ref (Z.fa gf))]) hx hb dX5_work_113 hl (k := 2) rfl (by rw [ez117]; rfl) (by decide) rfl (fun ls hl => ?_)
                refine lv_goto (tgt := 4) hx hb dX5_work_116 (by decide) ?_
                have pq118 : (V115 5 6).toInt = ((V15 5 6)).toInt := congrArg Int32.toInt ((ajV115 5 6 rfl).trans ((ajV107 5 6 rfl).trans ((ajV102 5 6 rfl).trans (up2_o hV50 (by decide)))))
                have pq119 : (V115 67 gf).toInt = ((V15 67 gf)).toInt := congrArg Int32.toInt ((ajV115 67 gf rfl).trans ((ajV107 67 gf rfl).trans ((ajV102 67 gf rfl).trans (up2_o hV50 (by decide)))))
                have pq120 : (V115 68 gf).toInt = ((V15 68 gf)).toInt := congrArg Int32.toInt ((ajV115 68 gf rfl).trans ((ajV107 68 gf rfl).trans ((ajV102 68 gf rfl).trans (up2_o hV50 (by decide)))))
                have me121 : ME V15 V115 gf := (ME.tr (ME.tr (ME.tr (ME.up ME.rf hV50 (Or.inl ⟨by decide, by decide, Nat.le_refl _⟩)) (ME.ag ajV102 (by decide))) (ME.ag ajV107 (by decide))) (ME.ag ajV115 (by decide)))
                have pq122 : (V115 70 gf).toInt = ((V15 70 gf)).toInt := congrArg Int32.toInt ((ajV115 70 gf rfl).trans ((ajV107 70 gf rfl).trans ((ajV102 70 gf rfl).trans (up2_o hV50 (by decide)))))
                have pq123 : (V115 71 gf).toInt = ((V15 71 gf)).toInt := congrArg Int32.toInt ((ajV115 71 gf rfl).trans ((ajV107 71 gf rfl).trans ((ajV102 71 gf rfl).trans (up2_o hV50 (by decide)))))
                have pq124 : (V115 75 gf).toInt = ((V15 75 gf)).toInt := congrArg Int32.toInt ((ajV115 75 gf rfl).trans ((ajV107 75 gf rfl).trans ((ajV102 75 gf rfl).trans (up2_o hV50 (by decide)))))
                have pq125 : (V115 76 gf).toInt = ((V15 76 gf)).toInt := congrArg Int32.toInt ((ajV115 76 gf rfl).trans ((ajV107 76 gf rfl).trans ((ajV102 76 gf rfl).trans (up2_o hV50 (by decide)))))
                have pq126 : (V115 80 gf).toInt = ((V15 80 gf)).toInt := congrArg Int32.toInt ((ajV115 80 gf rfl).trans ((ajV107 80 gf rfl).trans ((ajV102 80 gf rfl).trans (up2_o hV50 (by decide)))))
                have pq127 : (V115 84 gf).toInt = z49.toInt := congrArg Int32.toInt ((ajV115 84 gf rfl).trans ((ajV107 84 gf rfl).trans ((ajV102 84 gf rfl).trans (up2_s hV50))))
                have pq128 : (V115 5 8).toInt = ((V 5 8)).toInt := congrArg Int32.toInt ((ajV115 5 8 rfl).trans ((ajV107 5 8 rfl).trans ((ajV102 5 8 rfl).trans ((up2_o hV50 (by decide)).trans (ajV15 5 8 rfl)))))
                have pq129 : (V115 5 9).toInt = ((V15 5 9)).toInt := congrArg Int32.toInt ((ajV115 5 9 rfl).trans ((ajV107 5 9 rfl).trans ((ajV102 5 9 rfl).trans (up2_o hV50 (by decide)))))
                have pq130 : (V115 3 13).toInt = ((V 3 13)).toInt := congrArg Int32.toInt ((ajV115 3 13 rfl).trans ((ajV107 3 13 rfl).trans ((ajV102 3 13 rfl).trans ((up2_o hV50 (by decide)).trans (ajV15 3 13 rfl)))))
                have pq131 : (V115 43 (5 * b + 2)).toInt = ((V 43 (5 * b + 2))).toInt := congrArg Int32.toInt ((ajV115 43 (5 * b + 2) rfl).trans ((ajV107 43 (5 * b + 2) rfl).trans ((ajV102 43 (5 * b + 2) rfl).trans ((up2_o hV50 (by decide)).trans (ajV15 43 (5 * b + 2) rfl)))))
                have pq132 : (V115 42 b).toInt = ((V 42 b)).toInt := congrArg Int32.toInt ((ajV115 42 b rfl).trans ((ajV107 42 b rfl).trans ((ajV102 42 b rfl).trans ((up2_o hV50 (by decide)).trans (ajV15 42 b rfl)))))
                have pq133 : (V115 41 b).toInt = ((V 41 b)).toInt := congrArg Int32.toInt ((ajV115 41 b rfl).trans ((ajV107 41 b rfl).trans ((ajV102 41 b rfl).trans ((up2_o hV50 (by decide)).trans (ajV15 41 b rfl)))))
                have af135 : (V115 42 b).toInt ≤ (V115 84 gf).toInt ∨ (bdp V115 b (V115 84 gf).toInt.toNat).1 = true := by rw [((ajV115 84 gf rfl).trans ((ajV107 84 gf rfl).trans ((ajV102 84 gf rfl).trans (up2_s hV50)))), me121.1.bd, me121.1 42 b (by decide) (by decide)]; exact atn
                have mo134 : MO V115 Z b gf True True True := MO.ch xlp16_0 me121 ((ajV115 67 gf rfl).trans ((ajV107 67 gf rfl).trans ((ajV102 67 gf rfl).trans (up2_o hV50 (by decide))))) ((ajV115 80 gf rfl).trans ((ajV107 80 gf rfl).trans ((ajV102 80 gf rfl).trans (up2_o hV50 (by decide))))) (fun _ => Or.inl (by omega)) (fun x h => FK.k4 (by omega) (by omega) (by omega) af135 (by omega) (fun hph => absurd hph (by omega)))
                exact ihlp16 z117 y14 V115 H locs ls (by (first | exact om_4c7236201e99 r12.2 klp16_0.1 f39 hz117 | omega)) (by (first | exact om_1b1f2d1cff90 klp16_1.1 klp16_1.2 | omega)) mo134 (show (gf : Int) + 1 = (V115 5 6).toInt from by (first | exact om_6e5bbaaa0e03 xlp16_1 pq118 | omega)) (show (V115 67 gf).toInt = 4 from by (first | exact om_ac6651f4ff0c xlp16_2 pq119 | omega)) (show (V115 68 gf).toInt = 0 from by (first | exact om_36161e850215 xlp16_3 pq120 | omega)) (by (first | exact om_5e93b663c12e hn hz117 | omega)) (agr.tr (agr.tr (agr.tr (agr.up (agr.tr agr.rf ajV15 (by decide) (by decide)) hV50 rfl) ajV102 (by decide) (by decide)) ajV107 (by decide) (by decide)) ajV115 (by decide) (by decide)) hMV115 hP hD hS (lv_sub hl [0, 3, 4, 5] rfl)
            · skip
              have f136 : 10 ≤ ((V 48 (8200 * b + (Int32.toNatClampNeg (V15 84 gf))))).toInt := b_nlt rfl (by decide) c53
              refine lv_aload_n hx hb dX5_work_64 rfl (lv_at hl 3 rfl) ?_
              refine lv_aload_n hx hb dX5_work_65 rfl (lv_at hl 4 rfl) ?_
              refine lv_iload hx hb dX5_work_66 (lv_at hl 0 rfl) ?_
              have pq137 : (V50 5 6).toInt = ((V15 5 6)).toInt := congrArg Int32.toInt (up2_o hV50 (by decide))
              have pq138 : (V50 67 gf).toInt = ((V15 67 gf)).toInt := congrArg Int32.toInt (up2_o hV50 (by decide))
              have pq139 : (V50 68 gf).toInt = ((V15 68 gf)).toInt := congrArg Int32.toInt (up2_o hV50 (by decide))
              have pq140 : (V50 84 gf).toInt = z49.toInt := congrArg Int32.toInt (up2_s hV50)
              have moa141 : MOa V50 Z b gf := MOa.up (MO.a xlp16_0 (by (first | exact om_c88e7ce0b8a2 xlp16_2 | omega)) (by (first | exact om_7ed1cb9eefb0 r12.2 pq27 | omega))) hV50
              have me142 : ME V15 V50 0 := (ME.up ME.rf hV50 (Or.inl ⟨by decide, by decide, by omega⟩))
              have hop143 : ∀ a : Nat, (a : Int) = (V50 84 gf).toInt → (a : Int) < (V50 42 b).toInt → okO V50 b ((V 48 (8200 * b + (Int32.toNatClampNeg (V15 84 gf))))).toInt (V50 48 (8200 * b + a)).toInt ∧ (bdp V50 b (a + 1)).1 = true := fun a ha hl => cd_op mup.2.2.1 me142.1 hbd (by omega) (by omega) a (by omega) hl
              refine gA_int (gA_runV (As := [.ref (Z.fa gf), .int (V 48 (8200 * b + (Int32.toNatClampNeg (V15 84 gf))))]) (rest := []) (ci := 5) (q0 := 5) hx hb hml hown hg hP hD hK hS hA hnw hgk (x_worksWith l D ks H.size ad kk V50 L Z (V 48 (8200 * b + (Int32.toNatClampNeg (V15 84 gf)))) (b) (gf) hMV50 (by omega) (show b < 2 from by (first | exact om_f940a4667dd6 hb2 | omega)) (show gf < Z.nf from by (first | exact om_8c5722e49bb1 hgf | omega)) moa141 (show (gf : Int) + 1 = (V50 5 6).toInt from by (first | exact om_6e5bbaaa0e03 xlp16_1 pq137 | omega)) (show (V50 67 gf).toInt = 4 from by (first | exact om_ac6651f4ff0c xlp16_2 pq138 | omega)) (show (V50 68 gf).toInt = 0 from by (first | exact om_36161e850215 xlp16_3 pq139 | omega)) (show (V50 84 gf).toInt ≤ 8200 from by (first | exact om_e3dfe80441bf r12.2 f46 hz49 pq140 | omega)) hop143) w1478 w1480 w75 w171 w1481 rfl xgMachine hdV_yX5_worksWith ⟨Nat.le_of_ble_eq_true rfl, Nat.le_of_ble_eq_true rfl⟩ rfl hl.1 rfl (Nat.le_of_ble_eq_true rfl) dX5_work_68 ⟨z0, z0⟩) hP hD hK hS hA (fun z144 u145 H locs w146 hP hD hK hS => ?_)
              obtain ⟨V150, L151⟩ := u145
              obtain ⟨hMV150, ajV150, axL151, rgz144, t147, t148, t149⟩ := w146
              have axL151 : L = L151 := Eq.symm axL151
              subst axL151
              have hP : va_P D vwCl (xw ad kk V150 L Z) H := hP
              have hD : va_D A (xw ad kk V150 L Z) := hD
              have hMV150 : rgd bX V150 := hMV150
              have ajV150 : agr [(5, 6), (5, 7), (5, 9), (5, 11), (5, 12)] [39, 68, 75, 77, 78, 84] V50 V150 := ajV150
              have agV150 : agr [(5, 6), (5, 7), (5, 9), (5, 10), (5, 11), (5, 12), (5, 13), (5, 14)] [39, 67, 68, 69, 70, 71, 72, 73, 74, 75, 76, 77, 78, 79, 80, 81, 82, 83, 84, 85] V V150 := agV50.tr ajV150 (by decide) (by decide)
              have rgz144 : 0 ≤ z144.toInt ∧ z144.toInt ≤ 1 := rgz144
              have t147 : Imp (z144.toInt = 1) (MO V150 Z b gf True True True) := t147
              have t148 : Imp (z144.toInt = 0) (MJ V150 Z b) := t148
              have t149 : Imp (z144.toInt = 1) ((V150 5 6).toInt = (V50 5 6).toInt ∧ (V150 67 gf).toInt = 4 ∧ (V150 68 gf).toInt = 0) := t149
              have r152 : 0 ≤ ((V150 5 6)).toInt ∧ ((V150 5 6)).toInt ≤ 400 := hMV150 5 6
              refine lv_istore_n (lv' := [(2, .int z144), (4, .int (V 48 (8200 * b + (Int32.toNatClampNeg (V15 84 gf))))), (3, .int y13), (0, .ref (ad 5)), (1, .ref (Z.fa gf))]) hx hb dX5_work_71 rfl hl (by decide) rfl (fun ls hl => ?_)
              refine lv_goto (tgt := 113) hx hb dX5_work_72 (by decide) ?_
              by_cases hr0 : z144.toInt = 0
              · skip
                obtain ⟨z153, ez153⟩ : ∃ y : Int32, y = y13 + 1 := ⟨_, rfl⟩
                have hz153 : z153.toInt = y13.toInt + 1 := i_add ez153 rfl (by decide) (by (first | exact om_f150dd2841b6 r12.2 klp16_0.1 f39 | omega))
                refine lv_iinc (v := z153) (lv' := [(3, .int z153), (2, .int z144), (4, .int (V 48 (8200 * b + (Int32.toNatClampNeg (V15 84 gf))))), (0, .ref (ad 5)), (1, .ref (Z.fa gf))]) hx hb dX5_work_113 hl (k := 2) rfl (by rw [ez153]; rfl) (by decide) rfl (fun ls hl => ?_)
                refine lv_goto (tgt := 4) hx hb dX5_work_116 (by decide) ?_
                refine lv_iload_n hx hb dX5_work_4 rfl (lv_at hl 1 rfl) ?_
                refine lv_if_eq (tgt := 119) hx hb dX5_work_5 (by decide) (fun c154 => ?_) (fun c154 => ?_)
                · skip
                  have f155 : z144.toInt = 0 := b_eq rfl (by decide) c154
                  refine W.know (fun kr1 kr2 => ?_)
                  refine W.widen (k := zcc Z) (n := zss Z) (Nat.sub_le _ _) (Nat.sub_le _ _) ?_
                  exact W.vret hx hb hr (fun t ht hW => ⟨⟨(V150, L, Z), rfl, ⟨hMV150, agV150, rfl, zoZ, (Imp.go t148 (by (first | exact om_b1799fcf2d63 rgz144.1 f155 | omega)))⟩, ⟨by rw [ht]; exact hP, va_K.moved hW.alike hK, hD⟩, by rw [ht]; exact kr1, by rw [ht]; exact kr2⟩, hS.F ht⟩) hS.2.2 dX5_work_119
                · skip
                  have f156 : z144.toInt ≠ 0 := b_neq rfl (by decide) c154
                  exfalso; first | omega | ((try (have i_t149 := Imp.go t149 (by omega))); omega)
              · skip
                have hr1 : z144.toInt = 1 := by omega
                have mo157 : MO V150 Z b gf True True True := Imp.go t147 hr1
                have hpk := Imp.go t149 hr1
                obtain ⟨z158, ez158⟩ : ∃ y : Int32, y = y13 + 1 := ⟨_, rfl⟩
                have hz158 : z158.toInt = y13.toInt + 1 := i_add ez158 rfl (by decide) (by (first | exact om_f150dd2841b6 r12.2 klp16_0.1 f39 | omega))
                refine lv_iinc (v := z158) (lv' := [(3, .int z158), (2, .int z144), (4, .int (V 48 (8200 * b + (Int32.toNatClampNeg (V15 84 gf))))), (0, .ref (ad 5)), (1, .ref (Z.fa gf))]) hx hb dX5_work_113 hl (k := 2) rfl (by rw [ez158]; rfl) (by decide) rfl (fun ls hl => ?_)
                refine lv_goto (tgt := 4) hx hb dX5_work_116 (by decide) ?_
                have pq159 : (V150 67 gf).toInt = ((V15 67 gf)).toInt := congrArg Int32.toInt ((ajV150 67 gf rfl).trans (up2_o hV50 (by decide)))
                exact ihlp16 z158 z144 V150 H locs ls (by first | exact om_4c7236201e99 r12.2 klp16_0.1 f39 hz158 | first | omega | ((try (have i_t149 := Imp.go t149 (by omega))); omega)) (by first | exact om_e6bad570a1f1 rgz144.2 hr1 | first | omega | ((try (have i_t149 := Imp.go t149 (by omega))); omega)) mo157 (show (gf : Int) + 1 = (V150 5 6).toInt from by first | exact om_697b823fa352 xlp16_1 pq137 ((Imp.go t149 (hr1)).1) | first | omega | ((try (have i_t149 := Imp.go t149 (by omega))); omega)) (show (V150 67 gf).toInt = 4 from by first | exact om_ac6651f4ff0c xlp16_2 pq159 | first | omega | ((try (have i_t149 := Imp.go t149 (by omega))); omega)) (show (V150 68 gf).toInt = 0 from by first | exact om_b66ba74381d5 ((Imp.go t149 (hr1)).2.2) | first | omega | ((try (have i_t149 := Imp.go t149 (by omega))); omega)) (by first | exact om_5e93b663c12e hn hz158 | first | omega | ((try (have i_t149 := Imp.go t149 (by omega))); omega)) (agr.tr (agr.up (agr.tr agr.rf ajV15 (by decide) (by decide)) hV50 rfl) ajV150 (by decide) (by decide)) hMV150 hP hD hS (lv_sub hl [0, 1, 3, 4] rfl)
  have r160 : Int32.toInt 0 = 0 := by decide
  have r161 : Int32.toInt 1 = 1 := by decide
  exact lp16 ((8200 - (Int32.toInt 0) + 1 : Int).toNat) 0 1 V H locs ls (by decide) (by decide) mo (show (gf : Int) + 1 = (V 5 6).toInt from by (first | exact om_b7eb86266639 gd | omega)) (show (V 67 gf).toInt = 4 from by (first | exact om_c88e7ce0b8a2 gk | omega)) (show (V 68 gf).toInt = 0 from by (first | exact om_b66ba74381d5 gph | omega)) (by (first | exact om_fef0be1a3cbf | omega)) agr.rf hMV hP hD hS (lv_sub hl [0, 1, 2, 3] rfl)
end
section
/-! bits -/
theorem bn_of {x : Int32} {n : Nat} (h : 0 ≤ x.toInt ∧ x.toInt < (n : Int)) : x.toBitVec.toNat < n ∧ (x.toBitVec.toNat : Int) = x.toInt := by
  have h2 : x.toInt = x.toBitVec.toInt := rfl
  have h3 := BitVec.toInt_eq_toNat_cond x.toBitVec
  have h4 := x.toBitVec.isLt
  rw [h2] at h ⊢
  rw [h3] at h ⊢
  split at h <;> split <;> omega
theorem bn_to {x : Int32} {n : Nat} (h : x.toBitVec.toNat < n) (hn : n ≤ 2147483648) : 0 ≤ x.toInt ∧ x.toInt < (n : Int) ∧ x.toInt = (x.toBitVec.toNat : Int) := by
  have h2 : x.toInt = x.toBitVec.toInt := rfl
  have h3 : x.toBitVec.toInt = (x.toBitVec.toNat : Int) := BitVec.toInt_eq_toNat_of_lt (by omega)
  omega
theorem or24 {x y z : Int32} (e : z = x ||| y) (hx : 0 ≤ x.toInt ∧ x.toInt < 16777216) (hy : 0 ≤ y.toInt ∧ y.toInt < 16777216) : 0 ≤ z.toInt ∧ z.toInt < 16777216 := by
  have ax := (bn_of (x := x) (n := 2 ^ 24) hx).1
  have ay := (bn_of (x := y) (n := 2 ^ 24) hy).1
  have az : z.toBitVec.toNat < 2 ^ 24 := by
    rw [e]
    show (x.toBitVec ||| y.toBitVec).toNat < 2 ^ 24
    rw [BitVec.toNat_or]
    exact Nat.or_lt_two_pow ax ay
  have b := bn_to az (by decide)
  exact ⟨b.1, b.2.1⟩
theorem shl_all : ∀ n : Fin 24, 0 ≤ ((1 : Int32) <<< (nI n.val &&& 31)).toInt ∧ ((1 : Int32) <<< (nI n.val &&& 31)).toInt < 16777216 := by decide +kernel
theorem shl1 {k z : Int32} (e : z = 1 <<< (k &&& 31)) (h : 0 ≤ k.toInt ∧ k.toInt ≤ 23) : 0 ≤ z.toInt ∧ z.toInt < 16777216 := by
  have c := i_clamp (x := k) rfl h.1
  have hk : k = nI (Int32.toNatClampNeg k) := Int32.toInt_inj.mp (by rw [nI_toInt (by omega)]; omega)
  rw [e, hk]
  exact shl_all ⟨Int32.toNatClampNeg k, by omega⟩
theorem and_left {x y z : Int32} (e : z = x &&& y) (hx : 0 ≤ x.toInt) : 0 ≤ z.toInt ∧ z.toInt ≤ x.toInt := by
  have f := i_full x
  have ax := bn_of (x := x) (n := 2147483648) ⟨hx, by omega⟩
  have az : z.toBitVec.toNat ≤ x.toBitVec.toNat := by
    rw [e]
    show (x.toBitVec &&& y.toBitVec).toNat ≤ _
    rw [BitVec.toNat_and]
    exact Nat.and_le_left
  have b := bn_to (x := z) (n := 2147483648) (by omega) (by decide)
  omega
theorem ushr_n {x y z : Int32} (e : z = (x.toUInt32 >>> (y.toUInt32 &&& Int32.toUInt32 31)).toInt32) (hx : 0 ≤ x.toInt) {k : Nat} (hk : y.toInt = (k : Int)) (h32 : k < 32) : z.toInt = ((x.toBitVec.toNat / 2 ^ k : Nat) : Int) ∧ (x.toBitVec.toNat : Int) = x.toInt := by
  have f := i_full x
  have ax := bn_of (x := x) (n := 2147483648) ⟨hx, by omega⟩
  have ay := bn_of (x := y) (n := 32) ⟨by omega, by omega⟩
  have hyk : y.toBitVec.toNat = k := by (first | exact om_c4e1e142d663 hk ay.2 | omega)
  have hz : z.toBitVec.toNat = x.toBitVec.toNat / 2 ^ k := by
    rw [e]
    show (x.toUInt32 >>> (y.toUInt32 &&& Int32.toUInt32 31)).toNat = _
    rw [UInt32.toNat_shiftRight, UInt32.toNat_and]
    have e1 : (Int32.toUInt32 31).toNat = 2 ^ 5 - 1 := by decide
    have e2 : y.toUInt32.toNat = k := hyk
    have e3 : x.toUInt32.toNat = x.toBitVec.toNat := rfl
    rw [e1, Nat.and_two_pow_sub_one_eq_mod, e2, e3, Nat.mod_eq_of_lt (show k < 2 ^ 5 from h32), Nat.mod_eq_of_lt h32, Nat.shiftRight_eq_div_pow]
  have b := bn_to (x := z) (n := 2147483648) (by rw [hz]; exact Nat.lt_of_le_of_lt (Nat.div_le_self _ _) ax.1) (by decide)
  rw [b.2.2, hz]
  exact ⟨rfl, ax.2⟩
theorem ushr_l {x y z : Int32} {P : Nat} (e : z = (x.toUInt32 >>> (y.toUInt32 &&& Int32.toUInt32 31)).toInt32) (hx : 0 ≤ x.toInt) {k : Nat} (hk : y.toInt = (k : Int)) (h32 : k < 32) (hP : 2 ^ k = P) : z.toInt = x.toInt / (P : Int) := by
  have h := ushr_n e hx hk h32
  rw [h.1, hP, ← h.2]
  exact Int.natCast_ediv _ _
theorem ushr_24 {x y z : Int32} (e : z = (x.toUInt32 >>> (y.toUInt32 &&& Int32.toUInt32 31)).toInt32) (hx : 0 ≤ x.toInt ∧ x.toInt < 16777216) (hy : 0 ≤ y.toInt ∧ y.toInt < 24) : 0 ≤ z.toInt ∧ z.toInt < ((2 ^ (24 - y.toInt.toNat) : Nat) : Int) := by
  have h := ushr_n (k := y.toInt.toNat) e hx.1 (by omega) (by omega)
  have hX : x.toBitVec.toNat < 2 ^ 24 := by have := h.2; omega
  have q : x.toBitVec.toNat / 2 ^ y.toInt.toNat < 2 ^ (24 - y.toInt.toNat) := by
    rw [Nat.div_lt_iff_lt_mul (Nat.two_pow_pos _), ← Nat.pow_add, show 24 - y.toInt.toNat + y.toInt.toNat = 24 from by omega]
    exact hX
  rw [h.1]
  exact ⟨Int.natCast_nonneg _, Int.ofNat_lt.mpr q⟩
theorem ushr_0 {x y z : Int32} (e : z = (x.toUInt32 >>> (y.toUInt32 &&& Int32.toUInt32 31)).toInt32) (hx : 0 ≤ x.toInt ∧ x.toInt < 16777216) (hy : 24 ≤ y.toInt ∧ y.toInt < 32) : z.toInt = 0 := by
  have h := ushr_n (k := y.toInt.toNat) e hx.1 (by omega) (by omega)
  have hX : x.toBitVec.toNat < 2 ^ 24 := by have := h.2; omega
  have q : 2 ^ 24 ≤ 2 ^ y.toInt.toNat := Nat.pow_le_pow_right (by decide) (by omega)
  rw [h.1, Nat.div_eq_of_lt (by omega)]
  rfl
theorem ntz_y {x a c y : Int32} (e1 : a = x ^^^ (-1)) (e2 : c = x - 1) (e3 : y = a &&& c) (hx : 0 < x.toInt) : 0 ≤ y.toInt ∧ y.toInt < x.toInt ∧ ∀ m : Nat, x.toInt < ((2 ^ m : Nat) : Int) → x.toInt + y.toInt < ((2 ^ m : Nat) : Int) := by
  have f := i_full x
  have ec : c.toInt = x.toInt - 1 := i_sub e2 rfl (by decide) (by (first | exact om_83e9854dafe1 hx f.2 | omega))
  have ax := bn_of (x := x) (n := 2147483648) ⟨by omega, by omega⟩
  have ac := bn_of (x := c) (n := 2147483648) ⟨by omega, by omega⟩
  have ey : y.toBitVec = (x.toBitVec ^^^ BitVec.allOnes 32) &&& c.toBitVec := by rw [e3, e1]; rfl
  have az : y.toBitVec.toNat ≤ c.toBitVec.toNat := by
    rw [ey, BitVec.toNat_and]
    exact Nat.and_le_right
  have b := bn_to (x := y) (n := 2147483648) (by omega) (by decide)
  have hz : x.toBitVec &&& y.toBitVec = 0#32 := by
    rw [ey]
    ext i hi
    rw [BitVec.getElem_and, BitVec.getElem_and, BitVec.getElem_xor, BitVec.getElem_allOnes, BitVec.getElem_zero]
    generalize x.toBitVec[i] = u
    generalize c.toBitVec[i] = v
    cases u <;> cases v <;> rfl
  refine ⟨b.1, by omega, fun m hm => ?_⟩
  have s := congrArg BitVec.toNat (BitVec.add_eq_or_of_and_eq_zero x.toBitVec y.toBitVec hz)
  rw [BitVec.toNat_add, BitVec.toNat_or, Nat.mod_eq_of_lt (by omega)] at s
  have hX : x.toBitVec.toNat < 2 ^ m := by omega
  have o := Nat.or_lt_two_pow hX (show y.toBitVec.toNat < 2 ^ m by omega)
  omega
theorem ntz_k {k m P : Nat} {x y : Int} (hP : 2 ^ k = P) (h1 : (P : Int) ≤ y) (h2 : x + y < ((2 ^ m : Nat) : Int)) (h3 : y < x) : k + 1 < m := by
  rcases Nat.lt_or_ge (k + 1) m with h | h
  · exact h
  · exfalso
    have q : 2 ^ m ≤ 2 ^ (k + 1) := Nat.pow_le_pow_right (by decide) h
    have q2 : 2 ^ (k + 1) = 2 * P := by rw [Nat.pow_succ, hP, Nat.mul_comm]
    omega
theorem ntz_0 {m : Nat} {x : Int} (h0 : 0 < x) (h : x < ((2 ^ m : Nat) : Int)) : 0 < m := by
  rcases Nat.eq_zero_or_pos m with h2 | h2
  · subst h2
    have : ((2 ^ 0 : Nat) : Int) = 1 := by decide
    omega
  · exact h2


abbrev r_x_nTZ2 : Room := { frames := 0, cells := 0, slots := 0, locals := 0 }
abbrev q_x_nTZ2 (D : va_G) (p0 : Int32) (A : Nat → Prop) : Array Value → State → Outcome → State → Prop := va_Qi (fun (r : Int32) (_ : Unit) => (0 ≤ r.toInt ∧ r.toInt ≤ 32) ∧ (∀ m : Nat, 0 < p0.toInt → p0.toInt < ((2 ^ m : Nat) : Int) → r.toInt < (m : Int))) (fun _ t => gq D A [] [] t) A
set_option maxHeartbeats 4000000 in
set_option maxRecDepth 100000 in
theorem x_nTZ2 (l : Launch) (D : va_G) (ks : KS) (sz : Nat) (p0 : Int32)  : Met l yJ6_numberOfTrailingZeros_0f7a4 (Cond.code yJ6_numberOfTrailingZeros_0f7a4 cJ6_numberOfTrailingZeros_0f7a4 2 (some .int) :: GW) r_x_nTZ2 (va_Pc [.int p0] (gp D ks ([]) ([]) sz)) (q_x_nTZ2 D p0 (va_A ([]) sz)) 0 0 (va_A ([]) sz) := by
  refine g_met (q_x_nTZ2 D p0) (by decide) (Nat.le_of_ble_eq_true rfl) ?_
  intro p e s m below meth c A ls H locs hx hb hr hml hown hg hlocks hin hnw hgk hP hK hD hS hA hl
  have hown : s.vm.findClass RJ6 = some m.cls := hown
  have hl : lv_has ls 2 [(0, .int p0)] := hl
  refine lv_iload_n hx hb dJ6_numberOfTrailingZeros_0f7a4_0 rfl (lv_at hl 0 rfl) ?_
  refine lv_iconst (v := (-1)) hx hb dJ6_numberOfTrailingZeros_0f7a4_1 (by decide) ?_
  refine lv_ixor hx hb dJ6_numberOfTrailingZeros_0f7a4_2 ?_
  refine lv_topi (fun z1 ez1 => ?_)
  refine lv_iload_n hx hb dJ6_numberOfTrailingZeros_0f7a4_3 rfl (lv_at hl 0 rfl) ?_
  refine lv_iconst (v := 1) hx hb dJ6_numberOfTrailingZeros_0f7a4_4 (by decide) ?_
  refine lv_isub hx hb dJ6_numberOfTrailingZeros_0f7a4_5 ?_
  have r2 := i_full p0
  refine lv_topi (fun z3 ez3 => ?_)
  have hz3 : Imp (-2147483648 ≤ p0.toInt - 1 ∧ p0.toInt - 1 ≤ 2147483647) (z3.toInt = p0.toInt - 1) := Imp.mk (fun hp => i_sub ez3 rfl (by decide) hp)
  refine lv_iand hx hb dJ6_numberOfTrailingZeros_0f7a4_6 ?_
  refine lv_topi (fun z4 ez4 => ?_)
  have nyf := i_full z4
  have nty : 0 < p0.toInt → _ := fun h => ntz_y ez1 ez3 ez4 h
  refine lv_istore_n (lv' := [(0, .int z4)]) hx hb dJ6_numberOfTrailingZeros_0f7a4_7 rfl hl (by decide) rfl (fun ls hl => ?_)
  refine lv_iload_n hx hb dJ6_numberOfTrailingZeros_0f7a4_8 rfl (lv_at hl 0 rfl) ?_
  refine lv_if_gt (tgt := 17) hx hb dJ6_numberOfTrailingZeros_0f7a4_9 (by decide) (fun c5 => ?_) (fun c5 => ?_)
  · skip
    have f6 : 0 < z4.toInt := b_lt (by decide) rfl c5
    refine lv_iconst (v := 1) hx hb dJ6_numberOfTrailingZeros_0f7a4_17 (by decide) ?_
    refine lv_istore_n (lv' := [(1, .int 1), (0, .int z4)]) hx hb dJ6_numberOfTrailingZeros_0f7a4_18 rfl hl (by decide) rfl (fun ls hl => ?_)
    refine lv_iload_n hx hb dJ6_numberOfTrailingZeros_0f7a4_19 rfl (lv_at hl 1 rfl) ?_
    refine lv_ldcw (v := 65536) hx hb hown (hg _ w1145) dJ6_numberOfTrailingZeros_0f7a4_20 ?_
    refine lv_icmp_le (tgt := 34) hx hb dJ6_numberOfTrailingZeros_0f7a4_23 (by decide) (fun c7 => ?_) (fun c7 => ?_)
    · skip
      have f8 : z4.toInt ≤ 65536 := b_le rfl (by decide) c7
      refine lv_iload_n hx hb dJ6_numberOfTrailingZeros_0f7a4_34 rfl (lv_at hl 1 rfl) ?_
      refine lv_sipush (v := 256) hx hb dJ6_numberOfTrailingZeros_0f7a4_35 (by decide) ?_
      refine lv_icmp_le (tgt := 49) hx hb dJ6_numberOfTrailingZeros_0f7a4_38 (by decide) (fun c9 => ?_) (fun c9 => ?_)
      · skip
        have f10 : z4.toInt ≤ 256 := b_le rfl (by decide) c9
        refine lv_iload_n hx hb dJ6_numberOfTrailingZeros_0f7a4_49 rfl (lv_at hl 1 rfl) ?_
        refine lv_bipush (v := 16) hx hb dJ6_numberOfTrailingZeros_0f7a4_50 (by decide) ?_
        refine lv_icmp_le (tgt := 62) hx hb dJ6_numberOfTrailingZeros_0f7a4_52 (by decide) (fun c11 => ?_) (fun c11 => ?_)
        · skip
          have f12 : z4.toInt ≤ 16 := b_le rfl (by decide) c11
          refine lv_iload_n hx hb dJ6_numberOfTrailingZeros_0f7a4_62 rfl (lv_at hl 1 rfl) ?_
          refine lv_iconst (v := 4) hx hb dJ6_numberOfTrailingZeros_0f7a4_63 (by decide) ?_
          refine lv_icmp_le (tgt := 74) hx hb dJ6_numberOfTrailingZeros_0f7a4_64 (by decide) (fun c13 => ?_) (fun c13 => ?_)
          · skip
            have f14 : z4.toInt ≤ 4 := b_le rfl (by decide) c13
            refine lv_iload_n hx hb dJ6_numberOfTrailingZeros_0f7a4_74 rfl (lv_at hl 0 rfl) ?_
            refine lv_iload_n hx hb dJ6_numberOfTrailingZeros_0f7a4_75 rfl (lv_at hl 1 rfl) ?_
            refine lv_iconst (v := 1) hx hb dJ6_numberOfTrailingZeros_0f7a4_76 (by decide) ?_
            refine lv_iushr hx hb dJ6_numberOfTrailingZeros_0f7a4_77 rfl ?_
            refine lv_topi (fun z15 ez15 => ?_)
            have hz15 : z15.toInt = z4.toInt / 2 := ushr_l (P := 2) (k := 1) ez15 (by first | omega | ((try (have i_hz3 := Imp.go hz3 (by omega))); omega)) (by decide) (by decide) (by decide)
            refine lv_iadd hx hb dJ6_numberOfTrailingZeros_0f7a4_78 ?_
            refine lv_topi (fun z16 ez16 => ?_)
            have hz16 : z16.toInt = 1 + z15.toInt := i_add ez16 (by decide) rfl (by omega)
            exact W.iret (v := z16) hx hb hr (fun t ht hW => ⟨⟨z16, (), rfl, ⟨(show 0 ≤ z16.toInt ∧ z16.toInt ≤ 32 from by first | omega | ((try (have i_hz3 := Imp.go hz3 (by omega))); omega)), (fun m h0 hm => (show z16.toInt < (m : Int) from by
                have a := nty h0
                have a1 := a.2.1
                have a2 := a.2.2 m hm
                rcases (show z15.toInt = 0 ∨ z15.toInt = 1 ∨ z15.toInt = 2 from by omega) with hh | hh | hh
                · have q := ntz_k (P := 1) (k := 0) (m := m) (by decide) (by omega) a2 a1
                  omega
                · have q := ntz_k (P := 2) (k := 1) (m := m) (by decide) (by omega) a2 a1
                  omega
                · have q := ntz_k (P := 4) (k := 2) (m := m) (by decide) (by omega) a2 a1
                  omega))⟩, by rw [ht]; exact hP, va_K.moved hW.alike hK, hD⟩, hS.F ht⟩) hS.2.2 dJ6_numberOfTrailingZeros_0f7a4_79
          · skip
            have f17 : 4 < z4.toInt := b_nle rfl (by decide) c13
            refine lv_iinc (v := 3) (lv' := [(1, .int 3), (0, .int z4)]) hx hb dJ6_numberOfTrailingZeros_0f7a4_67 hl (k := 0) rfl (by decide) (by decide) rfl (fun ls hl => ?_)
            refine lv_iload_n hx hb dJ6_numberOfTrailingZeros_0f7a4_70 rfl (lv_at hl 1 rfl) ?_
            refine lv_iconst (v := 2) hx hb dJ6_numberOfTrailingZeros_0f7a4_71 (by decide) ?_
            refine lv_iushr hx hb dJ6_numberOfTrailingZeros_0f7a4_72 rfl ?_
            refine lv_topi (fun z18 ez18 => ?_)
            have hz18 : z18.toInt = z4.toInt / 4 := ushr_l (P := 4) (k := 2) ez18 (by first | omega | ((try (have i_hz3 := Imp.go hz3 (by omega))); omega)) (by decide) (by decide) (by decide)
            refine lv_istore_n (lv' := [(0, .int z18), (1, .int 3)]) hx hb dJ6_numberOfTrailingZeros_0f7a4_73 rfl hl (by decide) rfl (fun ls hl => ?_)
            refine lv_iload_n hx hb dJ6_numberOfTrailingZeros_0f7a4_74 rfl (lv_at hl 1 rfl) ?_
            refine lv_iload_n hx hb dJ6_numberOfTrailingZeros_0f7a4_75 rfl (lv_at hl 0 rfl) ?_
            refine lv_iconst (v := 1) hx hb dJ6_numberOfTrailingZeros_0f7a4_76 (by decide) ?_
            refine lv_iushr hx hb dJ6_numberOfTrailingZeros_0f7a4_77 rfl ?_
            refine lv_topi (fun z19 ez19 => ?_)
            have hz19 : z19.toInt = z18.toInt / 2 := ushr_l (P := 2) (k := 1) ez19 (by first | omega | ((try (have i_hz3 := Imp.go hz3 (by omega))); omega)) (by decide) (by decide) (by decide)
            refine lv_iadd hx hb dJ6_numberOfTrailingZeros_0f7a4_78 ?_
            refine lv_topi (fun z20 ez20 => ?_)
            have hz20 : z20.toInt = 3 + z19.toInt := i_add ez20 (by decide) rfl (by omega)
            exact W.iret (v := z20) hx hb hr (fun t ht hW => ⟨⟨z20, (), rfl, ⟨(show 0 ≤ z20.toInt ∧ z20.toInt ≤ 32 from by first | omega | ((try (have i_hz3 := Imp.go hz3 (by omega))); omega)), (fun m h0 hm => (show z20.toInt < (m : Int) from by
                have a := nty h0
                have a1 := a.2.1
                have a2 := a.2.2 m hm
                rcases (show z19.toInt = 0 ∨ z19.toInt = 1 ∨ z19.toInt = 2 from by omega) with hh | hh | hh
                · have q := ntz_k (P := 4) (k := 2) (m := m) (by decide) (by omega) a2 a1
                  omega
                · have q := ntz_k (P := 8) (k := 3) (m := m) (by decide) (by omega) a2 a1
                  omega
                · have q := ntz_k (P := 16) (k := 4) (m := m) (by decide) (by omega) a2 a1
                  omega))⟩, by rw [ht]; exact hP, va_K.moved hW.alike hK, hD⟩, hS.F ht⟩) hS.2.2 dJ6_numberOfTrailingZeros_0f7a4_79
        · skip
          have f21 : 16 < z4.toInt := b_nle rfl (by decide) c11
          refine lv_iinc (v := 5) (lv' := [(1, .int 5), (0, .int z4)]) hx hb dJ6_numberOfTrailingZeros_0f7a4_55 hl (k := 0) rfl (by decide) (by decide) rfl (fun ls hl => ?_)
          refine lv_iload_n hx hb dJ6_numberOfTrailingZeros_0f7a4_58 rfl (lv_at hl 1 rfl) ?_
          refine lv_iconst (v := 4) hx hb dJ6_numberOfTrailingZeros_0f7a4_59 (by decide) ?_
          refine lv_iushr hx hb dJ6_numberOfTrailingZeros_0f7a4_60 rfl ?_
          refine lv_topi (fun z22 ez22 => ?_)
          have hz22 : z22.toInt = z4.toInt / 16 := ushr_l (P := 16) (k := 4) ez22 (by first | omega | ((try (have i_hz3 := Imp.go hz3 (by omega))); omega)) (by decide) (by decide) (by decide)
          refine lv_istore_n (lv' := [(0, .int z22), (1, .int 5)]) hx hb dJ6_numberOfTrailingZeros_0f7a4_61 rfl hl (by decide) rfl (fun ls hl => ?_)
          refine lv_iload_n hx hb dJ6_numberOfTrailingZeros_0f7a4_62 rfl (lv_at hl 0 rfl) ?_
          refine lv_iconst (v := 4) hx hb dJ6_numberOfTrailingZeros_0f7a4_63 (by decide) ?_
          refine lv_icmp_le (tgt := 74) hx hb dJ6_numberOfTrailingZeros_0f7a4_64 (by decide) (fun c23 => ?_) (fun c23 => ?_)
          · skip
            have f24 : z22.toInt ≤ 4 := b_le rfl (by decide) c23
            refine lv_iload_n hx hb dJ6_numberOfTrailingZeros_0f7a4_74 rfl (lv_at hl 1 rfl) ?_
            refine lv_iload_n hx hb dJ6_numberOfTrailingZeros_0f7a4_75 rfl (lv_at hl 0 rfl) ?_
            refine lv_iconst (v := 1) hx hb dJ6_numberOfTrailingZeros_0f7a4_76 (by decide) ?_
            refine lv_iushr hx hb dJ6_numberOfTrailingZeros_0f7a4_77 rfl ?_
            refine lv_topi (fun z25 ez25 => ?_)
            have hz25 : z25.toInt = z22.toInt / 2 := ushr_l (P := 2) (k := 1) ez25 (by first | omega | ((try (have i_hz3 := Imp.go hz3 (by omega))); omega)) (by decide) (by decide) (by decide)
            refine lv_iadd hx hb dJ6_numberOfTrailingZeros_0f7a4_78 ?_
            refine lv_topi (fun z26 ez26 => ?_)
            have hz26 : z26.toInt = 5 + z25.toInt := i_add ez26 (by decide) rfl (by omega)
            exact W.iret (v := z26) hx hb hr (fun t ht hW => ⟨⟨z26, (), rfl, ⟨(show 0 ≤ z26.toInt ∧ z26.toInt ≤ 32 from by first | omega | ((try (have i_hz3 := Imp.go hz3 (by omega))); omega)), (fun m h0 hm => (show z26.toInt < (m : Int) from by
                have a := nty h0
                have a1 := a.2.1
                have a2 := a.2.2 m hm
                rcases (show z25.toInt = 0 ∨ z25.toInt = 1 ∨ z25.toInt = 2 from by omega) with hh | hh | hh
                · have q := ntz_k (P := 16) (k := 4) (m := m) (by decide) (by omega) a2 a1
                  omega
                · have q := ntz_k (P := 32) (k := 5) (m := m) (by decide) (by omega) a2 a1
                  omega
                · have q := ntz_k (P := 64) (k := 6) (m := m) (by decide) (by omega) a2 a1
                  omega))⟩, by rw [ht]; exact hP, va_K.moved hW.alike hK, hD⟩, hS.F ht⟩) hS.2.2 dJ6_numberOfTrailingZeros_0f7a4_79
          · skip
            have f27 : 4 < z22.toInt := b_nle rfl (by decide) c23
            refine lv_iinc (v := 7) (lv' := [(1, .int 7), (0, .int z22)]) hx hb dJ6_numberOfTrailingZeros_0f7a4_67 hl (k := 1) rfl (by decide) (by decide) rfl (fun ls hl => ?_)
            refine lv_iload_n hx hb dJ6_numberOfTrailingZeros_0f7a4_70 rfl (lv_at hl 1 rfl) ?_
            refine lv_iconst (v := 2) hx hb dJ6_numberOfTrailingZeros_0f7a4_71 (by decide) ?_
            refine lv_iushr hx hb dJ6_numberOfTrailingZeros_0f7a4_72 rfl ?_
            refine lv_topi (fun z28 ez28 => ?_)
            have hz28 : z28.toInt = z22.toInt / 4 := ushr_l (P := 4) (k := 2) ez28 (by first | omega | ((try (have i_hz3 := Imp.go hz3 (by omega))); omega)) (by decide) (by decide) (by decide)
            refine lv_istore_n (lv' := [(0, .int z28), (1, .int 7)]) hx hb dJ6_numberOfTrailingZeros_0f7a4_73 rfl hl (by decide) rfl (fun ls hl => ?_)
            refine lv_iload_n hx hb dJ6_numberOfTrailingZeros_0f7a4_74 rfl (lv_at hl 1 rfl) ?_
            refine lv_iload_n hx hb dJ6_numberOfTrailingZeros_0f7a4_75 rfl (lv_at hl 0 rfl) ?_
            refine lv_iconst (v := 1) hx hb dJ6_numberOfTrailingZeros_0f7a4_76 (by decide) ?_
            refine lv_iushr hx hb dJ6_numberOfTrailingZeros_0f7a4_77 rfl ?_
            refine lv_topi (fun z29 ez29 => ?_)
            have hz29 : z29.toInt = z28.toInt / 2 := ushr_l (P := 2) (k := 1) ez29 (by first | omega | ((try (have i_hz3 := Imp.go hz3 (by omega))); omega)) (by decide) (by decide) (by decide)
            refine lv_iadd hx hb dJ6_numberOfTrailingZeros_0f7a4_78 ?_
            refine lv_topi (fun z30 ez30 => ?_)
            have hz30 : z30.toInt = 7 + z29.toInt := i_add ez30 (by decide) rfl (by omega)
            exact W.iret (v := z30) hx hb hr (fun t ht hW => ⟨⟨z30, (), rfl, ⟨(show 0 ≤ z30.toInt ∧ z30.toInt ≤ 32 from by first | omega | ((try (have i_hz3 := Imp.go hz3 (by omega))); omega)), (fun m h0 hm => (show z30.toInt < (m : Int) from by
                have a := nty h0
                have a1 := a.2.1
                have a2 := a.2.2 m hm
                rcases (show z29.toInt = 0 ∨ z29.toInt = 1 ∨ z29.toInt = 2 from by omega) with hh | hh | hh
                · have q := ntz_k (P := 64) (k := 6) (m := m) (by decide) (by omega) a2 a1
                  omega
                · have q := ntz_k (P := 128) (k := 7) (m := m) (by decide) (by omega) a2 a1
                  omega
                · have q := ntz_k (P := 256) (k := 8) (m := m) (by decide) (by omega) a2 a1
                  omega))⟩, by rw [ht]; exact hP, va_K.moved hW.alike hK, hD⟩, hS.F ht⟩) hS.2.2 dJ6_numberOfTrailingZeros_0f7a4_79
      · skip
        have f31 : 256 < z4.toInt := b_nle rfl (by decide) c9
        refine lv_iinc (v := 9) (lv' := [(1, .int 9), (0, .int z4)]) hx hb dJ6_numberOfTrailingZeros_0f7a4_41 hl (k := 0) rfl (by decide) (by decide) rfl (fun ls hl => ?_)
        refine lv_iload_n hx hb dJ6_numberOfTrailingZeros_0f7a4_44 rfl (lv_at hl 1 rfl) ?_
        refine lv_bipush (v := 8) hx hb dJ6_numberOfTrailingZeros_0f7a4_45 (by decide) ?_
        refine lv_iushr hx hb dJ6_numberOfTrailingZeros_0f7a4_47 rfl ?_
        refine lv_topi (fun z32 ez32 => ?_)
        have hz32 : z32.toInt = z4.toInt / 256 := ushr_l (P := 256) (k := 8) ez32 (by first | omega | ((try (have i_hz3 := Imp.go hz3 (by omega))); omega)) (by decide) (by decide) (by decide)
        refine lv_istore_n (lv' := [(0, .int z32), (1, .int 9)]) hx hb dJ6_numberOfTrailingZeros_0f7a4_48 rfl hl (by decide) rfl (fun ls hl => ?_)
        refine lv_iload_n hx hb dJ6_numberOfTrailingZeros_0f7a4_49 rfl (lv_at hl 0 rfl) ?_
        refine lv_bipush (v := 16) hx hb dJ6_numberOfTrailingZeros_0f7a4_50 (by decide) ?_
        refine lv_icmp_le (tgt := 62) hx hb dJ6_numberOfTrailingZeros_0f7a4_52 (by decide) (fun c33 => ?_) (fun c33 => ?_)
        · skip
          have f34 : z32.toInt ≤ 16 := b_le rfl (by decide) c33
          refine lv_iload_n hx hb dJ6_numberOfTrailingZeros_0f7a4_62 rfl (lv_at hl 0 rfl) ?_
          refine lv_iconst (v := 4) hx hb dJ6_numberOfTrailingZeros_0f7a4_63 (by decide) ?_
          refine lv_icmp_le (tgt := 74) hx hb dJ6_numberOfTrailingZeros_0f7a4_64 (by decide) (fun c35 => ?_) (fun c35 => ?_)
          · skip
            have f36 : z32.toInt ≤ 4 := b_le rfl (by decide) c35
            refine lv_iload_n hx hb dJ6_numberOfTrailingZeros_0f7a4_74 rfl (lv_at hl 1 rfl) ?_
            refine lv_iload_n hx hb dJ6_numberOfTrailingZeros_0f7a4_75 rfl (lv_at hl 0 rfl) ?_
            refine lv_iconst (v := 1) hx hb dJ6_numberOfTrailingZeros_0f7a4_76 (by decide) ?_
            refine lv_iushr hx hb dJ6_numberOfTrailingZeros_0f7a4_77 rfl ?_
            refine lv_topi (fun z37 ez37 => ?_)
            have hz37 : z37.toInt = z32.toInt / 2 := ushr_l (P := 2) (k := 1) ez37 (by first | omega | ((try (have i_hz3 := Imp.go hz3 (by omega))); omega)) (by decide) (by decide) (by decide)
            refine lv_iadd hx hb dJ6_numberOfTrailingZeros_0f7a4_78 ?_
            refine lv_topi (fun z38 ez38 => ?_)
            have hz38 : z38.toInt = 9 + z37.toInt := i_add ez38 (by decide) rfl (by omega)
            exact W.iret (v := z38) hx hb hr (fun t ht hW => ⟨⟨z38, (), rfl, ⟨(show 0 ≤ z38.toInt ∧ z38.toInt ≤ 32 from by first | omega | ((try (have i_hz3 := Imp.go hz3 (by omega))); omega)), (fun m h0 hm => (show z38.toInt < (m : Int) from by
                have a := nty h0
                have a1 := a.2.1
                have a2 := a.2.2 m hm
                rcases (show z37.toInt = 0 ∨ z37.toInt = 1 ∨ z37.toInt = 2 from by omega) with hh | hh | hh
                · have q := ntz_k (P := 256) (k := 8) (m := m) (by decide) (by omega) a2 a1
                  omega
                · have q := ntz_k (P := 512) (k := 9) (m := m) (by decide) (by omega) a2 a1
                  omega
                · have q := ntz_k (P := 1024) (k := 10) (m := m) (by decide) (by omega) a2 a1
                  omega))⟩, by rw [ht]; exact hP, va_K.moved hW.alike hK, hD⟩, hS.F ht⟩) hS.2.2 dJ6_numberOfTrailingZeros_0f7a4_79
          · skip
            have f39 : 4 < z32.toInt := b_nle rfl (by decide) c35
            refine lv_iinc (v := 11) (lv' := [(1, .int 11), (0, .int z32)]) hx hb dJ6_numberOfTrailingZeros_0f7a4_67 hl (k := 1) rfl (by decide) (by decide) rfl (fun ls hl => ?_)
            refine lv_iload_n hx hb dJ6_numberOfTrailingZeros_0f7a4_70 rfl (lv_at hl 1 rfl) ?_
            refine lv_iconst (v := 2) hx hb dJ6_numberOfTrailingZeros_0f7a4_71 (by decide) ?_
            refine lv_iushr hx hb dJ6_numberOfTrailingZeros_0f7a4_72 rfl ?_
            refine lv_topi (fun z40 ez40 => ?_)
            have hz40 : z40.toInt = z32.toInt / 4 := ushr_l (P := 4) (k := 2) ez40 (by first | omega | ((try (have i_hz3 := Imp.go hz3 (by omega))); omega)) (by decide) (by decide) (by decide)
            refine lv_istore_n (lv' := [(0, .int z40), (1, .int 11)]) hx hb dJ6_numberOfTrailingZeros_0f7a4_73 rfl hl (by decide) rfl (fun ls hl => ?_)
            refine lv_iload_n hx hb dJ6_numberOfTrailingZeros_0f7a4_74 rfl (lv_at hl 1 rfl) ?_
            refine lv_iload_n hx hb dJ6_numberOfTrailingZeros_0f7a4_75 rfl (lv_at hl 0 rfl) ?_
            refine lv_iconst (v := 1) hx hb dJ6_numberOfTrailingZeros_0f7a4_76 (by decide) ?_
            refine lv_iushr hx hb dJ6_numberOfTrailingZeros_0f7a4_77 rfl ?_
            refine lv_topi (fun z41 ez41 => ?_)
            have hz41 : z41.toInt = z40.toInt / 2 := ushr_l (P := 2) (k := 1) ez41 (by first | omega | ((try (have i_hz3 := Imp.go hz3 (by omega))); omega)) (by decide) (by decide) (by decide)
            refine lv_iadd hx hb dJ6_numberOfTrailingZeros_0f7a4_78 ?_
            refine lv_topi (fun z42 ez42 => ?_)
            have hz42 : z42.toInt = 11 + z41.toInt := i_add ez42 (by decide) rfl (by omega)
            exact W.iret (v := z42) hx hb hr (fun t ht hW => ⟨⟨z42, (), rfl, ⟨(show 0 ≤ z42.toInt ∧ z42.toInt ≤ 32 from by first | omega | ((try (have i_hz3 := Imp.go hz3 (by omega))); omega)), (fun m h0 hm => (show z42.toInt < (m : Int) from by
                have a := nty h0
                have a1 := a.2.1
                have a2 := a.2.2 m hm
                rcases (show z41.toInt = 0 ∨ z41.toInt = 1 ∨ z41.toInt = 2 from by omega) with hh | hh | hh
                · have q := ntz_k (P := 1024) (k := 10) (m := m) (by decide) (by omega) a2 a1
                  omega
                · have q := ntz_k (P := 2048) (k := 11) (m := m) (by decide) (by omega) a2 a1
                  omega
                · have q := ntz_k (P := 4096) (k := 12) (m := m) (by decide) (by omega) a2 a1
                  omega))⟩, by rw [ht]; exact hP, va_K.moved hW.alike hK, hD⟩, hS.F ht⟩) hS.2.2 dJ6_numberOfTrailingZeros_0f7a4_79
        · skip
          have f43 : 16 < z32.toInt := b_nle rfl (by decide) c33
          refine lv_iinc (v := 13) (lv' := [(1, .int 13), (0, .int z32)]) hx hb dJ6_numberOfTrailingZeros_0f7a4_55 hl (k := 1) rfl (by decide) (by decide) rfl (fun ls hl => ?_)
          refine lv_iload_n hx hb dJ6_numberOfTrailingZeros_0f7a4_58 rfl (lv_at hl 1 rfl) ?_
          refine lv_iconst (v := 4) hx hb dJ6_numberOfTrailingZeros_0f7a4_59 (by decide) ?_
          refine lv_iushr hx hb dJ6_numberOfTrailingZeros_0f7a4_60 rfl ?_
          refine lv_topi (fun z44 ez44 => ?_)
          have hz44 : z44.toInt = z32.toInt / 16 := ushr_l (P := 16) (k := 4) ez44 (by first | omega | ((try (have i_hz3 := Imp.go hz3 (by omega))); omega)) (by decide) (by decide) (by decide)
          refine lv_istore_n (lv' := [(0, .int z44), (1, .int 13)]) hx hb dJ6_numberOfTrailingZeros_0f7a4_61 rfl hl (by decide) rfl (fun ls hl => ?_)
          refine lv_iload_n hx hb dJ6_numberOfTrailingZeros_0f7a4_62 rfl (lv_at hl 0 rfl) ?_
          refine lv_iconst (v := 4) hx hb dJ6_numberOfTrailingZeros_0f7a4_63 (by decide) ?_
          refine lv_icmp_le (tgt := 74) hx hb dJ6_numberOfTrailingZeros_0f7a4_64 (by decide) (fun c45 => ?_) (fun c45 => ?_)
          · skip
            have f46 : z44.toInt ≤ 4 := b_le rfl (by decide) c45
            refine lv_iload_n hx hb dJ6_numberOfTrailingZeros_0f7a4_74 rfl (lv_at hl 1 rfl) ?_
            refine lv_iload_n hx hb dJ6_numberOfTrailingZeros_0f7a4_75 rfl (lv_at hl 0 rfl) ?_
            refine lv_iconst (v := 1) hx hb dJ6_numberOfTrailingZeros_0f7a4_76 (by decide) ?_
            refine lv_iushr hx hb dJ6_numberOfTrailingZeros_0f7a4_77 rfl ?_
            refine lv_topi (fun z47 ez47 => ?_)
            have hz47 : z47.toInt = z44.toInt / 2 := ushr_l (P := 2) (k := 1) ez47 (by first | omega | ((try (have i_hz3 := Imp.go hz3 (by omega))); omega)) (by decide) (by decide) (by decide)
            refine lv_iadd hx hb dJ6_numberOfTrailingZeros_0f7a4_78 ?_
            refine lv_topi (fun z48 ez48 => ?_)
            have hz48 : z48.toInt = 13 + z47.toInt := i_add ez48 (by decide) rfl (by omega)
            exact W.iret (v := z48) hx hb hr (fun t ht hW => ⟨⟨z48, (), rfl, ⟨(show 0 ≤ z48.toInt ∧ z48.toInt ≤ 32 from by first | omega | ((try (have i_hz3 := Imp.go hz3 (by omega))); omega)), (fun m h0 hm => (show z48.toInt < (m : Int) from by
                have a := nty h0
                have a1 := a.2.1
                have a2 := a.2.2 m hm
                rcases (show z47.toInt = 0 ∨ z47.toInt = 1 ∨ z47.toInt = 2 from by omega) with hh | hh | hh
                · have q := ntz_k (P := 4096) (k := 12) (m := m) (by decide) (by omega) a2 a1
                  omega
                · have q := ntz_k (P := 8192) (k := 13) (m := m) (by decide) (by omega) a2 a1
                  omega
                · have q := ntz_k (P := 16384) (k := 14) (m := m) (by decide) (by omega) a2 a1
                  omega))⟩, by rw [ht]; exact hP, va_K.moved hW.alike hK, hD⟩, hS.F ht⟩) hS.2.2 dJ6_numberOfTrailingZeros_0f7a4_79
          · skip
            have f49 : 4 < z44.toInt := b_nle rfl (by decide) c45
            refine lv_iinc (v := 15) (lv' := [(1, .int 15), (0, .int z44)]) hx hb dJ6_numberOfTrailingZeros_0f7a4_67 hl (k := 1) rfl (by decide) (by decide) rfl (fun ls hl => ?_)
            refine lv_iload_n hx hb dJ6_numberOfTrailingZeros_0f7a4_70 rfl (lv_at hl 1 rfl) ?_
            refine lv_iconst (v := 2) hx hb dJ6_numberOfTrailingZeros_0f7a4_71 (by decide) ?_
            refine lv_iushr hx hb dJ6_numberOfTrailingZeros_0f7a4_72 rfl ?_
            refine lv_topi (fun z50 ez50 => ?_)
            have hz50 : z50.toInt = z44.toInt / 4 := ushr_l (P := 4) (k := 2) ez50 (by first | omega | ((try (have i_hz3 := Imp.go hz3 (by omega))); omega)) (by decide) (by decide) (by decide)
            refine lv_istore_n (lv' := [(0, .int z50), (1, .int 15)]) hx hb dJ6_numberOfTrailingZeros_0f7a4_73 rfl hl (by decide) rfl (fun ls hl => ?_)
            refine lv_iload_n hx hb dJ6_numberOfTrailingZeros_0f7a4_74 rfl (lv_at hl 1 rfl) ?_
            refine lv_iload_n hx hb dJ6_numberOfTrailingZeros_0f7a4_75 rfl (lv_at hl 0 rfl) ?_
            refine lv_iconst (v := 1) hx hb dJ6_numberOfTrailingZeros_0f7a4_76 (by decide) ?_
            refine lv_iushr hx hb dJ6_numberOfTrailingZeros_0f7a4_77 rfl ?_
            refine lv_topi (fun z51 ez51 => ?_)
            have hz51 : z51.toInt = z50.toInt / 2 := ushr_l (P := 2) (k := 1) ez51 (by first | omega | ((try (have i_hz3 := Imp.go hz3 (by omega))); omega)) (by decide) (by decide) (by decide)
            refine lv_iadd hx hb dJ6_numberOfTrailingZeros_0f7a4_78 ?_
            refine lv_topi (fun z52 ez52 => ?_)
            have hz52 : z52.toInt = 15 + z51.toInt := i_add ez52 (by decide) rfl (by omega)
            exact W.iret (v := z52) hx hb hr (fun t ht hW => ⟨⟨z52, (), rfl, ⟨(show 0 ≤ z52.toInt ∧ z52.toInt ≤ 32 from by first | omega | ((try (have i_hz3 := Imp.go hz3 (by omega))); omega)), (fun m h0 hm => (show z52.toInt < (m : Int) from by
                have a := nty h0
                have a1 := a.2.1
                have a2 := a.2.2 m hm
                rcases (show z51.toInt = 0 ∨ z51.toInt = 1 ∨ z51.toInt = 2 from by omega) with hh | hh | hh
                · have q := ntz_k (P := 16384) (k := 14) (m := m) (by decide) (by omega) a2 a1
                  omega
                · have q := ntz_k (P := 32768) (k := 15) (m := m) (by decide) (by omega) a2 a1
                  omega
                · have q := ntz_k (P := 65536) (k := 16) (m := m) (by decide) (by omega) a2 a1
                  omega))⟩, by rw [ht]; exact hP, va_K.moved hW.alike hK, hD⟩, hS.F ht⟩) hS.2.2 dJ6_numberOfTrailingZeros_0f7a4_79
    · skip
      have f53 : 65536 < z4.toInt := b_nle rfl (by decide) c7
      refine lv_iinc (v := 17) (lv' := [(1, .int 17), (0, .int z4)]) hx hb dJ6_numberOfTrailingZeros_0f7a4_26 hl (k := 0) rfl (by decide) (by decide) rfl (fun ls hl => ?_)
      refine lv_iload_n hx hb dJ6_numberOfTrailingZeros_0f7a4_29 rfl (lv_at hl 1 rfl) ?_
      refine lv_bipush (v := 16) hx hb dJ6_numberOfTrailingZeros_0f7a4_30 (by decide) ?_
      refine lv_iushr hx hb dJ6_numberOfTrailingZeros_0f7a4_32 rfl ?_
      refine lv_topi (fun z54 ez54 => ?_)
      have hz54 : z54.toInt = z4.toInt / 65536 := ushr_l (P := 65536) (k := 16) ez54 (by first | omega | ((try (have i_hz3 := Imp.go hz3 (by omega))); omega)) (by decide) (by decide) (by decide)
      refine lv_istore_n (lv' := [(0, .int z54), (1, .int 17)]) hx hb dJ6_numberOfTrailingZeros_0f7a4_33 rfl hl (by decide) rfl (fun ls hl => ?_)
      refine lv_iload_n hx hb dJ6_numberOfTrailingZeros_0f7a4_34 rfl (lv_at hl 0 rfl) ?_
      refine lv_sipush (v := 256) hx hb dJ6_numberOfTrailingZeros_0f7a4_35 (by decide) ?_
      refine lv_icmp_le (tgt := 49) hx hb dJ6_numberOfTrailingZeros_0f7a4_38 (by decide) (fun c55 => ?_) (fun c55 => ?_)
      · skip
        have f56 : z54.toInt ≤ 256 := b_le rfl (by decide) c55
        refine lv_iload_n hx hb dJ6_numberOfTrailingZeros_0f7a4_49 rfl (lv_at hl 0 rfl) ?_
        refine lv_bipush (v := 16) hx hb dJ6_numberOfTrailingZeros_0f7a4_50 (by decide) ?_
        refine lv_icmp_le (tgt := 62) hx hb dJ6_numberOfTrailingZeros_0f7a4_52 (by decide) (fun c57 => ?_) (fun c57 => ?_)
        · skip
          have f58 : z54.toInt ≤ 16 := b_le rfl (by decide) c57
          refine lv_iload_n hx hb dJ6_numberOfTrailingZeros_0f7a4_62 rfl (lv_at hl 0 rfl) ?_
          refine lv_iconst (v := 4) hx hb dJ6_numberOfTrailingZeros_0f7a4_63 (by decide) ?_
          refine lv_icmp_le (tgt := 74) hx hb dJ6_numberOfTrailingZeros_0f7a4_64 (by decide) (fun c59 => ?_) (fun c59 => ?_)
          · skip
            have f60 : z54.toInt ≤ 4 := b_le rfl (by decide) c59
            refine lv_iload_n hx hb dJ6_numberOfTrailingZeros_0f7a4_74 rfl (lv_at hl 1 rfl) ?_
            refine lv_iload_n hx hb dJ6_numberOfTrailingZeros_0f7a4_75 rfl (lv_at hl 0 rfl) ?_
            refine lv_iconst (v := 1) hx hb dJ6_numberOfTrailingZeros_0f7a4_76 (by decide) ?_
            refine lv_iushr hx hb dJ6_numberOfTrailingZeros_0f7a4_77 rfl ?_
            refine lv_topi (fun z61 ez61 => ?_)
            have hz61 : z61.toInt = z54.toInt / 2 := ushr_l (P := 2) (k := 1) ez61 (by first | omega | ((try (have i_hz3 := Imp.go hz3 (by omega))); omega)) (by decide) (by decide) (by decide)
            refine lv_iadd hx hb dJ6_numberOfTrailingZeros_0f7a4_78 ?_
            refine lv_topi (fun z62 ez62 => ?_)
            have hz62 : z62.toInt = 17 + z61.toInt := i_add ez62 (by decide) rfl (by omega)
            exact W.iret (v := z62) hx hb hr (fun t ht hW => ⟨⟨z62, (), rfl, ⟨(show 0 ≤ z62.toInt ∧ z62.toInt ≤ 32 from by first | omega | ((try (have i_hz3 := Imp.go hz3 (by omega))); omega)), (fun m h0 hm => (show z62.toInt < (m : Int) from by
                have a := nty h0
                have a1 := a.2.1
                have a2 := a.2.2 m hm
                rcases (show z61.toInt = 0 ∨ z61.toInt = 1 ∨ z61.toInt = 2 from by omega) with hh | hh | hh
                · have q := ntz_k (P := 65536) (k := 16) (m := m) (by decide) (by omega) a2 a1
                  omega
                · have q := ntz_k (P := 131072) (k := 17) (m := m) (by decide) (by omega) a2 a1
                  omega
                · have q := ntz_k (P := 262144) (k := 18) (m := m) (by decide) (by omega) a2 a1
                  omega))⟩, by rw [ht]; exact hP, va_K.moved hW.alike hK, hD⟩, hS.F ht⟩) hS.2.2 dJ6_numberOfTrailingZeros_0f7a4_79
          · skip
            have f63 : 4 < z54.toInt := b_nle rfl (by decide) c59
            refine lv_iinc (v := 19) (lv' := [(1, .int 19), (0, .int z54)]) hx hb dJ6_numberOfTrailingZeros_0f7a4_67 hl (k := 1) rfl (by decide) (by decide) rfl (fun ls hl => ?_)
            refine lv_iload_n hx hb dJ6_numberOfTrailingZeros_0f7a4_70 rfl (lv_at hl 1 rfl) ?_
            refine lv_iconst (v := 2) hx hb dJ6_numberOfTrailingZeros_0f7a4_71 (by decide) ?_
            refine lv_iushr hx hb dJ6_numberOfTrailingZeros_0f7a4_72 rfl ?_
            refine lv_topi (fun z64 ez64 => ?_)
            have hz64 : z64.toInt = z54.toInt / 4 := ushr_l (P := 4) (k := 2) ez64 (by first | omega | ((try (have i_hz3 := Imp.go hz3 (by omega))); omega)) (by decide) (by decide) (by decide)
            refine lv_istore_n (lv' := [(0, .int z64), (1, .int 19)]) hx hb dJ6_numberOfTrailingZeros_0f7a4_73 rfl hl (by decide) rfl (fun ls hl => ?_)
            refine lv_iload_n hx hb dJ6_numberOfTrailingZeros_0f7a4_74 rfl (lv_at hl 1 rfl) ?_
            refine lv_iload_n hx hb dJ6_numberOfTrailingZeros_0f7a4_75 rfl (lv_at hl 0 rfl) ?_
            refine lv_iconst (v := 1) hx hb dJ6_numberOfTrailingZeros_0f7a4_76 (by decide) ?_
            refine lv_iushr hx hb dJ6_numberOfTrailingZeros_0f7a4_77 rfl ?_
            refine lv_topi (fun z65 ez65 => ?_)
            have hz65 : z65.toInt = z64.toInt / 2 := ushr_l (P := 2) (k := 1) ez65 (by first | omega | ((try (have i_hz3 := Imp.go hz3 (by omega))); omega)) (by decide) (by decide) (by decide)
            refine lv_iadd hx hb dJ6_numberOfTrailingZeros_0f7a4_78 ?_
            refine lv_topi (fun z66 ez66 => ?_)
            have hz66 : z66.toInt = 19 + z65.toInt := i_add ez66 (by decide) rfl (by omega)
            exact W.iret (v := z66) hx hb hr (fun t ht hW => ⟨⟨z66, (), rfl, ⟨(show 0 ≤ z66.toInt ∧ z66.toInt ≤ 32 from by first | omega | ((try (have i_hz3 := Imp.go hz3 (by omega))); omega)), (fun m h0 hm => (show z66.toInt < (m : Int) from by
                have a := nty h0
                have a1 := a.2.1
                have a2 := a.2.2 m hm
                rcases (show z65.toInt = 0 ∨ z65.toInt = 1 ∨ z65.toInt = 2 from by omega) with hh | hh | hh
                · have q := ntz_k (P := 262144) (k := 18) (m := m) (by decide) (by omega) a2 a1
                  omega
                · have q := ntz_k (P := 524288) (k := 19) (m := m) (by decide) (by omega) a2 a1
                  omega
                · have q := ntz_k (P := 1048576) (k := 20) (m := m) (by decide) (by omega) a2 a1
                  omega))⟩, by rw [ht]; exact hP, va_K.moved hW.alike hK, hD⟩, hS.F ht⟩) hS.2.2 dJ6_numberOfTrailingZeros_0f7a4_79
        · skip
          have f67 : 16 < z54.toInt := b_nle rfl (by decide) c57
          refine lv_iinc (v := 21) (lv' := [(1, .int 21), (0, .int z54)]) hx hb dJ6_numberOfTrailingZeros_0f7a4_55 hl (k := 1) rfl (by decide) (by decide) rfl (fun ls hl => ?_)
          refine lv_iload_n hx hb dJ6_numberOfTrailingZeros_0f7a4_58 rfl (lv_at hl 1 rfl) ?_
          refine lv_iconst (v := 4) hx hb dJ6_numberOfTrailingZeros_0f7a4_59 (by decide) ?_
          refine lv_iushr hx hb dJ6_numberOfTrailingZeros_0f7a4_60 rfl ?_
          refine lv_topi (fun z68 ez68 => ?_)
          have hz68 : z68.toInt = z54.toInt / 16 := ushr_l (P := 16) (k := 4) ez68 (by first | omega | ((try (have i_hz3 := Imp.go hz3 (by omega))); omega)) (by decide) (by decide) (by decide)
          refine lv_istore_n (lv' := [(0, .int z68), (1, .int 21)]) hx hb dJ6_numberOfTrailingZeros_0f7a4_61 rfl hl (by decide) rfl (fun ls hl => ?_)
          refine lv_iload_n hx hb dJ6_numberOfTrailingZeros_0f7a4_62 rfl (lv_at hl 0 rfl) ?_
          refine lv_iconst (v := 4) hx hb dJ6_numberOfTrailingZeros_0f7a4_63 (by decide) ?_
          refine lv_icmp_le (tgt := 74) hx hb dJ6_numberOfTrailingZeros_0f7a4_64 (by decide) (fun c69 => ?_) (fun c69 => ?_)
          · skip
            have f70 : z68.toInt ≤ 4 := b_le rfl (by decide) c69
            refine lv_iload_n hx hb dJ6_numberOfTrailingZeros_0f7a4_74 rfl (lv_at hl 1 rfl) ?_
            refine lv_iload_n hx hb dJ6_numberOfTrailingZeros_0f7a4_75 rfl (lv_at hl 0 rfl) ?_
            refine lv_iconst (v := 1) hx hb dJ6_numberOfTrailingZeros_0f7a4_76 (by decide) ?_
            refine lv_iushr hx hb dJ6_numberOfTrailingZeros_0f7a4_77 rfl ?_
            refine lv_topi (fun z71 ez71 => ?_)
            have hz71 : z71.toInt = z68.toInt / 2 := ushr_l (P := 2) (k := 1) ez71 (by first | omega | ((try (have i_hz3 := Imp.go hz3 (by omega))); omega)) (by decide) (by decide) (by decide)
            refine lv_iadd hx hb dJ6_numberOfTrailingZeros_0f7a4_78 ?_
            refine lv_topi (fun z72 ez72 => ?_)
            have hz72 : z72.toInt = 21 + z71.toInt := i_add ez72 (by decide) rfl (by omega)
            exact W.iret (v := z72) hx hb hr (fun t ht hW => ⟨⟨z72, (), rfl, ⟨(show 0 ≤ z72.toInt ∧ z72.toInt ≤ 32 from by first | omega | ((try (have i_hz3 := Imp.go hz3 (by omega))); omega)), (fun m h0 hm => (show z72.toInt < (m : Int) from by
                have a := nty h0
                have a1 := a.2.1
                have a2 := a.2.2 m hm
                rcases (show z71.toInt = 0 ∨ z71.toInt = 1 ∨ z71.toInt = 2 from by omega) with hh | hh | hh
                · have q := ntz_k (P := 1048576) (k := 20) (m := m) (by decide) (by omega) a2 a1
                  omega
                · have q := ntz_k (P := 2097152) (k := 21) (m := m) (by decide) (by omega) a2 a1
                  omega
                · have q := ntz_k (P := 4194304) (k := 22) (m := m) (by decide) (by omega) a2 a1
                  omega))⟩, by rw [ht]; exact hP, va_K.moved hW.alike hK, hD⟩, hS.F ht⟩) hS.2.2 dJ6_numberOfTrailingZeros_0f7a4_79
          · skip
            have f73 : 4 < z68.toInt := b_nle rfl (by decide) c69
            refine lv_iinc (v := 23) (lv' := [(1, .int 23), (0, .int z68)]) hx hb dJ6_numberOfTrailingZeros_0f7a4_67 hl (k := 1) rfl (by decide) (by decide) rfl (fun ls hl => ?_)
            refine lv_iload_n hx hb dJ6_numberOfTrailingZeros_0f7a4_70 rfl (lv_at hl 1 rfl) ?_
            refine lv_iconst (v := 2) hx hb dJ6_numberOfTrailingZeros_0f7a4_71 (by decide) ?_
            refine lv_iushr hx hb dJ6_numberOfTrailingZeros_0f7a4_72 rfl ?_
            refine lv_topi (fun z74 ez74 => ?_)
            have hz74 : z74.toInt = z68.toInt / 4 := ushr_l (P := 4) (k := 2) ez74 (by first | omega | ((try (have i_hz3 := Imp.go hz3 (by omega))); omega)) (by decide) (by decide) (by decide)
            refine lv_istore_n (lv' := [(0, .int z74), (1, .int 23)]) hx hb dJ6_numberOfTrailingZeros_0f7a4_73 rfl hl (by decide) rfl (fun ls hl => ?_)
            refine lv_iload_n hx hb dJ6_numberOfTrailingZeros_0f7a4_74 rfl (lv_at hl 1 rfl) ?_
            refine lv_iload_n hx hb dJ6_numberOfTrailingZeros_0f7a4_75 rfl (lv_at hl 0 rfl) ?_
            refine lv_iconst (v := 1) hx hb dJ6_numberOfTrailingZeros_0f7a4_76 (by decide) ?_
            refine lv_iushr hx hb dJ6_numberOfTrailingZeros_0f7a4_77 rfl ?_
            refine lv_topi (fun z75 ez75 => ?_)
            have hz75 : z75.toInt = z74.toInt / 2 := ushr_l (P := 2) (k := 1) ez75 (by first | omega | ((try (have i_hz3 := Imp.go hz3 (by omega))); omega)) (by decide) (by decide) (by decide)
            refine lv_iadd hx hb dJ6_numberOfTrailingZeros_0f7a4_78 ?_
            refine lv_topi (fun z76 ez76 => ?_)
            have hz76 : z76.toInt = 23 + z75.toInt := i_add ez76 (by decide) rfl (by omega)
            exact W.iret (v := z76) hx hb hr (fun t ht hW => ⟨⟨z76, (), rfl, ⟨(show 0 ≤ z76.toInt ∧ z76.toInt ≤ 32 from by first | omega | ((try (have i_hz3 := Imp.go hz3 (by omega))); omega)), (fun m h0 hm => (show z76.toInt < (m : Int) from by
                have a := nty h0
                have a1 := a.2.1
                have a2 := a.2.2 m hm
                rcases (show z75.toInt = 0 ∨ z75.toInt = 1 ∨ z75.toInt = 2 from by omega) with hh | hh | hh
                · have q := ntz_k (P := 4194304) (k := 22) (m := m) (by decide) (by omega) a2 a1
                  omega
                · have q := ntz_k (P := 8388608) (k := 23) (m := m) (by decide) (by omega) a2 a1
                  omega
                · have q := ntz_k (P := 16777216) (k := 24) (m := m) (by decide) (by omega) a2 a1
                  omega))⟩, by rw [ht]; exact hP, va_K.moved hW.alike hK, hD⟩, hS.F ht⟩) hS.2.2 dJ6_numberOfTrailingZeros_0f7a4_79
      · skip
        have f77 : 256 < z54.toInt := b_nle rfl (by decide) c55
        refine lv_iinc (v := 25) (lv' := [(1, .int 25), (0, .int z54)]) hx hb dJ6_numberOfTrailingZeros_0f7a4_41 hl (k := 1) rfl (by decide) (by decide) rfl (fun ls hl => ?_)
        refine lv_iload_n hx hb dJ6_numberOfTrailingZeros_0f7a4_44 rfl (lv_at hl 1 rfl) ?_
        refine lv_bipush (v := 8) hx hb dJ6_numberOfTrailingZeros_0f7a4_45 (by decide) ?_
        refine lv_iushr hx hb dJ6_numberOfTrailingZeros_0f7a4_47 rfl ?_
        refine lv_topi (fun z78 ez78 => ?_)
        have hz78 : z78.toInt = z54.toInt / 256 := ushr_l (P := 256) (k := 8) ez78 (by first | omega | ((try (have i_hz3 := Imp.go hz3 (by omega))); omega)) (by decide) (by decide) (by decide)
        refine lv_istore_n (lv' := [(0, .int z78), (1, .int 25)]) hx hb dJ6_numberOfTrailingZeros_0f7a4_48 rfl hl (by decide) rfl (fun ls hl => ?_)
        refine lv_iload_n hx hb dJ6_numberOfTrailingZeros_0f7a4_49 rfl (lv_at hl 0 rfl) ?_
        refine lv_bipush (v := 16) hx hb dJ6_numberOfTrailingZeros_0f7a4_50 (by decide) ?_
        refine lv_icmp_le (tgt := 62) hx hb dJ6_numberOfTrailingZeros_0f7a4_52 (by decide) (fun c79 => ?_) (fun c79 => ?_)
        · skip
          have f80 : z78.toInt ≤ 16 := b_le rfl (by decide) c79
          refine lv_iload_n hx hb dJ6_numberOfTrailingZeros_0f7a4_62 rfl (lv_at hl 0 rfl) ?_
          refine lv_iconst (v := 4) hx hb dJ6_numberOfTrailingZeros_0f7a4_63 (by decide) ?_
          refine lv_icmp_le (tgt := 74) hx hb dJ6_numberOfTrailingZeros_0f7a4_64 (by decide) (fun c81 => ?_) (fun c81 => ?_)
          · skip
            have f82 : z78.toInt ≤ 4 := b_le rfl (by decide) c81
            refine lv_iload_n hx hb dJ6_numberOfTrailingZeros_0f7a4_74 rfl (lv_at hl 1 rfl) ?_
            refine lv_iload_n hx hb dJ6_numberOfTrailingZeros_0f7a4_75 rfl (lv_at hl 0 rfl) ?_
            refine lv_iconst (v := 1) hx hb dJ6_numberOfTrailingZeros_0f7a4_76 (by decide) ?_
            refine lv_iushr hx hb dJ6_numberOfTrailingZeros_0f7a4_77 rfl ?_
            refine lv_topi (fun z83 ez83 => ?_)
            have hz83 : z83.toInt = z78.toInt / 2 := ushr_l (P := 2) (k := 1) ez83 (by first | omega | ((try (have i_hz3 := Imp.go hz3 (by omega))); omega)) (by decide) (by decide) (by decide)
            refine lv_iadd hx hb dJ6_numberOfTrailingZeros_0f7a4_78 ?_
            refine lv_topi (fun z84 ez84 => ?_)
            have hz84 : z84.toInt = 25 + z83.toInt := i_add ez84 (by decide) rfl (by omega)
            exact W.iret (v := z84) hx hb hr (fun t ht hW => ⟨⟨z84, (), rfl, ⟨(show 0 ≤ z84.toInt ∧ z84.toInt ≤ 32 from by first | omega | ((try (have i_hz3 := Imp.go hz3 (by omega))); omega)), (fun m h0 hm => (show z84.toInt < (m : Int) from by
                have a := nty h0
                have a1 := a.2.1
                have a2 := a.2.2 m hm
                rcases (show z83.toInt = 0 ∨ z83.toInt = 1 ∨ z83.toInt = 2 from by omega) with hh | hh | hh
                · have q := ntz_k (P := 16777216) (k := 24) (m := m) (by decide) (by omega) a2 a1
                  omega
                · have q := ntz_k (P := 33554432) (k := 25) (m := m) (by decide) (by omega) a2 a1
                  omega
                · have q := ntz_k (P := 67108864) (k := 26) (m := m) (by decide) (by omega) a2 a1
                  omega))⟩, by rw [ht]; exact hP, va_K.moved hW.alike hK, hD⟩, hS.F ht⟩) hS.2.2 dJ6_numberOfTrailingZeros_0f7a4_79
          · skip
            have f85 : 4 < z78.toInt := b_nle rfl (by decide) c81
            refine lv_iinc (v := 27) (lv' := [(1, .int 27), (0, .int z78)]) hx hb dJ6_numberOfTrailingZeros_0f7a4_67 hl (k := 1) rfl (by decide) (by decide) rfl (fun ls hl => ?_)
            refine lv_iload_n hx hb dJ6_numberOfTrailingZeros_0f7a4_70 rfl (lv_at hl 1 rfl) ?_
            refine lv_iconst (v := 2) hx hb dJ6_numberOfTrailingZeros_0f7a4_71 (by decide) ?_
            refine lv_iushr hx hb dJ6_numberOfTrailingZeros_0f7a4_72 rfl ?_
            refine lv_topi (fun z86 ez86 => ?_)
            have hz86 : z86.toInt = z78.toInt / 4 := ushr_l (P := 4) (k := 2) ez86 (by first | omega | ((try (have i_hz3 := Imp.go hz3 (by omega))); omega)) (by decide) (by decide) (by decide)
            refine lv_istore_n (lv' := [(0, .int z86), (1, .int 27)]) hx hb dJ6_numberOfTrailingZeros_0f7a4_73 rfl hl (by decide) rfl (fun ls hl => ?_)
            refine lv_iload_n hx hb dJ6_numberOfTrailingZeros_0f7a4_74 rfl (lv_at hl 1 rfl) ?_
            refine lv_iload_n hx hb dJ6_numberOfTrailingZeros_0f7a4_75 rfl (lv_at hl 0 rfl) ?_
            refine lv_iconst (v := 1) hx hb dJ6_numberOfTrailingZeros_0f7a4_76 (by decide) ?_
            refine lv_iushr hx hb dJ6_numberOfTrailingZeros_0f7a4_77 rfl ?_
            refine lv_topi (fun z87 ez87 => ?_)
            have hz87 : z87.toInt = z86.toInt / 2 := ushr_l (P := 2) (k := 1) ez87 (by first | omega | ((try (have i_hz3 := Imp.go hz3 (by omega))); omega)) (by decide) (by decide) (by decide)
            refine lv_iadd hx hb dJ6_numberOfTrailingZeros_0f7a4_78 ?_
            refine lv_topi (fun z88 ez88 => ?_)
            have hz88 : z88.toInt = 27 + z87.toInt := i_add ez88 (by decide) rfl (by omega)
            exact W.iret (v := z88) hx hb hr (fun t ht hW => ⟨⟨z88, (), rfl, ⟨(show 0 ≤ z88.toInt ∧ z88.toInt ≤ 32 from by first | omega | ((try (have i_hz3 := Imp.go hz3 (by omega))); omega)), (fun m h0 hm => (show z88.toInt < (m : Int) from by
                have a := nty h0
                have a1 := a.2.1
                have a2 := a.2.2 m hm
                rcases (show z87.toInt = 0 ∨ z87.toInt = 1 ∨ z87.toInt = 2 from by omega) with hh | hh | hh
                · have q := ntz_k (P := 67108864) (k := 26) (m := m) (by decide) (by omega) a2 a1
                  omega
                · have q := ntz_k (P := 134217728) (k := 27) (m := m) (by decide) (by omega) a2 a1
                  omega
                · have q := ntz_k (P := 268435456) (k := 28) (m := m) (by decide) (by omega) a2 a1
                  omega))⟩, by rw [ht]; exact hP, va_K.moved hW.alike hK, hD⟩, hS.F ht⟩) hS.2.2 dJ6_numberOfTrailingZeros_0f7a4_79
        · skip
          have f89 : 16 < z78.toInt := b_nle rfl (by decide) c79
          refine lv_iinc (v := 29) (lv' := [(1, .int 29), (0, .int z78)]) hx hb dJ6_numberOfTrailingZeros_0f7a4_55 hl (k := 1) rfl (by decide) (by decide) rfl (fun ls hl => ?_)
          refine lv_iload_n hx hb dJ6_numberOfTrailingZeros_0f7a4_58 rfl (lv_at hl 1 rfl) ?_
          refine lv_iconst (v := 4) hx hb dJ6_numberOfTrailingZeros_0f7a4_59 (by decide) ?_
          refine lv_iushr hx hb dJ6_numberOfTrailingZeros_0f7a4_60 rfl ?_
          refine lv_topi (fun z90 ez90 => ?_)
          have hz90 : z90.toInt = z78.toInt / 16 := ushr_l (P := 16) (k := 4) ez90 (by first | omega | ((try (have i_hz3 := Imp.go hz3 (by omega))); omega)) (by decide) (by decide) (by decide)
          refine lv_istore_n (lv' := [(0, .int z90), (1, .int 29)]) hx hb dJ6_numberOfTrailingZeros_0f7a4_61 rfl hl (by decide) rfl (fun ls hl => ?_)
          refine lv_iload_n hx hb dJ6_numberOfTrailingZeros_0f7a4_62 rfl (lv_at hl 0 rfl) ?_
          refine lv_iconst (v := 4) hx hb dJ6_numberOfTrailingZeros_0f7a4_63 (by decide) ?_
          refine lv_icmp_le (tgt := 74) hx hb dJ6_numberOfTrailingZeros_0f7a4_64 (by decide) (fun c91 => ?_) (fun c91 => ?_)
          · skip
            have f92 : z90.toInt ≤ 4 := b_le rfl (by decide) c91
            refine lv_iload_n hx hb dJ6_numberOfTrailingZeros_0f7a4_74 rfl (lv_at hl 1 rfl) ?_
            refine lv_iload_n hx hb dJ6_numberOfTrailingZeros_0f7a4_75 rfl (lv_at hl 0 rfl) ?_
            refine lv_iconst (v := 1) hx hb dJ6_numberOfTrailingZeros_0f7a4_76 (by decide) ?_
            refine lv_iushr hx hb dJ6_numberOfTrailingZeros_0f7a4_77 rfl ?_
            refine lv_topi (fun z93 ez93 => ?_)
            have hz93 : z93.toInt = z90.toInt / 2 := ushr_l (P := 2) (k := 1) ez93 (by first | omega | ((try (have i_hz3 := Imp.go hz3 (by omega))); omega)) (by decide) (by decide) (by decide)
            refine lv_iadd hx hb dJ6_numberOfTrailingZeros_0f7a4_78 ?_
            refine lv_topi (fun z94 ez94 => ?_)
            have hz94 : z94.toInt = 29 + z93.toInt := i_add ez94 (by decide) rfl (by omega)
            exact W.iret (v := z94) hx hb hr (fun t ht hW => ⟨⟨z94, (), rfl, ⟨(show 0 ≤ z94.toInt ∧ z94.toInt ≤ 32 from by first | omega | ((try (have i_hz3 := Imp.go hz3 (by omega))); omega)), (fun m h0 hm => (show z94.toInt < (m : Int) from by
                have a := nty h0
                have a1 := a.2.1
                have a2 := a.2.2 m hm
                rcases (show z93.toInt = 0 ∨ z93.toInt = 1 ∨ z93.toInt = 2 from by omega) with hh | hh | hh
                · have q := ntz_k (P := 268435456) (k := 28) (m := m) (by decide) (by omega) a2 a1
                  omega
                · have q := ntz_k (P := 536870912) (k := 29) (m := m) (by decide) (by omega) a2 a1
                  omega
                · have q := ntz_k (P := 1073741824) (k := 30) (m := m) (by decide) (by omega) a2 a1
                  omega))⟩, by rw [ht]; exact hP, va_K.moved hW.alike hK, hD⟩, hS.F ht⟩) hS.2.2 dJ6_numberOfTrailingZeros_0f7a4_79
          · skip
            have f95 : 4 < z90.toInt := b_nle rfl (by decide) c91
            refine lv_iinc (v := 31) (lv' := [(1, .int 31), (0, .int z90)]) hx hb dJ6_numberOfTrailingZeros_0f7a4_67 hl (k := 1) rfl (by decide) (by decide) rfl (fun ls hl => ?_)
            refine lv_iload_n hx hb dJ6_numberOfTrailingZeros_0f7a4_70 rfl (lv_at hl 1 rfl) ?_
            refine lv_iconst (v := 2) hx hb dJ6_numberOfTrailingZeros_0f7a4_71 (by decide) ?_
            refine lv_iushr hx hb dJ6_numberOfTrailingZeros_0f7a4_72 rfl ?_
            refine lv_topi (fun z96 ez96 => ?_)
            have hz96 : z96.toInt = z90.toInt / 4 := ushr_l (P := 4) (k := 2) ez96 (by first | omega | ((try (have i_hz3 := Imp.go hz3 (by omega))); omega)) (by decide) (by decide) (by decide)
            refine lv_istore_n (lv' := [(0, .int z96), (1, .int 31)]) hx hb dJ6_numberOfTrailingZeros_0f7a4_73 rfl hl (by decide) rfl (fun ls hl => ?_)
            refine lv_iload_n hx hb dJ6_numberOfTrailingZeros_0f7a4_74 rfl (lv_at hl 1 rfl) ?_
            refine lv_iload_n hx hb dJ6_numberOfTrailingZeros_0f7a4_75 rfl (lv_at hl 0 rfl) ?_
            refine lv_iconst (v := 1) hx hb dJ6_numberOfTrailingZeros_0f7a4_76 (by decide) ?_
            refine lv_iushr hx hb dJ6_numberOfTrailingZeros_0f7a4_77 rfl ?_
            refine lv_topi (fun z97 ez97 => ?_)
            have hz97 : z97.toInt = z96.toInt / 2 := ushr_l (P := 2) (k := 1) ez97 (by first | omega | ((try (have i_hz3 := Imp.go hz3 (by omega))); omega)) (by decide) (by decide) (by decide)
            refine lv_iadd hx hb dJ6_numberOfTrailingZeros_0f7a4_78 ?_
            refine lv_topi (fun z98 ez98 => ?_)
            have hz98 : z98.toInt = 31 + z97.toInt := i_add ez98 (by decide) rfl (by omega)
            exact W.iret (v := z98) hx hb hr (fun t ht hW => ⟨⟨z98, (), rfl, ⟨(show 0 ≤ z98.toInt ∧ z98.toInt ≤ 32 from by first | omega | ((try (have i_hz3 := Imp.go hz3 (by omega))); omega)), (fun m h0 hm => (show z98.toInt < (m : Int) from by
                have a := nty h0
                have a1 := a.2.1
                have a2 := a.2.2 m hm
                rcases (show z97.toInt = 0 ∨ z97.toInt = 1 ∨ z97.toInt = 2 from by omega) with hh | hh | hh
                · have q := ntz_k (P := 1073741824) (k := 30) (m := m) (by decide) (by omega) a2 a1
                  omega
                · have q := ntz_k (P := 2147483648) (k := 31) (m := m) (by decide) (by omega) a2 a1
                  omega
                · have q := ntz_k (P := 4294967296) (k := 32) (m := m) (by decide) (by omega) a2 a1
                  omega))⟩, by rw [ht]; exact hP, va_K.moved hW.alike hK, hD⟩, hS.F ht⟩) hS.2.2 dJ6_numberOfTrailingZeros_0f7a4_79
  · skip
    have f99 : z4.toInt ≤ 0 := b_nlt (by decide) rfl c5
    refine lv_iload_n hx hb dJ6_numberOfTrailingZeros_0f7a4_12 rfl (lv_at hl 0 rfl) ?_
    refine lv_bipush (v := 32) hx hb dJ6_numberOfTrailingZeros_0f7a4_13 (by decide) ?_
    refine lv_iand hx hb dJ6_numberOfTrailingZeros_0f7a4_15 ?_
    refine lv_topi (fun z100 ez100 => ?_)
    have hq1 : 0 ≤ z100.toInt ∧ z100.toInt ≤ 32 := and_m ez100 (by decide)
    have hq2 : 0 ≤ z4.toInt → 0 ≤ z100.toInt ∧ z100.toInt ≤ z4.toInt := fun h => and_left ez100 h
    exact W.iret (v := z100) hx hb hr (fun t ht hW => ⟨⟨z100, (), rfl, ⟨(show 0 ≤ z100.toInt ∧ z100.toInt ≤ 32 from by first | exact om_83f5e4ef2f8c f99 hq1.1 hq2.2 | first | omega | ((try (have i_hz3 := Imp.go hz3 (by omega))); omega)), (fun m h0 hm => (show z100.toInt < (m : Int) from by have a := nty h0; have a1 := a.1; have b := hq2 a1; have c := ntz_0 h0 hm; omega))⟩, by rw [ht]; exact hP, va_K.moved hW.alike hK, hD⟩, hS.F ht⟩) hS.2.2 dJ6_numberOfTrailingZeros_0f7a4_16
abbrev r_x_candidates2 : Room := { frames := 1, cells := 0, slots := 0, locals := 22 }
abbrev q_x_candidates2 (D : va_G) (ks : KS) (ad : Nat → Nat) (kk : Nat → ClassId) (V : Vf) (L : Lf) (Z : XZ) (p0 : Int32) (p1 : Int32) (b : Nat) (A : Nat → Prop) : Array Value → State → Outcome → State → Prop := va_Qi (fun (r : Int32) (_ : Unit) => (0 ≤ r.toInt ∧ r.toInt ≤ 16777215)) (fun _ t => gq D A (xw ad kk V L Z) (xty kk Z) t) A
set_option maxHeartbeats 4000000 in
set_option maxRecDepth 100000 in
theorem x_candidates2 (l : Launch) (D : va_G) (ks : KS) (sz : Nat) (ad : Nat → Nat) (kk : Nat → ClassId) (V : Vf) (L : Lf) (Z : XZ) (p0 : Int32) (p1 : Int32) (b : Nat) (hMV : rgd bX V) (rg_p0 : 0 ≤ p0.toInt ∧ p0.toInt ≤ 23) (rg_p1 : 0 ≤ p1.toInt ∧ p1.toInt ≤ 7) (hb2 : b < 2)  : Met l yX0_candidates (Cond.code yX0_candidates cX0_candidates 12 (some .int) :: GW) r_x_candidates2 (va_Pc [.ref (ad (38 + b)), .int p0, .int p1] (gp D ks (xw ad kk V L Z) (xty kk Z) sz)) (q_x_candidates2 D ks ad kk V L Z p0 p1 b (va_A (xw ad kk V L Z) sz)) 0 0 (va_A (xw ad kk V L Z) sz) := by
  refine g_met (q_x_candidates2 D ks ad kk V L Z p0 p1 b) (by decide) (Nat.le_of_ble_eq_true rfl) ?_
  intro p e s m below meth c A ls H locs hx hb hr hml hown hg hlocks hin hnw hgk hP hK hD hS hA hl
  have hown : s.vm.findClass RX0 = some m.cls := hown
  have hl : lv_has ls 12 [(0, .ref (ad (38 + b))), (1, .int p0), (2, .int p1)] := hl
  have hP : va_P D vwCl (xw ad kk V L Z) H := hP
  have hD : va_D A (xw ad kk V L Z) := hD
  have hK : va_K D vwCl (xty kk Z) s := hK
  refine lv_aload_n hx hb dX0_candidates_0 rfl (lv_at hl 0 rfl) ?_
  refine va_get (D := D) (ci := 0) (v := .ref (ad (64 + b))) (fs := (xfBook ad V b)) (C := RX0) (T := TX0) (N := 13) hx hb hg inX0 hown hK hP (38 + b) (xgBook hb2) rfl 7 (by decide) (hg _ w614) (fun _ h9 => h9) rfl dX0_candidates_1 ?_
  refine lv_iload_n hx hb dX0_candidates_4 rfl (lv_at hl 1 rfl) ?_
  have il1 : b < 2 := by (first | exact om_f940a4667dd6 hb2 | omega)
  refine va_aldq (D := D) (i := p0) hx hb hK hP (64 + b) (57 + b) (xgcomps il1) (xtcomps il1) (i_in (a := p0.toInt) rfl (by (first | exact om_dbb25e99819b rg_p0.1 rg_p0.2 | omega))) dX0_candidates_5 ?_
  have kc2 := i_clamp (x := p0) rfl (by (first | exact om_eafa9039069c rg_p0.1 | omega))
  refine g_topv (v := .ref (ad (72 + (24 * b + (Int32.toNatClampNeg p0))))) (congrArg va_rf (if_pos (by omega))) ?_
  have il3 : (24 * b + (Int32.toNatClampNeg p0)) < 48 := by (first | exact om_22346e364ab0 rg_p0.2 hb2 kc2 | omega)
  refine lv_astore_n (lv' := [(3, .ref (ad (72 + (24 * b + (Int32.toNatClampNeg p0))))), (0, .ref (ad (38 + b))), (1, .int p0), (2, .int p1)]) hx hb dX0_candidates_6 rfl hl (by decide) rfl (fun ls hl => ?_)
  refine lv_aload_n hx hb dX0_candidates_7 rfl (lv_at hl 0 rfl) ?_
  refine va_getN (D := D) (ci := 3) (v := .ref (ad (216 + (24 * b + (Int32.toNatClampNeg p0))))) (fs := (xfComp ad V (24 * b + (Int32.toNatClampNeg p0)))) (C := RX3) (T := TX3) (N := 13) hx hb hg inX3 hown hK hP (72 + (24 * b + (Int32.toNatClampNeg p0))) (xgComp il3) rfl 2 (by decide) (hnw.use 505 n505 rfl) (fun _ h9 => h9) rfl dX0_candidates_8 ?_
  refine lv_iload_n hx hb dX0_candidates_11 rfl (lv_at hl 3 rfl) ?_
  have il4 : (24 * b + (Int32.toNatClampNeg p0)) < 48 := by (first | exact om_22346e364ab0 rg_p0.2 hb2 kc2 | omega)
  refine va_iald (D := D) (i := p1) hx hb hK hP (216 + (24 * b + (Int32.toNatClampNeg p0))) (209 + (24 * b + (Int32.toNatClampNeg p0))) (xgneedKinds il4) (xtneedKinds il4) (i_in (a := p1.toInt) rfl (by omega)) dX0_candidates_12 ?_
  have kc5 := i_clamp (x := p1) rfl (by (first | exact om_eafa9039069c rg_p1.1 | omega))
  refine g_top (v := V 60 (8 * (24 * b + (Int32.toNatClampNeg p0)) + (Int32.toNatClampNeg p1))) (if_pos (by omega)) ?_
  refine lv_istore (lv' := [(4, .int (V 60 (8 * (24 * b + (Int32.toNatClampNeg p0)) + (Int32.toNatClampNeg p1)))), (3, .ref (ad (72 + (24 * b + (Int32.toNatClampNeg p0))))), (0, .ref (ad (38 + b))), (1, .int p0), (2, .int p1)]) hx hb dX0_candidates_13 hl (by decide) rfl (fun ls hl => ?_)
  refine lv_aload_n hx hb dX0_candidates_15 rfl (lv_at hl 1 rfl) ?_
  refine va_getN (D := D) (ci := 3) (v := .ref (ad (120 + (24 * b + (Int32.toNatClampNeg p0))))) (fs := (xfComp ad V (24 * b + (Int32.toNatClampNeg p0)))) (C := RX3) (T := TX3) (N := 13) hx hb hg inX3 hown hK hP (72 + (24 * b + (Int32.toNatClampNeg p0))) (xgComp il3) rfl 0 (by decide) (hnw.use 500 n500 rfl) (fun _ h9 => h9) rfl dX0_candidates_16 ?_
  refine lv_iload_n hx hb dX0_candidates_19 rfl (lv_at hl 4 rfl) ?_
  have il6 : (24 * b + (Int32.toNatClampNeg p0)) < 48 := by (first | exact om_22346e364ab0 rg_p0.2 hb2 kc2 | omega)
  refine va_iald (D := D) (i := p1) hx hb hK hP (120 + (24 * b + (Int32.toNatClampNeg p0))) (113 + (24 * b + (Int32.toNatClampNeg p0))) (xgneedTypes il6) (xtneedTypes il6) (i_in (a := p1.toInt) rfl (by omega)) dX0_candidates_20 ?_
  refine g_top (v := V 58 (8 * (24 * b + (Int32.toNatClampNeg p0)) + (Int32.toNatClampNeg p1))) (if_pos (by omega)) ?_
  refine lv_istore (lv' := [(5, .int (V 58 (8 * (24 * b + (Int32.toNatClampNeg p0)) + (Int32.toNatClampNeg p1)))), (4, .int (V 60 (8 * (24 * b + (Int32.toNatClampNeg p0)) + (Int32.toNatClampNeg p1)))), (3, .ref (ad (72 + (24 * b + (Int32.toNatClampNeg p0))))), (0, .ref (ad (38 + b))), (1, .int p0), (2, .int p1)]) hx hb dX0_candidates_21 hl (by decide) rfl (fun ls hl => ?_)
  refine lv_aload_n hx hb dX0_candidates_23 rfl (lv_at hl 2 rfl) ?_
  refine va_getN (D := D) (ci := 3) (v := .ref (ad (168 + (24 * b + (Int32.toNatClampNeg p0))))) (fs := (xfComp ad V (24 * b + (Int32.toNatClampNeg p0)))) (C := RX3) (T := TX3) (N := 13) hx hb hg inX3 hown hK hP (72 + (24 * b + (Int32.toNatClampNeg p0))) (xgComp il3) rfl 1 (by decide) (hnw.use 502 n502 rfl) (fun _ h9 => h9) rfl dX0_candidates_24 ?_
  refine lv_iload_n hx hb dX0_candidates_27 rfl (lv_at hl 5 rfl) ?_
  have il7 : (24 * b + (Int32.toNatClampNeg p0)) < 48 := by (first | exact om_22346e364ab0 rg_p0.2 hb2 kc2 | omega)
  refine va_iald (D := D) (i := p1) hx hb hK hP (168 + (24 * b + (Int32.toNatClampNeg p0))) (161 + (24 * b + (Int32.toNatClampNeg p0))) (xgneedWords il7) (xtneedWords il7) (i_in (a := p1.toInt) rfl (by omega)) dX0_candidates_28 ?_
  refine g_top (v := V 59 (8 * (24 * b + (Int32.toNatClampNeg p0)) + (Int32.toNatClampNeg p1))) (if_pos (by omega)) ?_
  refine lv_istore (lv' := [(6, .int (V 59 (8 * (24 * b + (Int32.toNatClampNeg p0)) + (Int32.toNatClampNeg p1)))), (5, .int (V 58 (8 * (24 * b + (Int32.toNatClampNeg p0)) + (Int32.toNatClampNeg p1)))), (4, .int (V 60 (8 * (24 * b + (Int32.toNatClampNeg p0)) + (Int32.toNatClampNeg p1)))), (3, .ref (ad (72 + (24 * b + (Int32.toNatClampNeg p0))))), (0, .ref (ad (38 + b))), (1, .int p0), (2, .int p1)]) hx hb dX0_candidates_29 hl (by decide) rfl (fun ls hl => ?_)
  refine lv_iconst (v := 0) hx hb dX0_candidates_31 (by decide) ?_
  refine lv_istore (lv' := [(7, .int 0), (6, .int (V 59 (8 * (24 * b + (Int32.toNatClampNeg p0)) + (Int32.toNatClampNeg p1)))), (5, .int (V 58 (8 * (24 * b + (Int32.toNatClampNeg p0)) + (Int32.toNatClampNeg p1)))), (4, .int (V 60 (8 * (24 * b + (Int32.toNatClampNeg p0)) + (Int32.toNatClampNeg p1)))), (3, .ref (ad (72 + (24 * b + (Int32.toNatClampNeg p0))))), (0, .ref (ad (38 + b))), (1, .int p0), (2, .int p1)]) hx hb dX0_candidates_32 hl (by decide) rfl (fun ls hl => ?_)
  refine lv_iconst (v := 0) hx hb dX0_candidates_34 (by decide) ?_
  refine lv_istore (lv' := [(8, .int 0), (7, .int 0), (6, .int (V 59 (8 * (24 * b + (Int32.toNatClampNeg p0)) + (Int32.toNatClampNeg p1)))), (5, .int (V 58 (8 * (24 * b + (Int32.toNatClampNeg p0)) + (Int32.toNatClampNeg p1)))), (4, .int (V 60 (8 * (24 * b + (Int32.toNatClampNeg p0)) + (Int32.toNatClampNeg p1)))), (3, .ref (ad (72 + (24 * b + (Int32.toNatClampNeg p0))))), (0, .ref (ad (38 + b))), (1, .int p0), (2, .int p1)]) hx hb dX0_candidates_35 hl (by decide) rfl (fun ls hl => ?_)
  refine lv_iconst (v := 0) hx hb dX0_candidates_37 (by decide) ?_
  refine lv_istore (lv' := [(9, .int 0), (8, .int 0), (7, .int 0), (6, .int (V 59 (8 * (24 * b + (Int32.toNatClampNeg p0)) + (Int32.toNatClampNeg p1)))), (5, .int (V 58 (8 * (24 * b + (Int32.toNatClampNeg p0)) + (Int32.toNatClampNeg p1)))), (4, .int (V 60 (8 * (24 * b + (Int32.toNatClampNeg p0)) + (Int32.toNatClampNeg p1)))), (3, .ref (ad (72 + (24 * b + (Int32.toNatClampNeg p0))))), (0, .ref (ad (38 + b))), (1, .int p0), (2, .int p1)]) hx hb dX0_candidates_38 hl (by decide) rfl (fun ls hl => ?_)
  have lp11 : ∀ (fulp11 : Nat) (y8 : Int32) (y9 : Int32) (y10 : Int32) (H : Heap) (locs : List Loc) (ls : Array Slot), 0 ≤ y8.toInt ∧ y8.toInt ≤ 24 → 0 ≤ y10.toInt ∧ y10.toInt ≤ 16777215 → 24 - y8.toInt < (fulp11 : Int) → va_P D vwCl (xw ad kk V L Z) H → va_D A (xw ad kk V L Z) → va_S A s.heap H locs → lv_has ls 12 [(9, .int y8), (8, .int y9), (7, .int y10), (6, .int (V 59 (8 * (24 * b + (Int32.toNatClampNeg p0)) + (Int32.toNatClampNeg p1)))), (5, .int (V 58 (8 * (24 * b + (Int32.toNatClampNeg p0)) + (Int32.toNatClampNeg p1)))), (4, .int (V 60 (8 * (24 * b + (Int32.toNatClampNeg p0)) + (Int32.toNatClampNeg p1)))), (3, .ref (ad (72 + (24 * b + (Int32.toNatClampNeg p0))))), (0, .ref (ad (38 + b))), (1, .int p0), (2, .int p1)] → W p l e r_x_candidates2 s m ([.ref (ad (38 + b)), .int p0, .int p1] : List Value).toArray below meth c H locs 0 0 (MQ below (q_x_candidates2 D ks ad kk V L Z p0 p1 b A) ([.ref (ad (38 + b)), .int p0, .int p1] : List Value).toArray s 0 0 A) (F0 m 40 ls []) := by
    intro fulp11
    induction fulp11 with
    | zero =>
      intro y8 y9 y10 H locs ls klp11_0 klp11_1 hn  hP hD hS hl
      exfalso; (first | exact om_9386ef0df612 klp11_0.2 hn | omega)
    | succ fulp11 ihlp11 =>
      intro y8 y9 y10 H locs ls klp11_0 klp11_1 hn  hP hD hS hl
      refine lv_iload hx hb dX0_candidates_40 (lv_at hl 0 rfl) ?_
      refine lv_aload_n hx hb dX0_candidates_42 rfl (lv_at hl 7 rfl) ?_
      refine va_get (D := D) (ci := 0) (v := .ref (ad (40 + (5 * b + 2)))) (fs := (xfBook ad V b)) (C := RX0) (T := TX0) (N := 13) hx hb hg inX0 hown hK hP (38 + b) (xgBook hb2) rfl 2 (by decide) (hg _ w599) (fun _ h9 => h9) rfl dX0_candidates_43 ?_
      have il12 : (5 * b + 2) < 10 := by (first | exact om_1478e52fbf50 hb2 | omega)
      refine va_getN (D := D) (ci := 6) (v := .int (V 43 (5 * b + 2))) (fs := (xfNames ad V (5 * b + 2))) (C := RX6) (T := TX6) (N := 2) hx hb hg inX6 hown hK hP (40 + (5 * b + 2)) (xgNames il12) rfl 1 (by decide) (hnw.use 481 n481 rfl) (fun _ h9 => h9) rfl dX0_candidates_46 ?_
      have r13 : 0 ≤ ((V 43 (5 * b + 2))).toInt ∧ ((V 43 (5 * b + 2))).toInt ≤ ((xcap (5 * b + 2) : Nat) : Int) := hMV 43 (5 * b + 2)
      have r14 : xcap (5 * b + 2) = 24 := xcap_2
      refine lv_icmp_ge (tgt := 171) hx hb dX0_candidates_49 (by decide) (fun c15 => ?_) (fun c15 => ?_)
      · skip
        have f16 : ((V 43 (5 * b + 2))).toInt ≤ y8.toInt := b_le rfl rfl c15
        refine lv_iload hx hb dX0_candidates_171 (lv_at hl 2 rfl) ?_
        exact W.iret (v := y10) hx hb hr (fun t ht hW => ⟨⟨y10, (), rfl, (show 0 ≤ y10.toInt ∧ y10.toInt ≤ 16777215 from by (first | exact om_c51a6401fccc klp11_1.1 klp11_1.2 | omega)), by rw [ht]; exact hP, va_K.moved hW.alike hK, hD⟩, hS.F ht⟩) hS.2.2 dX0_candidates_173
      · skip
        have f17 : y8.toInt < ((V 43 (5 * b + 2))).toInt := b_nle rfl rfl c15
        refine lv_aload_n hx hb dX0_candidates_52 rfl (lv_at hl 7 rfl) ?_
        refine va_get (D := D) (ci := 0) (v := .ref (ad (64 + b))) (fs := (xfBook ad V b)) (C := RX0) (T := TX0) (N := 13) hx hb hg inX0 hown hK hP (38 + b) (xgBook hb2) rfl 7 (by decide) (hg _ w614) (fun _ h9 => h9) rfl dX0_candidates_53 ?_
        refine lv_iload hx hb dX0_candidates_56 (lv_at hl 0 rfl) ?_
        refine va_aldq (D := D) (i := y8) hx hb hK hP (64 + b) (57 + b) (xgcomps il1) (xtcomps il1) (i_in (a := y8.toInt) rfl (by (first | exact om_9f35ed8d252f klp11_0.1 r13.2 r14 f17 | omega))) dX0_candidates_58 ?_
        have kc18 := i_clamp (x := y8) rfl (by (first | exact om_eafa9039069c klp11_0.1 | omega))
        refine g_topv (v := .ref (ad (72 + (24 * b + (Int32.toNatClampNeg y8))))) (congrArg va_rf (if_pos (by omega))) ?_
        have il19 : (24 * b + (Int32.toNatClampNeg y8)) < 48 := by (first | exact om_896e2f636ed1 hb2 r13.2 r14 f17 kc18 | omega)
        refine lv_astore (lv' := [(10, .ref (ad (72 + (24 * b + (Int32.toNatClampNeg y8))))), (9, .int y8), (8, .int y9), (7, .int y10), (6, .int (V 59 (8 * (24 * b + (Int32.toNatClampNeg p0)) + (Int32.toNatClampNeg p1)))), (5, .int (V 58 (8 * (24 * b + (Int32.toNatClampNeg p0)) + (Int32.toNatClampNeg p1)))), (4, .int (V 60 (8 * (24 * b + (Int32.toNatClampNeg p0)) + (Int32.toNatClampNeg p1)))), (3, .ref (ad (72 + (24 * b + (Int32.toNatClampNeg p0))))), (0, .ref (ad (38 + b))), (1, .int p0), (2, .int p1)]) hx hb dX0_candidates_59 hl (by decide) rfl (fun ls hl => ?_)
        refine lv_iload hx hb dX0_candidates_61 (lv_at hl 4 rfl) ?_
        refine lv_iconst (v := (-1)) hx hb dX0_candidates_63 (by decide) ?_
        refine lv_icmp_eq (tgt := 77) hx hb dX0_candidates_64 (by decide) (fun c20 => ?_) (fun c20 => ?_)
        · skip
          have f21 : ((V 59 (8 * (24 * b + (Int32.toNatClampNeg p0)) + (Int32.toNatClampNeg p1)))).toInt = (-1) := b_eq rfl (by decide) c20
          refine lv_iconst (v := 1) hx hb dX0_candidates_77 (by decide) ?_
          refine lv_goto (tgt := 82) hx hb dX0_candidates_78 (by decide) ?_
          refine lv_istore (lv' := [(11, .int 1), (10, .ref (ad (72 + (24 * b + (Int32.toNatClampNeg y8))))), (9, .int y8), (8, .int y9), (7, .int y10), (6, .int (V 59 (8 * (24 * b + (Int32.toNatClampNeg p0)) + (Int32.toNatClampNeg p1)))), (5, .int (V 58 (8 * (24 * b + (Int32.toNatClampNeg p0)) + (Int32.toNatClampNeg p1)))), (4, .int (V 60 (8 * (24 * b + (Int32.toNatClampNeg p0)) + (Int32.toNatClampNeg p1)))), (3, .ref (ad (72 + (24 * b + (Int32.toNatClampNeg p0))))), (0, .ref (ad (38 + b))), (1, .int p0), (2, .int p1)]) hx hb dX0_candidates_82 hl (by decide) rfl (fun ls hl => ?_)
          refine lv_aload hx hb dX0_candidates_84 (lv_at hl 1 rfl) ?_
          refine va_getN (D := D) (ci := 3) (v := .int (V 50 (24 * b + (Int32.toNatClampNeg y8)))) (fs := (xfComp ad V (24 * b + (Int32.toNatClampNeg y8)))) (C := RX3) (T := TX3) (N := 13) hx hb hg inX3 hown hK hP (72 + (24 * b + (Int32.toNatClampNeg y8))) (xgComp il19) rfl 5 (by decide) (hnw.use 517 n517 rfl) (fun _ h9 => h9) rfl dX0_candidates_86 ?_
          refine lv_iload hx hb dX0_candidates_89 (lv_at hl 6 rfl) ?_
          refine lv_ishr hx hb dX0_candidates_91 ?_
          refine lv_topi (fun z22 ez22 => ?_)
          refine lv_iconst (v := 1) hx hb dX0_candidates_92 (by decide) ?_
          refine lv_iand hx hb dX0_candidates_93 ?_
          refine lv_topi (fun z23 ez23 => ?_)
          have hz23 : 0 ≤ z23.toInt ∧ z23.toInt ≤ 1 := and_m ez23 (by decide)
          refine lv_if_eq (tgt := 165) hx hb dX0_candidates_94 (by decide) (fun c24 => ?_) (fun c24 => ?_)
          · skip
            have f25 : z23.toInt = 0 := b_eq rfl (by decide) c24
            obtain ⟨z26, ez26⟩ : ∃ y : Int32, y = y8 + 1 := ⟨_, rfl⟩
            have hz26 : z26.toInt = y8.toInt + 1 := i_add ez26 rfl (by decide) (by (first | exact om_c7103e519a6e klp11_0.1 r13.2 r14 f17 | omega))
            refine lv_iinc (v := z26) (lv' := [(9, .int z26), (11, .int 1), (10, .ref (ad (72 + (24 * b + (Int32.toNatClampNeg y8))))), (8, .int y9), (7, .int y10), (6, .int (V 59 (8 * (24 * b + (Int32.toNatClampNeg p0)) + (Int32.toNatClampNeg p1)))), (5, .int (V 58 (8 * (24 * b + (Int32.toNatClampNeg p0)) + (Int32.toNatClampNeg p1)))), (4, .int (V 60 (8 * (24 * b + (Int32.toNatClampNeg p0)) + (Int32.toNatClampNeg p1)))), (3, .ref (ad (72 + (24 * b + (Int32.toNatClampNeg p0))))), (0, .ref (ad (38 + b))), (1, .int p0), (2, .int p1)]) hx hb dX0_candidates_165 hl (k := 2) rfl (by rw [ez26]; rfl) (by decide) rfl (fun ls hl => ?_)
            refine lv_goto (tgt := 40) hx hb dX0_candidates_168 (by decide) ?_
            have r27 : Int32.toInt 1 = 1 := by decide
            exact ihlp11 z26 y9 y10 H locs ls (by (first | exact om_ebd92ed44179 klp11_0.1 r13.2 r14 f17 hz26 | omega)) (by (first | exact om_c51a6401fccc klp11_1.1 klp11_1.2 | omega)) (by (first | exact om_9592d9319ffa hn hz26 | omega)) hP hD hS (lv_sub hl [0, 3, 4, 5, 6, 7, 8, 9, 10, 11] rfl)
          · skip
            have f28 : z23.toInt ≠ 0 := b_neq rfl (by decide) c24
            refine lv_iload hx hb dX0_candidates_97 (lv_at hl 0 rfl) ?_
            refine lv_if_eq (tgt := 165) hx hb dX0_candidates_99 (by decide) (fun q => absurd q (by decide)) (fun _ => ?_)
            refine lv_aload_n hx hb dX0_candidates_102 rfl (lv_at hl 9 rfl) ?_
            refine lv_iload hx hb dX0_candidates_103 (lv_at hl 2 rfl) ?_
            refine gA_int (gA_runV (As := [.int y8]) (rest := []) (ci := 0) (q0 := (38 + b)) hx hb hml hown hg hP hD hK hS hA hnw hgk (x_isThere l D ks H.size ad kk V L Z y8 (b) hMV (by (first | exact om_5ea855d61ca3 klp11_0.1 r13.2 r14 f17 | omega)) (show b < 2 from by (first | exact om_f940a4667dd6 hb2 | omega))) w1085 w1070 w1071 w167 w1072 rfl (xgBook hb2) hdV_yX0_isThere ⟨Nat.le_of_ble_eq_true rfl, Nat.le_of_ble_eq_true rfl⟩ rfl hl.1 rfl (Nat.le_of_ble_eq_true rfl) dX0_candidates_105 ⟨Nat.le_of_ble_eq_true rfl, Nat.le_of_ble_eq_true rfl⟩) hP hD hK hS hA (fun z29 u30 H locs w31 hP hD hK hS => ?_)
            have rgz29 := w31
            have rgz29 : 0 ≤ z29.toInt ∧ z29.toInt ≤ 1 := rgz29
            refine lv_if_ne (tgt := 114) hx hb dX0_candidates_108 (by decide) (fun c32 => ?_) (fun c32 => ?_)
            · skip
              have f33 : z29.toInt ≠ 0 := b_neq rfl (by decide) c32
              refine lv_iload hx hb dX0_candidates_114 (lv_at hl 7 rfl) ?_
              refine lv_iconst (v := 2) hx hb dX0_candidates_116 (by decide) ?_
              refine lv_icmp_eq (tgt := 140) hx hb dX0_candidates_117 (by decide) (fun c34 => ?_) (fun c34 => ?_)
              · skip
                have f35 : ((V 60 (8 * (24 * b + (Int32.toNatClampNeg p0)) + (Int32.toNatClampNeg p1)))).toInt = 2 := b_eq rfl (by decide) c34
                refine lv_iload hx hb dX0_candidates_140 (lv_at hl 7 rfl) ?_
                refine lv_iconst (v := 2) hx hb dX0_candidates_142 (by decide) ?_
                refine lv_icmp_eq (tgt := 156) hx hb dX0_candidates_143 (by decide) (fun c36 => ?_) (fun c36 => ?_)
                · skip
                  have f37 : ((V 60 (8 * (24 * b + (Int32.toNatClampNeg p0)) + (Int32.toNatClampNeg p1)))).toInt = 2 := b_eq rfl (by decide) c36
                  refine lv_iload hx hb dX0_candidates_156 (lv_at hl 4 rfl) ?_
                  refine lv_iconst (v := 1) hx hb dX0_candidates_158 (by decide) ?_
                  refine lv_iload hx hb dX0_candidates_159 (lv_at hl 2 rfl) ?_
                  refine lv_ishl hx hb dX0_candidates_161 ?_
                  refine lv_topi (fun z38 ez38 => ?_)
                  have hz38 : 0 ≤ z38.toInt ∧ z38.toInt < 16777216 := shl1 ez38 (by omega)
                  refine lv_ior hx hb dX0_candidates_162 ?_
                  refine lv_topi (fun z39 ez39 => ?_)
                  have hz39 : 0 ≤ z39.toInt ∧ z39.toInt < 16777216 := or24 ez39 (by omega) (by omega)
                  refine lv_istore (lv' := [(7, .int z39), (11, .int 1), (10, .ref (ad (72 + (24 * b + (Int32.toNatClampNeg y8))))), (9, .int y8), (8, .int y9), (6, .int (V 59 (8 * (24 * b + (Int32.toNatClampNeg p0)) + (Int32.toNatClampNeg p1)))), (5, .int (V 58 (8 * (24 * b + (Int32.toNatClampNeg p0)) + (Int32.toNatClampNeg p1)))), (4, .int (V 60 (8 * (24 * b + (Int32.toNatClampNeg p0)) + (Int32.toNatClampNeg p1)))), (3, .ref (ad (72 + (24 * b + (Int32.toNatClampNeg p0))))), (0, .ref (ad (38 + b))), (1, .int p0), (2, .int p1)]) hx hb dX0_candidates_163 hl (by decide) rfl (fun ls hl => ?_)
                  obtain ⟨z40, ez40⟩ : ∃ y : Int32, y = y8 + 1 := ⟨_, rfl⟩
                  have hz40 : z40.toInt = y8.toInt + 1 := i_add ez40 rfl (by decide) (by (first | exact om_c7103e519a6e klp11_0.1 r13.2 r14 f17 | omega))
                  refine lv_iinc (v := z40) (lv' := [(9, .int z40), (7, .int z39), (11, .int 1), (10, .ref (ad (72 + (24 * b + (Int32.toNatClampNeg y8))))), (8, .int y9), (6, .int (V 59 (8 * (24 * b + (Int32.toNatClampNeg p0)) + (Int32.toNatClampNeg p1)))), (5, .int (V 58 (8 * (24 * b + (Int32.toNatClampNeg p0)) + (Int32.toNatClampNeg p1)))), (4, .int (V 60 (8 * (24 * b + (Int32.toNatClampNeg p0)) + (Int32.toNatClampNeg p1)))), (3, .ref (ad (72 + (24 * b + (Int32.toNatClampNeg p0))))), (0, .ref (ad (38 + b))), (1, .int p0), (2, .int p1)]) hx hb dX0_candidates_165 hl (k := 3) rfl (by rw [ez40]; rfl) (by decide) rfl (fun ls hl => ?_)
                  refine lv_goto (tgt := 40) hx hb dX0_candidates_168 (by decide) ?_
                  have r41 : Int32.toInt 1 = 1 := by decide
                  exact ihlp11 z40 y9 z39 H locs ls (by (first | exact om_ebd92ed44179 klp11_0.1 r13.2 r14 f17 hz40 | omega)) (by (first | exact om_8a0dcf576dcd hz39.1 hz39.2 | omega)) (by (first | exact om_9592d9319ffa hn hz40 | omega)) hP hD hS (lv_sub hl [0, 4, 1, 5, 6, 7, 8, 9, 10, 11] rfl)
                · skip
                  have f42 : ((V 60 (8 * (24 * b + (Int32.toNatClampNeg p0)) + (Int32.toNatClampNeg p1)))).toInt ≠ 2 := b_neq rfl (by decide) c36
                  exfalso; (first | exact om_da4eef675bfb f35 f42 | omega)
              · skip
                have f43 : ((V 60 (8 * (24 * b + (Int32.toNatClampNeg p0)) + (Int32.toNatClampNeg p1)))).toInt ≠ 2 := b_neq rfl (by decide) c34
                refine lv_aload hx hb dX0_candidates_120 (lv_at hl 1 rfl) ?_
                refine va_getN (D := D) (ci := 3) (v := .int (V 53 (24 * b + (Int32.toNatClampNeg y8)))) (fs := (xfComp ad V (24 * b + (Int32.toNatClampNeg y8)))) (C := RX3) (T := TX3) (N := 13) hx hb hg inX3 hown hK hP (72 + (24 * b + (Int32.toNatClampNeg y8))) (xgComp il19) rfl 8 (by decide) (hnw.use 529 n529 rfl) (fun _ h9 => h9) rfl dX0_candidates_122 ?_
                refine lv_iload hx hb dX0_candidates_125 (lv_at hl 3 rfl) ?_
                refine lv_icmp_le (tgt := 140) hx hb dX0_candidates_127 (by decide) (fun c44 => ?_) (fun c44 => ?_)
                · skip
                  have f45 : ((V 53 (24 * b + (Int32.toNatClampNeg y8)))).toInt ≤ y9.toInt := b_le rfl rfl c44
                  refine lv_iload hx hb dX0_candidates_140 (lv_at hl 7 rfl) ?_
                  refine lv_iconst (v := 2) hx hb dX0_candidates_142 (by decide) ?_
                  refine lv_icmp_eq (tgt := 156) hx hb dX0_candidates_143 (by decide) (fun c46 => ?_) (fun c46 => ?_)
                  · skip
                    have f47 : ((V 60 (8 * (24 * b + (Int32.toNatClampNeg p0)) + (Int32.toNatClampNeg p1)))).toInt = 2 := b_eq rfl (by decide) c46
                    refine lv_iload hx hb dX0_candidates_156 (lv_at hl 4 rfl) ?_
                    refine lv_iconst (v := 1) hx hb dX0_candidates_158 (by decide) ?_
                    refine lv_iload hx hb dX0_candidates_159 (lv_at hl 2 rfl) ?_
                    refine lv_ishl hx hb dX0_candidates_161 ?_
                    refine lv_topi (fun z48 ez48 => ?_)
                    have hz48 : 0 ≤ z48.toInt ∧ z48.toInt < 16777216 := shl1 ez48 (by omega)
                    refine lv_ior hx hb dX0_candidates_162 ?_
                    refine lv_topi (fun z49 ez49 => ?_)
                    have hz49 : 0 ≤ z49.toInt ∧ z49.toInt < 16777216 := or24 ez49 (by omega) (by omega)
                    refine lv_istore (lv' := [(7, .int z49), (11, .int 1), (10, .ref (ad (72 + (24 * b + (Int32.toNatClampNeg y8))))), (9, .int y8), (8, .int y9), (6, .int (V 59 (8 * (24 * b + (Int32.toNatClampNeg p0)) + (Int32.toNatClampNeg p1)))), (5, .int (V 58 (8 * (24 * b + (Int32.toNatClampNeg p0)) + (Int32.toNatClampNeg p1)))), (4, .int (V 60 (8 * (24 * b + (Int32.toNatClampNeg p0)) + (Int32.toNatClampNeg p1)))), (3, .ref (ad (72 + (24 * b + (Int32.toNatClampNeg p0))))), (0, .ref (ad (38 + b))), (1, .int p0), (2, .int p1)]) hx hb dX0_candidates_163 hl (by decide) rfl (fun ls hl => ?_)
                    obtain ⟨z50, ez50⟩ : ∃ y : Int32, y = y8 + 1 := ⟨_, rfl⟩
                    have hz50 : z50.toInt = y8.toInt + 1 := i_add ez50 rfl (by decide) (by omega)
                    refine lv_iinc (v := z50) (lv' := [(9, .int z50), (7, .int z49), (11, .int 1), (10, .ref (ad (72 + (24 * b + (Int32.toNatClampNeg y8))))), (8, .int y9), (6, .int (V 59 (8 * (24 * b + (Int32.toNatClampNeg p0)) + (Int32.toNatClampNeg p1)))), (5, .int (V 58 (8 * (24 * b + (Int32.toNatClampNeg p0)) + (Int32.toNatClampNeg p1)))), (4, .int (V 60 (8 * (24 * b + (Int32.toNatClampNeg p0)) + (Int32.toNatClampNeg p1)))), (3, .ref (ad (72 + (24 * b + (Int32.toNatClampNeg p0))))), (0, .ref (ad (38 + b))), (1, .int p0), (2, .int p1)]) hx hb dX0_candidates_165 hl (k := 3) rfl (by rw [ez50]; rfl) (by decide) rfl (fun ls hl => ?_)
                    refine lv_goto (tgt := 40) hx hb dX0_candidates_168 (by decide) ?_
                    have r51 : Int32.toInt 1 = 1 := by decide
                    exact ihlp11 z50 y9 z49 H locs ls (by omega) (by omega) (by omega) hP hD hS (lv_sub hl [0, 4, 1, 5, 6, 7, 8, 9, 10, 11] rfl)
                  · skip
                    have f52 : ((V 60 (8 * (24 * b + (Int32.toNatClampNeg p0)) + (Int32.toNatClampNeg p1)))).toInt ≠ 2 := b_neq rfl (by decide) c46
                    refine lv_aload hx hb dX0_candidates_146 (lv_at hl 1 rfl) ?_
                    refine va_getN (D := D) (ci := 3) (v := .int (V 53 (24 * b + (Int32.toNatClampNeg y8)))) (fs := (xfComp ad V (24 * b + (Int32.toNatClampNeg y8)))) (C := RX3) (T := TX3) (N := 13) hx hb hg inX3 hown hK hP (72 + (24 * b + (Int32.toNatClampNeg y8))) (xgComp il19) rfl 8 (by decide) (hnw.use 529 n529 rfl) (fun _ h9 => h9) rfl dX0_candidates_148 ?_
                    refine lv_iload hx hb dX0_candidates_151 (lv_at hl 3 rfl) ?_
                    refine lv_icmp_ne (tgt := 165) hx hb dX0_candidates_153 (by decide) (fun c53 => ?_) (fun c53 => ?_)
                    · skip
                      have f54 : ((V 53 (24 * b + (Int32.toNatClampNeg y8)))).toInt ≠ y9.toInt := b_neq rfl rfl c53
                      obtain ⟨z55, ez55⟩ : ∃ y : Int32, y = y8 + 1 := ⟨_, rfl⟩
                      have hz55 : z55.toInt = y8.toInt + 1 := i_add ez55 rfl (by decide) (by (first | exact om_c7103e519a6e klp11_0.1 r13.2 r14 f17 | omega))
                      refine lv_iinc (v := z55) (lv' := [(9, .int z55), (11, .int 1), (10, .ref (ad (72 + (24 * b + (Int32.toNatClampNeg y8))))), (8, .int y9), (7, .int y10), (6, .int (V 59 (8 * (24 * b + (Int32.toNatClampNeg p0)) + (Int32.toNatClampNeg p1)))), (5, .int (V 58 (8 * (24 * b + (Int32.toNatClampNeg p0)) + (Int32.toNatClampNeg p1)))), (4, .int (V 60 (8 * (24 * b + (Int32.toNatClampNeg p0)) + (Int32.toNatClampNeg p1)))), (3, .ref (ad (72 + (24 * b + (Int32.toNatClampNeg p0))))), (0, .ref (ad (38 + b))), (1, .int p0), (2, .int p1)]) hx hb dX0_candidates_165 hl (k := 2) rfl (by rw [ez55]; rfl) (by decide) rfl (fun ls hl => ?_)
                      refine lv_goto (tgt := 40) hx hb dX0_candidates_168 (by decide) ?_
                      have r56 : Int32.toInt 1 = 1 := by decide
                      exact ihlp11 z55 y9 y10 H locs ls (by (first | exact om_ebd92ed44179 klp11_0.1 r13.2 r14 f17 hz55 | omega)) (by (first | exact om_c51a6401fccc klp11_1.1 klp11_1.2 | omega)) (by (first | exact om_9592d9319ffa hn hz55 | omega)) hP hD hS (lv_sub hl [0, 3, 4, 5, 6, 7, 8, 9, 10, 11] rfl)
                    · skip
                      have f57 : ((V 53 (24 * b + (Int32.toNatClampNeg y8)))).toInt = y9.toInt := b_eq rfl rfl c53
                      refine lv_iload hx hb dX0_candidates_156 (lv_at hl 4 rfl) ?_
                      refine lv_iconst (v := 1) hx hb dX0_candidates_158 (by decide) ?_
                      refine lv_iload hx hb dX0_candidates_159 (lv_at hl 2 rfl) ?_
                      refine lv_ishl hx hb dX0_candidates_161 ?_
                      refine lv_topi (fun z58 ez58 => ?_)
                      have hz58 : 0 ≤ z58.toInt ∧ z58.toInt < 16777216 := shl1 ez58 (by omega)
                      refine lv_ior hx hb dX0_candidates_162 ?_
                      refine lv_topi (fun z59 ez59 => ?_)
                      have hz59 : 0 ≤ z59.toInt ∧ z59.toInt < 16777216 := or24 ez59 (by omega) (by omega)
                      refine lv_istore (lv' := [(7, .int z59), (11, .int 1), (10, .ref (ad (72 + (24 * b + (Int32.toNatClampNeg y8))))), (9, .int y8), (8, .int y9), (6, .int (V 59 (8 * (24 * b + (Int32.toNatClampNeg p0)) + (Int32.toNatClampNeg p1)))), (5, .int (V 58 (8 * (24 * b + (Int32.toNatClampNeg p0)) + (Int32.toNatClampNeg p1)))), (4, .int (V 60 (8 * (24 * b + (Int32.toNatClampNeg p0)) + (Int32.toNatClampNeg p1)))), (3, .ref (ad (72 + (24 * b + (Int32.toNatClampNeg p0))))), (0, .ref (ad (38 + b))), (1, .int p0), (2, .int p1)]) hx hb dX0_candidates_163 hl (by decide) rfl (fun ls hl => ?_)
                      obtain ⟨z60, ez60⟩ : ∃ y : Int32, y = y8 + 1 := ⟨_, rfl⟩
                      have hz60 : z60.toInt = y8.toInt + 1 := i_add ez60 rfl (by decide) (by (first | exact om_c7103e519a6e klp11_0.1 r13.2 r14 f17 | omega))
                      refine lv_iinc (v := z60) (lv' := [(9, .int z60), (7, .int z59), (11, .int 1), (10, .ref (ad (72 + (24 * b + (Int32.toNatClampNeg y8))))), (8, .int y9), (6, .int (V 59 (8 * (24 * b + (Int32.toNatClampNeg p0)) + (Int32.toNatClampNeg p1)))), (5, .int (V 58 (8 * (24 * b + (Int32.toNatClampNeg p0)) + (Int32.toNatClampNeg p1)))), (4, .int (V 60 (8 * (24 * b + (Int32.toNatClampNeg p0)) + (Int32.toNatClampNeg p1)))), (3, .ref (ad (72 + (24 * b + (Int32.toNatClampNeg p0))))), (0, .ref (ad (38 + b))), (1, .int p0), (2, .int p1)]) hx hb dX0_candidates_165 hl (k := 3) rfl (by rw [ez60]; rfl) (by decide) rfl (fun ls hl => ?_)
                      refine lv_goto (tgt := 40) hx hb dX0_candidates_168 (by decide) ?_
                      have r61 : Int32.toInt 1 = 1 := by decide
                      exact ihlp11 z60 y9 z59 H locs ls (by (first | exact om_ebd92ed44179 klp11_0.1 r13.2 r14 f17 hz60 | omega)) (by (first | exact om_8a0dcf576dcd hz59.1 hz59.2 | omega)) (by (first | exact om_9592d9319ffa hn hz60 | omega)) hP hD hS (lv_sub hl [0, 4, 1, 5, 6, 7, 8, 9, 10, 11] rfl)
                · skip
                  have f62 : y9.toInt < ((V 53 (24 * b + (Int32.toNatClampNeg y8)))).toInt := b_nle rfl rfl c44
                  refine lv_aload hx hb dX0_candidates_130 (lv_at hl 1 rfl) ?_
                  refine va_getN (D := D) (ci := 3) (v := .int (V 53 (24 * b + (Int32.toNatClampNeg y8)))) (fs := (xfComp ad V (24 * b + (Int32.toNatClampNeg y8)))) (C := RX3) (T := TX3) (N := 13) hx hb hg inX3 hown hK hP (72 + (24 * b + (Int32.toNatClampNeg y8))) (xgComp il19) rfl 8 (by decide) (hnw.use 529 n529 rfl) (fun _ h9 => h9) rfl dX0_candidates_132 ?_
                  refine lv_istore (lv' := [(8, .int (V 53 (24 * b + (Int32.toNatClampNeg y8)))), (11, .int 1), (10, .ref (ad (72 + (24 * b + (Int32.toNatClampNeg y8))))), (9, .int y8), (7, .int y10), (6, .int (V 59 (8 * (24 * b + (Int32.toNatClampNeg p0)) + (Int32.toNatClampNeg p1)))), (5, .int (V 58 (8 * (24 * b + (Int32.toNatClampNeg p0)) + (Int32.toNatClampNeg p1)))), (4, .int (V 60 (8 * (24 * b + (Int32.toNatClampNeg p0)) + (Int32.toNatClampNeg p1)))), (3, .ref (ad (72 + (24 * b + (Int32.toNatClampNeg p0))))), (0, .ref (ad (38 + b))), (1, .int p0), (2, .int p1)]) hx hb dX0_candidates_135 hl (by decide) rfl (fun ls hl => ?_)
                  refine lv_iconst (v := 0) hx hb dX0_candidates_137 (by decide) ?_
                  refine lv_istore (lv' := [(7, .int 0), (8, .int (V 53 (24 * b + (Int32.toNatClampNeg y8)))), (11, .int 1), (10, .ref (ad (72 + (24 * b + (Int32.toNatClampNeg y8))))), (9, .int y8), (6, .int (V 59 (8 * (24 * b + (Int32.toNatClampNeg p0)) + (Int32.toNatClampNeg p1)))), (5, .int (V 58 (8 * (24 * b + (Int32.toNatClampNeg p0)) + (Int32.toNatClampNeg p1)))), (4, .int (V 60 (8 * (24 * b + (Int32.toNatClampNeg p0)) + (Int32.toNatClampNeg p1)))), (3, .ref (ad (72 + (24 * b + (Int32.toNatClampNeg p0))))), (0, .ref (ad (38 + b))), (1, .int p0), (2, .int p1)]) hx hb dX0_candidates_138 hl (by decide) rfl (fun ls hl => ?_)
                  refine lv_iload hx hb dX0_candidates_140 (lv_at hl 7 rfl) ?_
                  refine lv_iconst (v := 2) hx hb dX0_candidates_142 (by decide) ?_
                  refine lv_icmp_eq (tgt := 156) hx hb dX0_candidates_143 (by decide) (fun c63 => ?_) (fun c63 => ?_)
                  · skip
                    have f64 : ((V 60 (8 * (24 * b + (Int32.toNatClampNeg p0)) + (Int32.toNatClampNeg p1)))).toInt = 2 := b_eq rfl (by decide) c63
                    refine lv_iload hx hb dX0_candidates_156 (lv_at hl 0 rfl) ?_
                    refine lv_iconst (v := 1) hx hb dX0_candidates_158 (by decide) ?_
                    refine lv_iload hx hb dX0_candidates_159 (lv_at hl 4 rfl) ?_
                    refine lv_ishl hx hb dX0_candidates_161 ?_
                    refine lv_topi (fun z65 ez65 => ?_)
                    have hz65 : 0 ≤ z65.toInt ∧ z65.toInt < 16777216 := shl1 ez65 (by omega)
                    refine lv_ior hx hb dX0_candidates_162 ?_
                    refine lv_topi (fun z66 ez66 => ?_)
                    have hz66 : 0 ≤ z66.toInt ∧ z66.toInt < 16777216 := or24 ez66 (by decide) (by omega)
                    refine lv_istore (lv' := [(7, .int z66), (8, .int (V 53 (24 * b + (Int32.toNatClampNeg y8)))), (11, .int 1), (10, .ref (ad (72 + (24 * b + (Int32.toNatClampNeg y8))))), (9, .int y8), (6, .int (V 59 (8 * (24 * b + (Int32.toNatClampNeg p0)) + (Int32.toNatClampNeg p1)))), (5, .int (V 58 (8 * (24 * b + (Int32.toNatClampNeg p0)) + (Int32.toNatClampNeg p1)))), (4, .int (V 60 (8 * (24 * b + (Int32.toNatClampNeg p0)) + (Int32.toNatClampNeg p1)))), (3, .ref (ad (72 + (24 * b + (Int32.toNatClampNeg p0))))), (0, .ref (ad (38 + b))), (1, .int p0), (2, .int p1)]) hx hb dX0_candidates_163 hl (by decide) rfl (fun ls hl => ?_)
                    obtain ⟨z67, ez67⟩ : ∃ y : Int32, y = y8 + 1 := ⟨_, rfl⟩
                    have hz67 : z67.toInt = y8.toInt + 1 := i_add ez67 rfl (by decide) (by omega)
                    refine lv_iinc (v := z67) (lv' := [(9, .int z67), (7, .int z66), (8, .int (V 53 (24 * b + (Int32.toNatClampNeg y8)))), (11, .int 1), (10, .ref (ad (72 + (24 * b + (Int32.toNatClampNeg y8))))), (6, .int (V 59 (8 * (24 * b + (Int32.toNatClampNeg p0)) + (Int32.toNatClampNeg p1)))), (5, .int (V 58 (8 * (24 * b + (Int32.toNatClampNeg p0)) + (Int32.toNatClampNeg p1)))), (4, .int (V 60 (8 * (24 * b + (Int32.toNatClampNeg p0)) + (Int32.toNatClampNeg p1)))), (3, .ref (ad (72 + (24 * b + (Int32.toNatClampNeg p0))))), (0, .ref (ad (38 + b))), (1, .int p0), (2, .int p1)]) hx hb dX0_candidates_165 hl (k := 4) rfl (by rw [ez67]; rfl) (by decide) rfl (fun ls hl => ?_)
                    refine lv_goto (tgt := 40) hx hb dX0_candidates_168 (by decide) ?_
                    have r68 : Int32.toInt 1 = 1 := by decide
                    exact ihlp11 z67 (V 53 (24 * b + (Int32.toNatClampNeg y8))) z66 H locs ls (by omega) (by omega) (by omega) hP hD hS (lv_sub hl [0, 2, 1, 5, 6, 7, 8, 9, 10, 11] rfl)
                  · skip
                    have f69 : ((V 60 (8 * (24 * b + (Int32.toNatClampNeg p0)) + (Int32.toNatClampNeg p1)))).toInt ≠ 2 := b_neq rfl (by decide) c63
                    refine lv_aload hx hb dX0_candidates_146 (lv_at hl 3 rfl) ?_
                    refine va_getN (D := D) (ci := 3) (v := .int (V 53 (24 * b + (Int32.toNatClampNeg y8)))) (fs := (xfComp ad V (24 * b + (Int32.toNatClampNeg y8)))) (C := RX3) (T := TX3) (N := 13) hx hb hg inX3 hown hK hP (72 + (24 * b + (Int32.toNatClampNeg y8))) (xgComp il19) rfl 8 (by decide) (hnw.use 529 n529 rfl) (fun _ h9 => h9) rfl dX0_candidates_148 ?_
                    refine lv_iload hx hb dX0_candidates_151 (lv_at hl 1 rfl) ?_
                    refine lv_icmp_ne (tgt := 165) hx hb dX0_candidates_153 (by decide) (fun c70 => ?_) (fun c70 => ?_)
                    · skip
                      have f71 : ((V 53 (24 * b + (Int32.toNatClampNeg y8)))).toInt ≠ ((V 53 (24 * b + (Int32.toNatClampNeg y8)))).toInt := b_neq rfl rfl c70
                      obtain ⟨z72, ez72⟩ : ∃ y : Int32, y = y8 + 1 := ⟨_, rfl⟩
                      have hz72 : z72.toInt = y8.toInt + 1 := i_add ez72 rfl (by decide) (by (first | exact om_c7103e519a6e klp11_0.1 r13.2 r14 f17 | omega))
                      refine lv_iinc (v := z72) (lv' := [(9, .int z72), (7, .int 0), (8, .int (V 53 (24 * b + (Int32.toNatClampNeg y8)))), (11, .int 1), (10, .ref (ad (72 + (24 * b + (Int32.toNatClampNeg y8))))), (6, .int (V 59 (8 * (24 * b + (Int32.toNatClampNeg p0)) + (Int32.toNatClampNeg p1)))), (5, .int (V 58 (8 * (24 * b + (Int32.toNatClampNeg p0)) + (Int32.toNatClampNeg p1)))), (4, .int (V 60 (8 * (24 * b + (Int32.toNatClampNeg p0)) + (Int32.toNatClampNeg p1)))), (3, .ref (ad (72 + (24 * b + (Int32.toNatClampNeg p0))))), (0, .ref (ad (38 + b))), (1, .int p0), (2, .int p1)]) hx hb dX0_candidates_165 hl (k := 4) rfl (by rw [ez72]; rfl) (by decide) rfl (fun ls hl => ?_)
                      refine lv_goto (tgt := 40) hx hb dX0_candidates_168 (by decide) ?_
                      have r73 : Int32.toInt 0 = 0 := by decide
                      have r74 : Int32.toInt 1 = 1 := by decide
                      exact ihlp11 z72 (V 53 (24 * b + (Int32.toNatClampNeg y8))) 0 H locs ls (by (first | exact om_ebd92ed44179 klp11_0.1 r13.2 r14 f17 hz72 | omega)) (by decide) (by (first | exact om_9592d9319ffa hn hz72 | omega)) hP hD hS (lv_sub hl [0, 2, 1, 5, 6, 7, 8, 9, 10, 11] rfl)
                    · skip
                      have f75 : ((V 53 (24 * b + (Int32.toNatClampNeg y8)))).toInt = ((V 53 (24 * b + (Int32.toNatClampNeg y8)))).toInt := b_eq rfl rfl c70
                      refine lv_iload hx hb dX0_candidates_156 (lv_at hl 0 rfl) ?_
                      refine lv_iconst (v := 1) hx hb dX0_candidates_158 (by decide) ?_
                      refine lv_iload hx hb dX0_candidates_159 (lv_at hl 4 rfl) ?_
                      refine lv_ishl hx hb dX0_candidates_161 ?_
                      refine lv_topi (fun z76 ez76 => ?_)
                      have hz76 : 0 ≤ z76.toInt ∧ z76.toInt < 16777216 := shl1 ez76 (by omega)
                      refine lv_ior hx hb dX0_candidates_162 ?_
                      refine lv_topi (fun z77 ez77 => ?_)
                      have hz77 : 0 ≤ z77.toInt ∧ z77.toInt < 16777216 := or24 ez77 (by decide) (by omega)
                      refine lv_istore (lv' := [(7, .int z77), (8, .int (V 53 (24 * b + (Int32.toNatClampNeg y8)))), (11, .int 1), (10, .ref (ad (72 + (24 * b + (Int32.toNatClampNeg y8))))), (9, .int y8), (6, .int (V 59 (8 * (24 * b + (Int32.toNatClampNeg p0)) + (Int32.toNatClampNeg p1)))), (5, .int (V 58 (8 * (24 * b + (Int32.toNatClampNeg p0)) + (Int32.toNatClampNeg p1)))), (4, .int (V 60 (8 * (24 * b + (Int32.toNatClampNeg p0)) + (Int32.toNatClampNeg p1)))), (3, .ref (ad (72 + (24 * b + (Int32.toNatClampNeg p0))))), (0, .ref (ad (38 + b))), (1, .int p0), (2, .int p1)]) hx hb dX0_candidates_163 hl (by decide) rfl (fun ls hl => ?_)
                      obtain ⟨z78, ez78⟩ : ∃ y : Int32, y = y8 + 1 := ⟨_, rfl⟩
                      have hz78 : z78.toInt = y8.toInt + 1 := i_add ez78 rfl (by decide) (by (first | exact om_c7103e519a6e klp11_0.1 r13.2 r14 f17 | omega))
                      refine lv_iinc (v := z78) (lv' := [(9, .int z78), (7, .int z77), (8, .int (V 53 (24 * b + (Int32.toNatClampNeg y8)))), (11, .int 1), (10, .ref (ad (72 + (24 * b + (Int32.toNatClampNeg y8))))), (6, .int (V 59 (8 * (24 * b + (Int32.toNatClampNeg p0)) + (Int32.toNatClampNeg p1)))), (5, .int (V 58 (8 * (24 * b + (Int32.toNatClampNeg p0)) + (Int32.toNatClampNeg p1)))), (4, .int (V 60 (8 * (24 * b + (Int32.toNatClampNeg p0)) + (Int32.toNatClampNeg p1)))), (3, .ref (ad (72 + (24 * b + (Int32.toNatClampNeg p0))))), (0, .ref (ad (38 + b))), (1, .int p0), (2, .int p1)]) hx hb dX0_candidates_165 hl (k := 4) rfl (by rw [ez78]; rfl) (by decide) rfl (fun ls hl => ?_)
                      refine lv_goto (tgt := 40) hx hb dX0_candidates_168 (by decide) ?_
                      have r79 : Int32.toInt 1 = 1 := by decide
                      exact ihlp11 z78 (V 53 (24 * b + (Int32.toNatClampNeg y8))) z77 H locs ls (by (first | exact om_ebd92ed44179 klp11_0.1 r13.2 r14 f17 hz78 | omega)) (by (first | exact om_8a0dcf576dcd hz77.1 hz77.2 | omega)) (by (first | exact om_9592d9319ffa hn hz78 | omega)) hP hD hS (lv_sub hl [0, 2, 1, 5, 6, 7, 8, 9, 10, 11] rfl)
            · skip
              have f80 : z29.toInt = 0 := b_eq rfl (by decide) c32
              refine lv_goto (tgt := 165) hx hb dX0_candidates_111 (by decide) ?_
              obtain ⟨z81, ez81⟩ : ∃ y : Int32, y = y8 + 1 := ⟨_, rfl⟩
              have hz81 : z81.toInt = y8.toInt + 1 := i_add ez81 rfl (by decide) (by (first | exact om_c7103e519a6e klp11_0.1 r13.2 r14 f17 | omega))
              refine lv_iinc (v := z81) (lv' := [(9, .int z81), (11, .int 1), (10, .ref (ad (72 + (24 * b + (Int32.toNatClampNeg y8))))), (8, .int y9), (7, .int y10), (6, .int (V 59 (8 * (24 * b + (Int32.toNatClampNeg p0)) + (Int32.toNatClampNeg p1)))), (5, .int (V 58 (8 * (24 * b + (Int32.toNatClampNeg p0)) + (Int32.toNatClampNeg p1)))), (4, .int (V 60 (8 * (24 * b + (Int32.toNatClampNeg p0)) + (Int32.toNatClampNeg p1)))), (3, .ref (ad (72 + (24 * b + (Int32.toNatClampNeg p0))))), (0, .ref (ad (38 + b))), (1, .int p0), (2, .int p1)]) hx hb dX0_candidates_165 hl (k := 2) rfl (by rw [ez81]; rfl) (by decide) rfl (fun ls hl => ?_)
              refine lv_goto (tgt := 40) hx hb dX0_candidates_168 (by decide) ?_
              have r82 : Int32.toInt 1 = 1 := by decide
              exact ihlp11 z81 y9 y10 H locs ls (by (first | exact om_ebd92ed44179 klp11_0.1 r13.2 r14 f17 hz81 | omega)) (by (first | exact om_c51a6401fccc klp11_1.1 klp11_1.2 | omega)) (by (first | exact om_9592d9319ffa hn hz81 | omega)) hP hD hS (lv_sub hl [0, 3, 4, 5, 6, 7, 8, 9, 10, 11] rfl)
        · skip
          have f83 : ((V 59 (8 * (24 * b + (Int32.toNatClampNeg p0)) + (Int32.toNatClampNeg p1)))).toInt ≠ (-1) := b_neq rfl (by decide) c20
          refine lv_aload hx hb dX0_candidates_67 (lv_at hl 0 rfl) ?_
          refine va_getN (D := D) (ci := 3) (v := .int (V 52 (24 * b + (Int32.toNatClampNeg y8)))) (fs := (xfComp ad V (24 * b + (Int32.toNatClampNeg y8)))) (C := RX3) (T := TX3) (N := 13) hx hb hg inX3 hown hK hP (72 + (24 * b + (Int32.toNatClampNeg y8))) (xgComp il19) rfl 7 (by decide) (hnw.use 525 n525 rfl) (fun _ h9 => h9) rfl dX0_candidates_69 ?_
          refine lv_iload hx hb dX0_candidates_72 (lv_at hl 4 rfl) ?_
          refine lv_icmp_ne (tgt := 81) hx hb dX0_candidates_74 (by decide) (fun c84 => ?_) (fun c84 => ?_)
          · skip
            have f85 : ((V 52 (24 * b + (Int32.toNatClampNeg y8)))).toInt ≠ ((V 59 (8 * (24 * b + (Int32.toNatClampNeg p0)) + (Int32.toNatClampNeg p1)))).toInt := b_neq rfl rfl c84
            refine lv_iconst (v := 0) hx hb dX0_candidates_81 (by decide) ?_
            refine lv_istore (lv' := [(11, .int 0), (10, .ref (ad (72 + (24 * b + (Int32.toNatClampNeg y8))))), (9, .int y8), (8, .int y9), (7, .int y10), (6, .int (V 59 (8 * (24 * b + (Int32.toNatClampNeg p0)) + (Int32.toNatClampNeg p1)))), (5, .int (V 58 (8 * (24 * b + (Int32.toNatClampNeg p0)) + (Int32.toNatClampNeg p1)))), (4, .int (V 60 (8 * (24 * b + (Int32.toNatClampNeg p0)) + (Int32.toNatClampNeg p1)))), (3, .ref (ad (72 + (24 * b + (Int32.toNatClampNeg p0))))), (0, .ref (ad (38 + b))), (1, .int p0), (2, .int p1)]) hx hb dX0_candidates_82 hl (by decide) rfl (fun ls hl => ?_)
            refine lv_aload hx hb dX0_candidates_84 (lv_at hl 1 rfl) ?_
            refine va_getN (D := D) (ci := 3) (v := .int (V 50 (24 * b + (Int32.toNatClampNeg y8)))) (fs := (xfComp ad V (24 * b + (Int32.toNatClampNeg y8)))) (C := RX3) (T := TX3) (N := 13) hx hb hg inX3 hown hK hP (72 + (24 * b + (Int32.toNatClampNeg y8))) (xgComp il19) rfl 5 (by decide) (hnw.use 517 n517 rfl) (fun _ h9 => h9) rfl dX0_candidates_86 ?_
            refine lv_iload hx hb dX0_candidates_89 (lv_at hl 6 rfl) ?_
            refine lv_ishr hx hb dX0_candidates_91 ?_
            refine lv_topi (fun z86 ez86 => ?_)
            refine lv_iconst (v := 1) hx hb dX0_candidates_92 (by decide) ?_
            refine lv_iand hx hb dX0_candidates_93 ?_
            refine lv_topi (fun z87 ez87 => ?_)
            have hz87 : 0 ≤ z87.toInt ∧ z87.toInt ≤ 1 := and_m ez87 (by decide)
            refine lv_if_eq (tgt := 165) hx hb dX0_candidates_94 (by decide) (fun c88 => ?_) (fun c88 => ?_)
            · skip
              have f89 : z87.toInt = 0 := b_eq rfl (by decide) c88
              obtain ⟨z90, ez90⟩ : ∃ y : Int32, y = y8 + 1 := ⟨_, rfl⟩
              have hz90 : z90.toInt = y8.toInt + 1 := i_add ez90 rfl (by decide) (by (first | exact om_c7103e519a6e klp11_0.1 r13.2 r14 f17 | omega))
              refine lv_iinc (v := z90) (lv' := [(9, .int z90), (11, .int 0), (10, .ref (ad (72 + (24 * b + (Int32.toNatClampNeg y8))))), (8, .int y9), (7, .int y10), (6, .int (V 59 (8 * (24 * b + (Int32.toNatClampNeg p0)) + (Int32.toNatClampNeg p1)))), (5, .int (V 58 (8 * (24 * b + (Int32.toNatClampNeg p0)) + (Int32.toNatClampNeg p1)))), (4, .int (V 60 (8 * (24 * b + (Int32.toNatClampNeg p0)) + (Int32.toNatClampNeg p1)))), (3, .ref (ad (72 + (24 * b + (Int32.toNatClampNeg p0))))), (0, .ref (ad (38 + b))), (1, .int p0), (2, .int p1)]) hx hb dX0_candidates_165 hl (k := 2) rfl (by rw [ez90]; rfl) (by decide) rfl (fun ls hl => ?_)
              refine lv_goto (tgt := 40) hx hb dX0_candidates_168 (by decide) ?_
              have r91 : Int32.toInt 0 = 0 := by decide
              exact ihlp11 z90 y9 y10 H locs ls (by (first | exact om_ebd92ed44179 klp11_0.1 r13.2 r14 f17 hz90 | omega)) (by (first | exact om_c51a6401fccc klp11_1.1 klp11_1.2 | omega)) (by (first | exact om_9592d9319ffa hn hz90 | omega)) hP hD hS (lv_sub hl [0, 3, 4, 5, 6, 7, 8, 9, 10, 11] rfl)
            · skip
              have f92 : z87.toInt ≠ 0 := b_neq rfl (by decide) c88
              refine lv_iload hx hb dX0_candidates_97 (lv_at hl 0 rfl) ?_
              refine lv_if_eq (tgt := 165) hx hb dX0_candidates_99 (by decide) (fun _ => ?_) (fun q => absurd (by decide) q)
              obtain ⟨z93, ez93⟩ : ∃ y : Int32, y = y8 + 1 := ⟨_, rfl⟩
              have hz93 : z93.toInt = y8.toInt + 1 := i_add ez93 rfl (by decide) (by (first | exact om_c7103e519a6e klp11_0.1 r13.2 r14 f17 | omega))
              refine lv_iinc (v := z93) (lv' := [(9, .int z93), (11, .int 0), (10, .ref (ad (72 + (24 * b + (Int32.toNatClampNeg y8))))), (8, .int y9), (7, .int y10), (6, .int (V 59 (8 * (24 * b + (Int32.toNatClampNeg p0)) + (Int32.toNatClampNeg p1)))), (5, .int (V 58 (8 * (24 * b + (Int32.toNatClampNeg p0)) + (Int32.toNatClampNeg p1)))), (4, .int (V 60 (8 * (24 * b + (Int32.toNatClampNeg p0)) + (Int32.toNatClampNeg p1)))), (3, .ref (ad (72 + (24 * b + (Int32.toNatClampNeg p0))))), (0, .ref (ad (38 + b))), (1, .int p0), (2, .int p1)]) hx hb dX0_candidates_165 hl (k := 2) rfl (by rw [ez93]; rfl) (by decide) rfl (fun ls hl => ?_)
              refine lv_goto (tgt := 40) hx hb dX0_candidates_168 (by decide) ?_
              have r94 : Int32.toInt 0 = 0 := by decide
              exact ihlp11 z93 y9 y10 H locs ls (by (first | exact om_ebd92ed44179 klp11_0.1 r13.2 r14 f17 hz93 | omega)) (by (first | exact om_c51a6401fccc klp11_1.1 klp11_1.2 | omega)) (by (first | exact om_9592d9319ffa hn hz93 | omega)) hP hD hS (lv_sub hl [0, 3, 4, 5, 6, 7, 8, 9, 10, 11] rfl)
          · skip
            have f95 : ((V 52 (24 * b + (Int32.toNatClampNeg y8)))).toInt = ((V 59 (8 * (24 * b + (Int32.toNatClampNeg p0)) + (Int32.toNatClampNeg p1)))).toInt := b_eq rfl rfl c84
            refine lv_iconst (v := 1) hx hb dX0_candidates_77 (by decide) ?_
            refine lv_goto (tgt := 82) hx hb dX0_candidates_78 (by decide) ?_
            refine lv_istore (lv' := [(11, .int 1), (10, .ref (ad (72 + (24 * b + (Int32.toNatClampNeg y8))))), (9, .int y8), (8, .int y9), (7, .int y10), (6, .int (V 59 (8 * (24 * b + (Int32.toNatClampNeg p0)) + (Int32.toNatClampNeg p1)))), (5, .int (V 58 (8 * (24 * b + (Int32.toNatClampNeg p0)) + (Int32.toNatClampNeg p1)))), (4, .int (V 60 (8 * (24 * b + (Int32.toNatClampNeg p0)) + (Int32.toNatClampNeg p1)))), (3, .ref (ad (72 + (24 * b + (Int32.toNatClampNeg p0))))), (0, .ref (ad (38 + b))), (1, .int p0), (2, .int p1)]) hx hb dX0_candidates_82 hl (by decide) rfl (fun ls hl => ?_)
            refine lv_aload hx hb dX0_candidates_84 (lv_at hl 1 rfl) ?_
            refine va_getN (D := D) (ci := 3) (v := .int (V 50 (24 * b + (Int32.toNatClampNeg y8)))) (fs := (xfComp ad V (24 * b + (Int32.toNatClampNeg y8)))) (C := RX3) (T := TX3) (N := 13) hx hb hg inX3 hown hK hP (72 + (24 * b + (Int32.toNatClampNeg y8))) (xgComp il19) rfl 5 (by decide) (hnw.use 517 n517 rfl) (fun _ h9 => h9) rfl dX0_candidates_86 ?_
            refine lv_iload hx hb dX0_candidates_89 (lv_at hl 6 rfl) ?_
            refine lv_ishr hx hb dX0_candidates_91 ?_
            refine lv_topi (fun z96 ez96 => ?_)
            refine lv_iconst (v := 1) hx hb dX0_candidates_92 (by decide) ?_
            refine lv_iand hx hb dX0_candidates_93 ?_
            refine lv_topi (fun z97 ez97 => ?_)
            have hz97 : 0 ≤ z97.toInt ∧ z97.toInt ≤ 1 := and_m ez97 (by decide)
            refine lv_if_eq (tgt := 165) hx hb dX0_candidates_94 (by decide) (fun c98 => ?_) (fun c98 => ?_)
            · skip
              have f99 : z97.toInt = 0 := b_eq rfl (by decide) c98
              obtain ⟨z100, ez100⟩ : ∃ y : Int32, y = y8 + 1 := ⟨_, rfl⟩
              have hz100 : z100.toInt = y8.toInt + 1 := i_add ez100 rfl (by decide) (by (first | exact om_c7103e519a6e klp11_0.1 r13.2 r14 f17 | omega))
              refine lv_iinc (v := z100) (lv' := [(9, .int z100), (11, .int 1), (10, .ref (ad (72 + (24 * b + (Int32.toNatClampNeg y8))))), (8, .int y9), (7, .int y10), (6, .int (V 59 (8 * (24 * b + (Int32.toNatClampNeg p0)) + (Int32.toNatClampNeg p1)))), (5, .int (V 58 (8 * (24 * b + (Int32.toNatClampNeg p0)) + (Int32.toNatClampNeg p1)))), (4, .int (V 60 (8 * (24 * b + (Int32.toNatClampNeg p0)) + (Int32.toNatClampNeg p1)))), (3, .ref (ad (72 + (24 * b + (Int32.toNatClampNeg p0))))), (0, .ref (ad (38 + b))), (1, .int p0), (2, .int p1)]) hx hb dX0_candidates_165 hl (k := 2) rfl (by rw [ez100]; rfl) (by decide) rfl (fun ls hl => ?_)
              refine lv_goto (tgt := 40) hx hb dX0_candidates_168 (by decide) ?_
              have r101 : Int32.toInt 1 = 1 := by decide
              exact ihlp11 z100 y9 y10 H locs ls (by (first | exact om_ebd92ed44179 klp11_0.1 r13.2 r14 f17 hz100 | omega)) (by (first | exact om_c51a6401fccc klp11_1.1 klp11_1.2 | omega)) (by (first | exact om_9592d9319ffa hn hz100 | omega)) hP hD hS (lv_sub hl [0, 3, 4, 5, 6, 7, 8, 9, 10, 11] rfl)
            · skip
              have f102 : z97.toInt ≠ 0 := b_neq rfl (by decide) c98
              refine lv_iload hx hb dX0_candidates_97 (lv_at hl 0 rfl) ?_
              refine lv_if_eq (tgt := 165) hx hb dX0_candidates_99 (by decide) (fun q => absurd q (by decide)) (fun _ => ?_)
              refine lv_aload_n hx hb dX0_candidates_102 rfl (lv_at hl 9 rfl) ?_
              refine lv_iload hx hb dX0_candidates_103 (lv_at hl 2 rfl) ?_
              refine gA_int (gA_runV (As := [.int y8]) (rest := []) (ci := 0) (q0 := (38 + b)) hx hb hml hown hg hP hD hK hS hA hnw hgk (x_isThere l D ks H.size ad kk V L Z y8 (b) hMV (by (first | exact om_5ea855d61ca3 klp11_0.1 r13.2 r14 f17 | omega)) (show b < 2 from by (first | exact om_f940a4667dd6 hb2 | omega))) w1085 w1070 w1071 w167 w1072 rfl (xgBook hb2) hdV_yX0_isThere ⟨Nat.le_of_ble_eq_true rfl, Nat.le_of_ble_eq_true rfl⟩ rfl hl.1 rfl (Nat.le_of_ble_eq_true rfl) dX0_candidates_105 ⟨Nat.le_of_ble_eq_true rfl, Nat.le_of_ble_eq_true rfl⟩) hP hD hK hS hA (fun z103 u104 H locs w105 hP hD hK hS => ?_)
              have rgz103 := w105
              have rgz103 : 0 ≤ z103.toInt ∧ z103.toInt ≤ 1 := rgz103
              refine lv_if_ne (tgt := 114) hx hb dX0_candidates_108 (by decide) (fun c106 => ?_) (fun c106 => ?_)
              · skip
                have f107 : z103.toInt ≠ 0 := b_neq rfl (by decide) c106
                refine lv_iload hx hb dX0_candidates_114 (lv_at hl 7 rfl) ?_
                refine lv_iconst (v := 2) hx hb dX0_candidates_116 (by decide) ?_
                refine lv_icmp_eq (tgt := 140) hx hb dX0_candidates_117 (by decide) (fun c108 => ?_) (fun c108 => ?_)
                · skip
                  have f109 : ((V 60 (8 * (24 * b + (Int32.toNatClampNeg p0)) + (Int32.toNatClampNeg p1)))).toInt = 2 := b_eq rfl (by decide) c108
                  refine lv_iload hx hb dX0_candidates_140 (lv_at hl 7 rfl) ?_
                  refine lv_iconst (v := 2) hx hb dX0_candidates_142 (by decide) ?_
                  refine lv_icmp_eq (tgt := 156) hx hb dX0_candidates_143 (by decide) (fun c110 => ?_) (fun c110 => ?_)
                  · skip
                    have f111 : ((V 60 (8 * (24 * b + (Int32.toNatClampNeg p0)) + (Int32.toNatClampNeg p1)))).toInt = 2 := b_eq rfl (by decide) c110
                    refine lv_iload hx hb dX0_candidates_156 (lv_at hl 4 rfl) ?_
                    refine lv_iconst (v := 1) hx hb dX0_candidates_158 (by decide) ?_
                    refine lv_iload hx hb dX0_candidates_159 (lv_at hl 2 rfl) ?_
                    refine lv_ishl hx hb dX0_candidates_161 ?_
                    refine lv_topi (fun z112 ez112 => ?_)
                    have hz112 : 0 ≤ z112.toInt ∧ z112.toInt < 16777216 := shl1 ez112 (by omega)
                    refine lv_ior hx hb dX0_candidates_162 ?_
                    refine lv_topi (fun z113 ez113 => ?_)
                    have hz113 : 0 ≤ z113.toInt ∧ z113.toInt < 16777216 := or24 ez113 (by omega) (by omega)
                    refine lv_istore (lv' := [(7, .int z113), (11, .int 1), (10, .ref (ad (72 + (24 * b + (Int32.toNatClampNeg y8))))), (9, .int y8), (8, .int y9), (6, .int (V 59 (8 * (24 * b + (Int32.toNatClampNeg p0)) + (Int32.toNatClampNeg p1)))), (5, .int (V 58 (8 * (24 * b + (Int32.toNatClampNeg p0)) + (Int32.toNatClampNeg p1)))), (4, .int (V 60 (8 * (24 * b + (Int32.toNatClampNeg p0)) + (Int32.toNatClampNeg p1)))), (3, .ref (ad (72 + (24 * b + (Int32.toNatClampNeg p0))))), (0, .ref (ad (38 + b))), (1, .int p0), (2, .int p1)]) hx hb dX0_candidates_163 hl (by decide) rfl (fun ls hl => ?_)
                    obtain ⟨z114, ez114⟩ : ∃ y : Int32, y = y8 + 1 := ⟨_, rfl⟩
                    have hz114 : z114.toInt = y8.toInt + 1 := i_add ez114 rfl (by decide) (by (first | exact om_c7103e519a6e klp11_0.1 r13.2 r14 f17 | omega))
                    refine lv_iinc (v := z114) (lv' := [(9, .int z114), (7, .int z113), (11, .int 1), (10, .ref (ad (72 + (24 * b + (Int32.toNatClampNeg y8))))), (8, .int y9), (6, .int (V 59 (8 * (24 * b + (Int32.toNatClampNeg p0)) + (Int32.toNatClampNeg p1)))), (5, .int (V 58 (8 * (24 * b + (Int32.toNatClampNeg p0)) + (Int32.toNatClampNeg p1)))), (4, .int (V 60 (8 * (24 * b + (Int32.toNatClampNeg p0)) + (Int32.toNatClampNeg p1)))), (3, .ref (ad (72 + (24 * b + (Int32.toNatClampNeg p0))))), (0, .ref (ad (38 + b))), (1, .int p0), (2, .int p1)]) hx hb dX0_candidates_165 hl (k := 3) rfl (by rw [ez114]; rfl) (by decide) rfl (fun ls hl => ?_)
                    refine lv_goto (tgt := 40) hx hb dX0_candidates_168 (by decide) ?_
                    have r115 : Int32.toInt 1 = 1 := by decide
                    exact ihlp11 z114 y9 z113 H locs ls (by (first | exact om_ebd92ed44179 klp11_0.1 r13.2 r14 f17 hz114 | omega)) (by (first | exact om_8a0dcf576dcd hz113.1 hz113.2 | omega)) (by (first | exact om_9592d9319ffa hn hz114 | omega)) hP hD hS (lv_sub hl [0, 4, 1, 5, 6, 7, 8, 9, 10, 11] rfl)
                  · skip
                    have f116 : ((V 60 (8 * (24 * b + (Int32.toNatClampNeg p0)) + (Int32.toNatClampNeg p1)))).toInt ≠ 2 := b_neq rfl (by decide) c110
                    exfalso; (first | exact om_da4eef675bfb f109 f116 | omega)
                · skip
                  have f117 : ((V 60 (8 * (24 * b + (Int32.toNatClampNeg p0)) + (Int32.toNatClampNeg p1)))).toInt ≠ 2 := b_neq rfl (by decide) c108
                  refine lv_aload hx hb dX0_candidates_120 (lv_at hl 1 rfl) ?_
                  refine va_getN (D := D) (ci := 3) (v := .int (V 53 (24 * b + (Int32.toNatClampNeg y8)))) (fs := (xfComp ad V (24 * b + (Int32.toNatClampNeg y8)))) (C := RX3) (T := TX3) (N := 13) hx hb hg inX3 hown hK hP (72 + (24 * b + (Int32.toNatClampNeg y8))) (xgComp il19) rfl 8 (by decide) (hnw.use 529 n529 rfl) (fun _ h9 => h9) rfl dX0_candidates_122 ?_
                  refine lv_iload hx hb dX0_candidates_125 (lv_at hl 3 rfl) ?_
                  refine lv_icmp_le (tgt := 140) hx hb dX0_candidates_127 (by decide) (fun c118 => ?_) (fun c118 => ?_)
                  · skip
                    have f119 : ((V 53 (24 * b + (Int32.toNatClampNeg y8)))).toInt ≤ y9.toInt := b_le rfl rfl c118
                    refine lv_iload hx hb dX0_candidates_140 (lv_at hl 7 rfl) ?_
                    refine lv_iconst (v := 2) hx hb dX0_candidates_142 (by decide) ?_
                    refine lv_icmp_eq (tgt := 156) hx hb dX0_candidates_143 (by decide) (fun c120 => ?_) (fun c120 => ?_)
                    · skip
                      have f121 : ((V 60 (8 * (24 * b + (Int32.toNatClampNeg p0)) + (Int32.toNatClampNeg p1)))).toInt = 2 := b_eq rfl (by decide) c120
                      refine lv_iload hx hb dX0_candidates_156 (lv_at hl 4 rfl) ?_
                      refine lv_iconst (v := 1) hx hb dX0_candidates_158 (by decide) ?_
                      refine lv_iload hx hb dX0_candidates_159 (lv_at hl 2 rfl) ?_
                      refine lv_ishl hx hb dX0_candidates_161 ?_
                      refine lv_topi (fun z122 ez122 => ?_)
                      have hz122 : 0 ≤ z122.toInt ∧ z122.toInt < 16777216 := shl1 ez122 (by omega)
                      refine lv_ior hx hb dX0_candidates_162 ?_
                      refine lv_topi (fun z123 ez123 => ?_)
                      have hz123 : 0 ≤ z123.toInt ∧ z123.toInt < 16777216 := or24 ez123 (by omega) (by omega)
                      refine lv_istore (lv' := [(7, .int z123), (11, .int 1), (10, .ref (ad (72 + (24 * b + (Int32.toNatClampNeg y8))))), (9, .int y8), (8, .int y9), (6, .int (V 59 (8 * (24 * b + (Int32.toNatClampNeg p0)) + (Int32.toNatClampNeg p1)))), (5, .int (V 58 (8 * (24 * b + (Int32.toNatClampNeg p0)) + (Int32.toNatClampNeg p1)))), (4, .int (V 60 (8 * (24 * b + (Int32.toNatClampNeg p0)) + (Int32.toNatClampNeg p1)))), (3, .ref (ad (72 + (24 * b + (Int32.toNatClampNeg p0))))), (0, .ref (ad (38 + b))), (1, .int p0), (2, .int p1)]) hx hb dX0_candidates_163 hl (by decide) rfl (fun ls hl => ?_)
                      obtain ⟨z124, ez124⟩ : ∃ y : Int32, y = y8 + 1 := ⟨_, rfl⟩
                      have hz124 : z124.toInt = y8.toInt + 1 := i_add ez124 rfl (by decide) (by omega)
                      refine lv_iinc (v := z124) (lv' := [(9, .int z124), (7, .int z123), (11, .int 1), (10, .ref (ad (72 + (24 * b + (Int32.toNatClampNeg y8))))), (8, .int y9), (6, .int (V 59 (8 * (24 * b + (Int32.toNatClampNeg p0)) + (Int32.toNatClampNeg p1)))), (5, .int (V 58 (8 * (24 * b + (Int32.toNatClampNeg p0)) + (Int32.toNatClampNeg p1)))), (4, .int (V 60 (8 * (24 * b + (Int32.toNatClampNeg p0)) + (Int32.toNatClampNeg p1)))), (3, .ref (ad (72 + (24 * b + (Int32.toNatClampNeg p0))))), (0, .ref (ad (38 + b))), (1, .int p0), (2, .int p1)]) hx hb dX0_candidates_165 hl (k := 3) rfl (by rw [ez124]; rfl) (by decide) rfl (fun ls hl => ?_)
                      refine lv_goto (tgt := 40) hx hb dX0_candidates_168 (by decide) ?_
                      have r125 : Int32.toInt 1 = 1 := by decide
                      exact ihlp11 z124 y9 z123 H locs ls (by omega) (by omega) (by omega) hP hD hS (lv_sub hl [0, 4, 1, 5, 6, 7, 8, 9, 10, 11] rfl)
                    · skip
                      have f126 : ((V 60 (8 * (24 * b + (Int32.toNatClampNeg p0)) + (Int32.toNatClampNeg p1)))).toInt ≠ 2 := b_neq rfl (by decide) c120
                      refine lv_aload hx hb dX0_candidates_146 (lv_at hl 1 rfl) ?_
                      refine va_getN (D := D) (ci := 3) (v := .int (V 53 (24 * b + (Int32.toNatClampNeg y8)))) (fs := (xfComp ad V (24 * b + (Int32.toNatClampNeg y8)))) (C := RX3) (T := TX3) (N := 13) hx hb hg inX3 hown hK hP (72 + (24 * b + (Int32.toNatClampNeg y8))) (xgComp il19) rfl 8 (by decide) (hnw.use 529 n529 rfl) (fun _ h9 => h9) rfl dX0_candidates_148 ?_
                      refine lv_iload hx hb dX0_candidates_151 (lv_at hl 3 rfl) ?_
                      refine lv_icmp_ne (tgt := 165) hx hb dX0_candidates_153 (by decide) (fun c127 => ?_) (fun c127 => ?_)
                      · skip
                        have f128 : ((V 53 (24 * b + (Int32.toNatClampNeg y8)))).toInt ≠ y9.toInt := b_neq rfl rfl c127
                        obtain ⟨z129, ez129⟩ : ∃ y : Int32, y = y8 + 1 := ⟨_, rfl⟩
                        have hz129 : z129.toInt = y8.toInt + 1 := i_add ez129 rfl (by decide) (by (first | exact om_c7103e519a6e klp11_0.1 r13.2 r14 f17 | omega))
                        refine lv_iinc (v := z129) (lv' := [(9, .int z129), (11, .int 1), (10, .ref (ad (72 + (24 * b + (Int32.toNatClampNeg y8))))), (8, .int y9), (7, .int y10), (6, .int (V 59 (8 * (24 * b + (Int32.toNatClampNeg p0)) + (Int32.toNatClampNeg p1)))), (5, .int (V 58 (8 * (24 * b + (Int32.toNatClampNeg p0)) + (Int32.toNatClampNeg p1)))), (4, .int (V 60 (8 * (24 * b + (Int32.toNatClampNeg p0)) + (Int32.toNatClampNeg p1)))), (3, .ref (ad (72 + (24 * b + (Int32.toNatClampNeg p0))))), (0, .ref (ad (38 + b))), (1, .int p0), (2, .int p1)]) hx hb dX0_candidates_165 hl (k := 2) rfl (by rw [ez129]; rfl) (by decide) rfl (fun ls hl => ?_)
                        refine lv_goto (tgt := 40) hx hb dX0_candidates_168 (by decide) ?_
                        have r130 : Int32.toInt 1 = 1 := by decide
                        exact ihlp11 z129 y9 y10 H locs ls (by (first | exact om_ebd92ed44179 klp11_0.1 r13.2 r14 f17 hz129 | omega)) (by (first | exact om_c51a6401fccc klp11_1.1 klp11_1.2 | omega)) (by (first | exact om_9592d9319ffa hn hz129 | omega)) hP hD hS (lv_sub hl [0, 3, 4, 5, 6, 7, 8, 9, 10, 11] rfl)
                      · skip
                        have f131 : ((V 53 (24 * b + (Int32.toNatClampNeg y8)))).toInt = y9.toInt := b_eq rfl rfl c127
                        refine lv_iload hx hb dX0_candidates_156 (lv_at hl 4 rfl) ?_
                        refine lv_iconst (v := 1) hx hb dX0_candidates_158 (by decide) ?_
                        refine lv_iload hx hb dX0_candidates_159 (lv_at hl 2 rfl) ?_
                        refine lv_ishl hx hb dX0_candidates_161 ?_
                        refine lv_topi (fun z132 ez132 => ?_)
                        have hz132 : 0 ≤ z132.toInt ∧ z132.toInt < 16777216 := shl1 ez132 (by omega)
                        refine lv_ior hx hb dX0_candidates_162 ?_
                        refine lv_topi (fun z133 ez133 => ?_)
                        have hz133 : 0 ≤ z133.toInt ∧ z133.toInt < 16777216 := or24 ez133 (by omega) (by omega)
                        refine lv_istore (lv' := [(7, .int z133), (11, .int 1), (10, .ref (ad (72 + (24 * b + (Int32.toNatClampNeg y8))))), (9, .int y8), (8, .int y9), (6, .int (V 59 (8 * (24 * b + (Int32.toNatClampNeg p0)) + (Int32.toNatClampNeg p1)))), (5, .int (V 58 (8 * (24 * b + (Int32.toNatClampNeg p0)) + (Int32.toNatClampNeg p1)))), (4, .int (V 60 (8 * (24 * b + (Int32.toNatClampNeg p0)) + (Int32.toNatClampNeg p1)))), (3, .ref (ad (72 + (24 * b + (Int32.toNatClampNeg p0))))), (0, .ref (ad (38 + b))), (1, .int p0), (2, .int p1)]) hx hb dX0_candidates_163 hl (by decide) rfl (fun ls hl => ?_)
                        obtain ⟨z134, ez134⟩ : ∃ y : Int32, y = y8 + 1 := ⟨_, rfl⟩
                        have hz134 : z134.toInt = y8.toInt + 1 := i_add ez134 rfl (by decide) (by (first | exact om_c7103e519a6e klp11_0.1 r13.2 r14 f17 | omega))
                        refine lv_iinc (v := z134) (lv' := [(9, .int z134), (7, .int z133), (11, .int 1), (10, .ref (ad (72 + (24 * b + (Int32.toNatClampNeg y8))))), (8, .int y9), (6, .int (V 59 (8 * (24 * b + (Int32.toNatClampNeg p0)) + (Int32.toNatClampNeg p1)))), (5, .int (V 58 (8 * (24 * b + (Int32.toNatClampNeg p0)) + (Int32.toNatClampNeg p1)))), (4, .int (V 60 (8 * (24 * b + (Int32.toNatClampNeg p0)) + (Int32.toNatClampNeg p1)))), (3, .ref (ad (72 + (24 * b + (Int32.toNatClampNeg p0))))), (0, .ref (ad (38 + b))), (1, .int p0), (2, .int p1)]) hx hb dX0_candidates_165 hl (k := 3) rfl (by rw [ez134]; rfl) (by decide) rfl (fun ls hl => ?_)
                        refine lv_goto (tgt := 40) hx hb dX0_candidates_168 (by decide) ?_
                        have r135 : Int32.toInt 1 = 1 := by decide
                        exact ihlp11 z134 y9 z133 H locs ls (by (first | exact om_ebd92ed44179 klp11_0.1 r13.2 r14 f17 hz134 | omega)) (by (first | exact om_8a0dcf576dcd hz133.1 hz133.2 | omega)) (by (first | exact om_9592d9319ffa hn hz134 | omega)) hP hD hS (lv_sub hl [0, 4, 1, 5, 6, 7, 8, 9, 10, 11] rfl)
                  · skip
                    have f136 : y9.toInt < ((V 53 (24 * b + (Int32.toNatClampNeg y8)))).toInt := b_nle rfl rfl c118
                    refine lv_aload hx hb dX0_candidates_130 (lv_at hl 1 rfl) ?_
                    refine va_getN (D := D) (ci := 3) (v := .int (V 53 (24 * b + (Int32.toNatClampNeg y8)))) (fs := (xfComp ad V (24 * b + (Int32.toNatClampNeg y8)))) (C := RX3) (T := TX3) (N := 13) hx hb hg inX3 hown hK hP (72 + (24 * b + (Int32.toNatClampNeg y8))) (xgComp il19) rfl 8 (by decide) (hnw.use 529 n529 rfl) (fun _ h9 => h9) rfl dX0_candidates_132 ?_
                    refine lv_istore (lv' := [(8, .int (V 53 (24 * b + (Int32.toNatClampNeg y8)))), (11, .int 1), (10, .ref (ad (72 + (24 * b + (Int32.toNatClampNeg y8))))), (9, .int y8), (7, .int y10), (6, .int (V 59 (8 * (24 * b + (Int32.toNatClampNeg p0)) + (Int32.toNatClampNeg p1)))), (5, .int (V 58 (8 * (24 * b + (Int32.toNatClampNeg p0)) + (Int32.toNatClampNeg p1)))), (4, .int (V 60 (8 * (24 * b + (Int32.toNatClampNeg p0)) + (Int32.toNatClampNeg p1)))), (3, .ref (ad (72 + (24 * b + (Int32.toNatClampNeg p0))))), (0, .ref (ad (38 + b))), (1, .int p0), (2, .int p1)]) hx hb dX0_candidates_135 hl (by decide) rfl (fun ls hl => ?_)
                    refine lv_iconst (v := 0) hx hb dX0_candidates_137 (by decide) ?_
                    refine lv_istore (lv' := [(7, .int 0), (8, .int (V 53 (24 * b + (Int32.toNatClampNeg y8)))), (11, .int 1), (10, .ref (ad (72 + (24 * b + (Int32.toNatClampNeg y8))))), (9, .int y8), (6, .int (V 59 (8 * (24 * b + (Int32.toNatClampNeg p0)) + (Int32.toNatClampNeg p1)))), (5, .int (V 58 (8 * (24 * b + (Int32.toNatClampNeg p0)) + (Int32.toNatClampNeg p1)))), (4, .int (V 60 (8 * (24 * b + (Int32.toNatClampNeg p0)) + (Int32.toNatClampNeg p1)))), (3, .ref (ad (72 + (24 * b + (Int32.toNatClampNeg p0))))), (0, .ref (ad (38 + b))), (1, .int p0), (2, .int p1)]) hx hb dX0_candidates_138 hl (by decide) rfl (fun ls hl => ?_)
                    refine lv_iload hx hb dX0_candidates_140 (lv_at hl 7 rfl) ?_
                    refine lv_iconst (v := 2) hx hb dX0_candidates_142 (by decide) ?_
                    refine lv_icmp_eq (tgt := 156) hx hb dX0_candidates_143 (by decide) (fun c137 => ?_) (fun c137 => ?_)
                    · skip
                      have f138 : ((V 60 (8 * (24 * b + (Int32.toNatClampNeg p0)) + (Int32.toNatClampNeg p1)))).toInt = 2 := b_eq rfl (by decide) c137
                      refine lv_iload hx hb dX0_candidates_156 (lv_at hl 0 rfl) ?_
                      refine lv_iconst (v := 1) hx hb dX0_candidates_158 (by decide) ?_
                      refine lv_iload hx hb dX0_candidates_159 (lv_at hl 4 rfl) ?_
                      refine lv_ishl hx hb dX0_candidates_161 ?_
                      refine lv_topi (fun z139 ez139 => ?_)
                      have hz139 : 0 ≤ z139.toInt ∧ z139.toInt < 16777216 := shl1 ez139 (by omega)
                      refine lv_ior hx hb dX0_candidates_162 ?_
                      refine lv_topi (fun z140 ez140 => ?_)
                      have hz140 : 0 ≤ z140.toInt ∧ z140.toInt < 16777216 := or24 ez140 (by decide) (by omega)
                      refine lv_istore (lv' := [(7, .int z140), (8, .int (V 53 (24 * b + (Int32.toNatClampNeg y8)))), (11, .int 1), (10, .ref (ad (72 + (24 * b + (Int32.toNatClampNeg y8))))), (9, .int y8), (6, .int (V 59 (8 * (24 * b + (Int32.toNatClampNeg p0)) + (Int32.toNatClampNeg p1)))), (5, .int (V 58 (8 * (24 * b + (Int32.toNatClampNeg p0)) + (Int32.toNatClampNeg p1)))), (4, .int (V 60 (8 * (24 * b + (Int32.toNatClampNeg p0)) + (Int32.toNatClampNeg p1)))), (3, .ref (ad (72 + (24 * b + (Int32.toNatClampNeg p0))))), (0, .ref (ad (38 + b))), (1, .int p0), (2, .int p1)]) hx hb dX0_candidates_163 hl (by decide) rfl (fun ls hl => ?_)
                      obtain ⟨z141, ez141⟩ : ∃ y : Int32, y = y8 + 1 := ⟨_, rfl⟩
                      have hz141 : z141.toInt = y8.toInt + 1 := i_add ez141 rfl (by decide) (by omega)
                      refine lv_iinc (v := z141) (lv' := [(9, .int z141), (7, .int z140), (8, .int (V 53 (24 * b + (Int32.toNatClampNeg y8)))), (11, .int 1), (10, .ref (ad (72 + (24 * b + (Int32.toNatClampNeg y8))))), (6, .int (V 59 (8 * (24 * b + (Int32.toNatClampNeg p0)) + (Int32.toNatClampNeg p1)))), (5, .int (V 58 (8 * (24 * b + (Int32.toNatClampNeg p0)) + (Int32.toNatClampNeg p1)))), (4, .int (V 60 (8 * (24 * b + (Int32.toNatClampNeg p0)) + (Int32.toNatClampNeg p1)))), (3, .ref (ad (72 + (24 * b + (Int32.toNatClampNeg p0))))), (0, .ref (ad (38 + b))), (1, .int p0), (2, .int p1)]) hx hb dX0_candidates_165 hl (k := 4) rfl (by rw [ez141]; rfl) (by decide) rfl (fun ls hl => ?_)
                      refine lv_goto (tgt := 40) hx hb dX0_candidates_168 (by decide) ?_
                      have r142 : Int32.toInt 1 = 1 := by decide
                      exact ihlp11 z141 (V 53 (24 * b + (Int32.toNatClampNeg y8))) z140 H locs ls (by omega) (by omega) (by omega) hP hD hS (lv_sub hl [0, 2, 1, 5, 6, 7, 8, 9, 10, 11] rfl)
                    · skip
                      have f143 : ((V 60 (8 * (24 * b + (Int32.toNatClampNeg p0)) + (Int32.toNatClampNeg p1)))).toInt ≠ 2 := b_neq rfl (by decide) c137
                      refine lv_aload hx hb dX0_candidates_146 (lv_at hl 3 rfl) ?_
                      refine va_getN (D := D) (ci := 3) (v := .int (V 53 (24 * b + (Int32.toNatClampNeg y8)))) (fs := (xfComp ad V (24 * b + (Int32.toNatClampNeg y8)))) (C := RX3) (T := TX3) (N := 13) hx hb hg inX3 hown hK hP (72 + (24 * b + (Int32.toNatClampNeg y8))) (xgComp il19) rfl 8 (by decide) (hnw.use 529 n529 rfl) (fun _ h9 => h9) rfl dX0_candidates_148 ?_
                      refine lv_iload hx hb dX0_candidates_151 (lv_at hl 1 rfl) ?_
                      refine lv_icmp_ne (tgt := 165) hx hb dX0_candidates_153 (by decide) (fun c144 => ?_) (fun c144 => ?_)
                      · skip
                        have f145 : ((V 53 (24 * b + (Int32.toNatClampNeg y8)))).toInt ≠ ((V 53 (24 * b + (Int32.toNatClampNeg y8)))).toInt := b_neq rfl rfl c144
                        obtain ⟨z146, ez146⟩ : ∃ y : Int32, y = y8 + 1 := ⟨_, rfl⟩
                        have hz146 : z146.toInt = y8.toInt + 1 := i_add ez146 rfl (by decide) (by (first | exact om_c7103e519a6e klp11_0.1 r13.2 r14 f17 | omega))
                        refine lv_iinc (v := z146) (lv' := [(9, .int z146), (7, .int 0), (8, .int (V 53 (24 * b + (Int32.toNatClampNeg y8)))), (11, .int 1), (10, .ref (ad (72 + (24 * b + (Int32.toNatClampNeg y8))))), (6, .int (V 59 (8 * (24 * b + (Int32.toNatClampNeg p0)) + (Int32.toNatClampNeg p1)))), (5, .int (V 58 (8 * (24 * b + (Int32.toNatClampNeg p0)) + (Int32.toNatClampNeg p1)))), (4, .int (V 60 (8 * (24 * b + (Int32.toNatClampNeg p0)) + (Int32.toNatClampNeg p1)))), (3, .ref (ad (72 + (24 * b + (Int32.toNatClampNeg p0))))), (0, .ref (ad (38 + b))), (1, .int p0), (2, .int p1)]) hx hb dX0_candidates_165 hl (k := 4) rfl (by rw [ez146]; rfl) (by decide) rfl (fun ls hl => ?_)
                        refine lv_goto (tgt := 40) hx hb dX0_candidates_168 (by decide) ?_
                        have r147 : Int32.toInt 0 = 0 := by decide
                        have r148 : Int32.toInt 1 = 1 := by decide
                        exact ihlp11 z146 (V 53 (24 * b + (Int32.toNatClampNeg y8))) 0 H locs ls (by (first | exact om_ebd92ed44179 klp11_0.1 r13.2 r14 f17 hz146 | omega)) (by decide) (by (first | exact om_9592d9319ffa hn hz146 | omega)) hP hD hS (lv_sub hl [0, 2, 1, 5, 6, 7, 8, 9, 10, 11] rfl)
                      · skip
                        have f149 : ((V 53 (24 * b + (Int32.toNatClampNeg y8)))).toInt = ((V 53 (24 * b + (Int32.toNatClampNeg y8)))).toInt := b_eq rfl rfl c144
                        refine lv_iload hx hb dX0_candidates_156 (lv_at hl 0 rfl) ?_
                        refine lv_iconst (v := 1) hx hb dX0_candidates_158 (by decide) ?_
                        refine lv_iload hx hb dX0_candidates_159 (lv_at hl 4 rfl) ?_
                        refine lv_ishl hx hb dX0_candidates_161 ?_
                        refine lv_topi (fun z150 ez150 => ?_)
                        have hz150 : 0 ≤ z150.toInt ∧ z150.toInt < 16777216 := shl1 ez150 (by omega)
                        refine lv_ior hx hb dX0_candidates_162 ?_
                        refine lv_topi (fun z151 ez151 => ?_)
                        have hz151 : 0 ≤ z151.toInt ∧ z151.toInt < 16777216 := or24 ez151 (by decide) (by omega)
                        refine lv_istore (lv' := [(7, .int z151), (8, .int (V 53 (24 * b + (Int32.toNatClampNeg y8)))), (11, .int 1), (10, .ref (ad (72 + (24 * b + (Int32.toNatClampNeg y8))))), (9, .int y8), (6, .int (V 59 (8 * (24 * b + (Int32.toNatClampNeg p0)) + (Int32.toNatClampNeg p1)))), (5, .int (V 58 (8 * (24 * b + (Int32.toNatClampNeg p0)) + (Int32.toNatClampNeg p1)))), (4, .int (V 60 (8 * (24 * b + (Int32.toNatClampNeg p0)) + (Int32.toNatClampNeg p1)))), (3, .ref (ad (72 + (24 * b + (Int32.toNatClampNeg p0))))), (0, .ref (ad (38 + b))), (1, .int p0), (2, .int p1)]) hx hb dX0_candidates_163 hl (by decide) rfl (fun ls hl => ?_)
                        obtain ⟨z152, ez152⟩ : ∃ y : Int32, y = y8 + 1 := ⟨_, rfl⟩
                        have hz152 : z152.toInt = y8.toInt + 1 := i_add ez152 rfl (by decide) (by (first | exact om_c7103e519a6e klp11_0.1 r13.2 r14 f17 | omega))
                        refine lv_iinc (v := z152) (lv' := [(9, .int z152), (7, .int z151), (8, .int (V 53 (24 * b + (Int32.toNatClampNeg y8)))), (11, .int 1), (10, .ref (ad (72 + (24 * b + (Int32.toNatClampNeg y8))))), (6, .int (V 59 (8 * (24 * b + (Int32.toNatClampNeg p0)) + (Int32.toNatClampNeg p1)))), (5, .int (V 58 (8 * (24 * b + (Int32.toNatClampNeg p0)) + (Int32.toNatClampNeg p1)))), (4, .int (V 60 (8 * (24 * b + (Int32.toNatClampNeg p0)) + (Int32.toNatClampNeg p1)))), (3, .ref (ad (72 + (24 * b + (Int32.toNatClampNeg p0))))), (0, .ref (ad (38 + b))), (1, .int p0), (2, .int p1)]) hx hb dX0_candidates_165 hl (k := 4) rfl (by rw [ez152]; rfl) (by decide) rfl (fun ls hl => ?_)
                        refine lv_goto (tgt := 40) hx hb dX0_candidates_168 (by decide) ?_
                        have r153 : Int32.toInt 1 = 1 := by decide
                        exact ihlp11 z152 (V 53 (24 * b + (Int32.toNatClampNeg y8))) z151 H locs ls (by (first | exact om_ebd92ed44179 klp11_0.1 r13.2 r14 f17 hz152 | omega)) (by (first | exact om_8a0dcf576dcd hz151.1 hz151.2 | omega)) (by (first | exact om_9592d9319ffa hn hz152 | omega)) hP hD hS (lv_sub hl [0, 2, 1, 5, 6, 7, 8, 9, 10, 11] rfl)
              · skip
                have f154 : z103.toInt = 0 := b_eq rfl (by decide) c106
                refine lv_goto (tgt := 165) hx hb dX0_candidates_111 (by decide) ?_
                obtain ⟨z155, ez155⟩ : ∃ y : Int32, y = y8 + 1 := ⟨_, rfl⟩
                have hz155 : z155.toInt = y8.toInt + 1 := i_add ez155 rfl (by decide) (by (first | exact om_c7103e519a6e klp11_0.1 r13.2 r14 f17 | omega))
                refine lv_iinc (v := z155) (lv' := [(9, .int z155), (11, .int 1), (10, .ref (ad (72 + (24 * b + (Int32.toNatClampNeg y8))))), (8, .int y9), (7, .int y10), (6, .int (V 59 (8 * (24 * b + (Int32.toNatClampNeg p0)) + (Int32.toNatClampNeg p1)))), (5, .int (V 58 (8 * (24 * b + (Int32.toNatClampNeg p0)) + (Int32.toNatClampNeg p1)))), (4, .int (V 60 (8 * (24 * b + (Int32.toNatClampNeg p0)) + (Int32.toNatClampNeg p1)))), (3, .ref (ad (72 + (24 * b + (Int32.toNatClampNeg p0))))), (0, .ref (ad (38 + b))), (1, .int p0), (2, .int p1)]) hx hb dX0_candidates_165 hl (k := 2) rfl (by rw [ez155]; rfl) (by decide) rfl (fun ls hl => ?_)
                refine lv_goto (tgt := 40) hx hb dX0_candidates_168 (by decide) ?_
                have r156 : Int32.toInt 1 = 1 := by decide
                exact ihlp11 z155 y9 y10 H locs ls (by (first | exact om_ebd92ed44179 klp11_0.1 r13.2 r14 f17 hz155 | omega)) (by (first | exact om_c51a6401fccc klp11_1.1 klp11_1.2 | omega)) (by (first | exact om_9592d9319ffa hn hz155 | omega)) hP hD hS (lv_sub hl [0, 3, 4, 5, 6, 7, 8, 9, 10, 11] rfl)
  have r157 : Int32.toInt 0 = 0 := by decide
  exact lp11 ((24 - (Int32.toInt 0) + 1 : Int).toNat) 0 0 0 H locs ls (by decide) (by decide) (by (first | exact om_817980d3aa47 | omega)) hP hD hS (lv_sub hl [0, 1, 2, 3, 4, 5, 6, 7, 8, 9] rfl)
abbrev r_x_firstCandidate2 : Room := { frames := 2, cells := 0, slots := 0, locals := 53 }
abbrev q_x_firstCandidate2 (D : va_G) (ks : KS) (ad : Nat → Nat) (kk : Nat → ClassId) (V : Vf) (L : Lf) (Z : XZ) (p0 : Int32) (p1 : Int32) (b : Nat) (A : Nat → Prop) : Array Value → State → Outcome → State → Prop := va_Qi (fun (r : Int32) (_ : Unit) => ((-1) ≤ r.toInt ∧ r.toInt ≤ 23)) (fun _ t => gq D A (xw ad kk V L Z) (xty kk Z) t) A
set_option maxHeartbeats 4000000 in
set_option maxRecDepth 100000 in
theorem x_firstCandidate2 (l : Launch) (D : va_G) (ks : KS) (sz : Nat) (ad : Nat → Nat) (kk : Nat → ClassId) (V : Vf) (L : Lf) (Z : XZ) (p0 : Int32) (p1 : Int32) (b : Nat) (hMV : rgd bX V) (rg_p0 : 0 ≤ p0.toInt ∧ p0.toInt ≤ 23) (rg_p1 : 0 ≤ p1.toInt ∧ p1.toInt ≤ 7) (hb2 : b < 2)  : Met l yX0_firstCandidate (Cond.code yX0_firstCandidate cX0_firstCandidate 4 (some .int) :: GW) r_x_firstCandidate2 (va_Pc [.ref (ad (38 + b)), .int p0, .int p1] (gp D ks (xw ad kk V L Z) (xty kk Z) sz)) (q_x_firstCandidate2 D ks ad kk V L Z p0 p1 b (va_A (xw ad kk V L Z) sz)) 0 0 (va_A (xw ad kk V L Z) sz) := by
  refine g_met (q_x_firstCandidate2 D ks ad kk V L Z p0 p1 b) (by decide) (Nat.le_of_ble_eq_true rfl) ?_
  intro p e s m below meth c A ls H locs hx hb hr hml hown hg hlocks hin hnw hgk hP hK hD hS hA hl
  have hown : s.vm.findClass RX0 = some m.cls := hown
  have hl : lv_has ls 4 [(0, .ref (ad (38 + b))), (1, .int p0), (2, .int p1)] := hl
  have hP : va_P D vwCl (xw ad kk V L Z) H := hP
  have hD : va_D A (xw ad kk V L Z) := hD
  have hK : va_K D vwCl (xty kk Z) s := hK
  refine lv_aload_n hx hb dX0_firstCandidate_0 rfl (lv_at hl 0 rfl) ?_
  refine lv_iload_n hx hb dX0_firstCandidate_1 rfl (lv_at hl 1 rfl) ?_
  refine lv_iload_n hx hb dX0_firstCandidate_2 rfl (lv_at hl 2 rfl) ?_
  refine gA_int (gA_runV (As := [.int p0, .int p1]) (rest := []) (ci := 0) (q0 := (38 + b)) hx hb hml hown hg hP hD hK hS hA hnw hgk (x_candidates2 l D ks H.size ad kk V L Z p0 p1 (b) hMV (by (first | exact om_d3435e1acec6 rg_p0.1 rg_p0.2 | omega)) (by (first | exact om_8da659b97699 rg_p1.1 rg_p1.2 | omega)) (show b < 2 from by (first | exact om_f940a4667dd6 hb2 | omega))) w1451 w1082 w1083 w167 w1084 rfl (xgBook hb2) hdV_yX0_candidates ⟨Nat.le_of_ble_eq_true rfl, Nat.le_of_ble_eq_true rfl⟩ rfl hl.1 rfl (Nat.le_of_ble_eq_true rfl) dX0_firstCandidate_3 ⟨Nat.le_of_ble_eq_true rfl, Nat.le_of_ble_eq_true rfl⟩) hP hD hK hS hA (fun z1 u2 H locs w3 hP hD hK hS => ?_)
  have rgz1 := w3
  have rgz1 : 0 ≤ z1.toInt ∧ z1.toInt ≤ 16777215 := rgz1
  refine lv_istore_n (lv' := [(3, .int z1), (0, .ref (ad (38 + b))), (1, .int p0), (2, .int p1)]) hx hb dX0_firstCandidate_6 rfl hl (by decide) rfl (fun ls hl => ?_)
  refine lv_iload_n hx hb dX0_firstCandidate_7 rfl (lv_at hl 0 rfl) ?_
  refine lv_if_ne (tgt := 15) hx hb dX0_firstCandidate_8 (by decide) (fun c4 => ?_) (fun c4 => ?_)
  · skip
    have f5 : z1.toInt ≠ 0 := b_neq rfl (by decide) c4
    refine lv_iload_n hx hb dX0_firstCandidate_15 rfl (lv_at hl 0 rfl) ?_
    refine gE_int (g_runS (As := [.int z1]) (rest := []) (wc := []) (tc := []) hx hb hml hown hg gw_self hP hD hK hS hA hnw hgk [] [] (by decide) rfl rfl (x_nTZ2 l D ks H.size z1 ) w1452 w1143 w175 w1144 hdS_yJ6_numberOfTrailingZeros_0f7a4 ⟨Nat.le_of_ble_eq_true rfl, Nat.le_of_ble_eq_true rfl⟩ rfl hl.1 rfl (Nat.le_of_ble_eq_true rfl) dX0_firstCandidate_16 ⟨Nat.le_of_ble_eq_true rfl, Nat.le_of_ble_eq_true rfl⟩) hP hD hK hS hA (fun z6 u7 H locs w8 hP hD hK hS => ?_)
    obtain ⟨rgz6, t9⟩ := w8
    have rgz6 : 0 ≤ z6.toInt ∧ z6.toInt ≤ 32 := rgz6
    have t9 : ∀ m : Nat, 0 < z1.toInt → z1.toInt < ((2 ^ m : Nat) : Int) → z6.toInt < (m : Int) := t9
    have q24 : ((2 ^ 24 : Nat) : Int) = 16777216 := by decide
    have hn24 := t9 24 (by omega) (by omega)
    exact W.iret (v := z6) hx hb hr (fun t ht hW => ⟨⟨z6, (), rfl, (show (-1) ≤ z6.toInt ∧ z6.toInt ≤ 23 from by omega), by rw [ht]; exact hP, va_K.moved hW.alike hK, hD⟩, hS.F ht⟩) hS.2.2 dX0_firstCandidate_19
  · skip
    have f10 : z1.toInt = 0 := b_eq rfl (by decide) c4
    refine lv_iconst (v := (-1)) hx hb dX0_firstCandidate_11 (by decide) ?_
    refine lv_goto (tgt := 19) hx hb dX0_firstCandidate_12 (by decide) ?_
    exact W.iret (v := (-1)) hx hb hr (fun t ht hW => ⟨⟨(-1), (), rfl, (by decide), by rw [ht]; exact hP, va_K.moved hW.alike hK, hD⟩, hS.F ht⟩) hS.2.2 dX0_firstCandidate_19
end
section
/-! the links grow -/
def lnz (V : Vf) (n : Nat) : Vf := fun c => if c = 31 then va_cpy (V 31) (fun _ => 0) 0 0 n else if c = 32 then va_cpy (V 32) (fun _ => 0) 0 0 n else V c
def XZ.grow (Z : XZ) (q1 q2 : Nat) (c1 c2 : ClassId) : XZ := (Z.fa, Z.nf, q1, q2, c1, c2, 2 * Z.ln)
theorem lnz_o {V : Vf} {n c : Nat} (h : c ≠ 31 ∧ c ≠ 32) : lnz V n c = V c := by
  unfold lnz
  rw [if_neg h.1, if_neg h.2]
theorem cpy_in {f : Nat → Int32} {n k : Nat} : va_cpy f (fun _ => 0) 0 0 n k = if k < n then f k else 0 := by
  unfold va_cpy
  by_cases h : k < n
  · rw [if_pos ⟨Nat.zero_le _, by omega⟩, if_pos h]
    congr 1
    omega
  · rw [if_neg (by omega), if_neg h]
theorem lnz_32 {V : Vf} {n k : Nat} : lnz V n 32 k = if k < n then V 32 k else 0 := cpy_in
theorem lnz_31 {V : Vf} {n k : Nat} : lnz V n 31 k = if k < n then V 31 k else 0 := cpy_in
theorem rgd_lnz {V : Vf} {n : Nat} (h : rgd bX V) : rgd bX (lnz V n) := by
  intro c k
  by_cases h1 : c = 31
  · subst h1
    exact i_full _
  · by_cases h2 : c = 32
    · subst h2
      rw [lnz_32]
      by_cases h3 : k < n
      · rw [if_pos h3]; exact h 32 k
      · rw [if_neg h3]
        exact ⟨(show ((-1) : Int) ≤ Int32.toInt 0 from by decide), (show Int32.toInt 0 ≤ (262143 : Int) from by decide)⟩
    · rw [lnz_o ⟨h1, h2⟩]; exact h c k
theorem lnz_ag {V : Vf} {n : Nat} : agr [] [31, 32] V (lnz V n) := by
  intro c k h
  have h1 : c ≠ 31 := fun e => by subst e; exact Bool.noConfusion (show true = false from h)
  have h2 : c ≠ 32 := fun e => by subst e; exact Bool.noConfusion (show true = false from h)
  rw [lnz_o ⟨h1, h2⟩]
theorem xb_lnz {ad : Nat → Nat} {kk : Nat → ClassId} {V : Vf} {L : Lf} {Z : XZ} {q1 q2 : Nat} {c1 c2 : ClassId} {j m : Nat} : xb ad kk (lnz V m) L (Z.grow q1 q2 c1 c2) j = xb ad kk V L Z j := by
  unfold xb
  by_cases h0 : j < 2
  · rw [if_pos h0, if_pos h0]
    show xeBook ad kk (lnz V m) L (Z.grow q1 q2 c1 c2) _ = xeBook ad kk V L Z _
    unfold xeBook xfBook
    rw [lnz_o (V := V) (n := m) (c := 41) (by decide), lnz_o (V := V) (n := m) (c := 42) (by decide)]
  rw [if_neg h0, if_neg h0]
  by_cases h2 : j < 12
  · rw [if_pos h2, if_pos h2]
    show xeNames ad kk (lnz V m) L (Z.grow q1 q2 c1 c2) _ = xeNames ad kk V L Z _
    unfold xeNames xfNames
    rw [lnz_o (V := V) (n := m) (c := 43) (by decide)]
  rw [if_neg h2, if_neg h2]
  by_cases h12 : j < 22
  · rw [if_pos h12, if_pos h12]
    rfl
  rw [if_neg h12, if_neg h12]
  by_cases h22 : j < 24
  · rw [if_pos h22, if_pos h22]
    show xetypeUnder ad kk (lnz V m) L (Z.grow q1 q2 c1 c2) _ = xetypeUnder ad kk V L Z _
    unfold xetypeUnder
    rw [lnz_o (V := V) (n := m) (c := 45) (by decide)]
  rw [if_neg h22, if_neg h22]
  by_cases h24 : j < 26
  · rw [if_pos h24, if_pos h24]
    show xesettingValues ad kk (lnz V m) L (Z.grow q1 q2 c1 c2) _ = xesettingValues ad kk V L Z _
    unfold xesettingValues
    rw [lnz_o (V := V) (n := m) (c := 46) (by decide)]
  rw [if_neg h24, if_neg h24]
  by_cases h26 : j < 28
  · rw [if_pos h26, if_pos h26]
    rfl
  rw [if_neg h26, if_neg h26]
  by_cases h28 : j < 30
  · rw [if_pos h28, if_pos h28]
    rfl
  rw [if_neg h28, if_neg h28]
  by_cases h30 : j < 32
  · rw [if_pos h30, if_pos h30]
    show xewrapOrder ad kk (lnz V m) L (Z.grow q1 q2 c1 c2) _ = xewrapOrder ad kk V L Z _
    unfold xewrapOrder
    rw [lnz_o (V := V) (n := m) (c := 47) (by decide)]
  rw [if_neg h30, if_neg h30]
  by_cases h32 : j < 34
  · rw [if_pos h32, if_pos h32]
    show xecode ad kk (lnz V m) L (Z.grow q1 q2 c1 c2) _ = xecode ad kk V L Z _
    unfold xecode
    rw [lnz_o (V := V) (n := m) (c := 48) (by decide)]
  rw [if_neg h32, if_neg h32]
  by_cases h34 : j < 82
  · rw [if_pos h34, if_pos h34]
    show xeComp ad kk (lnz V m) L (Z.grow q1 q2 c1 c2) _ = xeComp ad kk V L Z _
    unfold xeComp xfComp
    rw [lnz_o (V := V) (n := m) (c := 49) (by decide), lnz_o (V := V) (n := m) (c := 50) (by decide), lnz_o (V := V) (n := m) (c := 51) (by decide), lnz_o (V := V) (n := m) (c := 52) (by decide), lnz_o (V := V) (n := m) (c := 53) (by decide), lnz_o (V := V) (n := m) (c := 54) (by decide), lnz_o (V := V) (n := m) (c := 55) (by decide), lnz_o (V := V) (n := m) (c := 56) (by decide), lnz_o (V := V) (n := m) (c := 57) (by decide)]
  rw [if_neg h34, if_neg h34]
  by_cases h82 : j < 130
  · rw [if_pos h82, if_pos h82]
    show xeneedTypes ad kk (lnz V m) L (Z.grow q1 q2 c1 c2) _ = xeneedTypes ad kk V L Z _
    unfold xeneedTypes
    rw [lnz_o (V := V) (n := m) (c := 58) (by decide)]
  rw [if_neg h82, if_neg h82]
  by_cases h130 : j < 178
  · rw [if_pos h130, if_pos h130]
    show xeneedWords ad kk (lnz V m) L (Z.grow q1 q2 c1 c2) _ = xeneedWords ad kk V L Z _
    unfold xeneedWords
    rw [lnz_o (V := V) (n := m) (c := 59) (by decide)]
  rw [if_neg h130, if_neg h130]
  by_cases h178 : j < 226
  · rw [if_pos h178, if_pos h178]
    show xeneedKinds ad kk (lnz V m) L (Z.grow q1 q2 c1 c2) _ = xeneedKinds ad kk V L Z _
    unfold xeneedKinds
    rw [lnz_o (V := V) (n := m) (c := 60) (by decide)]
  rw [if_neg h178, if_neg h178]
  by_cases h226 : j < 274
  · rw [if_pos h226, if_pos h226]
    show xemethodStarts ad kk (lnz V m) L (Z.grow q1 q2 c1 c2) _ = xemethodStarts ad kk V L Z _
    unfold xemethodStarts
    rw [lnz_o (V := V) (n := m) (c := 61) (by decide)]
  rw [if_neg h226, if_neg h226]
  by_cases h274 : j < 298
  · rw [if_pos h274, if_pos h274]
    show xeWrap ad kk (lnz V m) L (Z.grow q1 q2 c1 c2) _ = xeWrap ad kk V L Z _
    unfold xeWrap xfWrap
    rw [lnz_o (V := V) (n := m) (c := 62) (by decide), lnz_o (V := V) (n := m) (c := 63) (by decide), lnz_o (V := V) (n := m) (c := 64) (by decide), lnz_o (V := V) (n := m) (c := 65) (by decide), lnz_o (V := V) (n := m) (c := 66) (by decide)]
  rw [if_neg h274, if_neg h274]
  show xeFrame ad kk (lnz V m) L (Z.grow q1 q2 c1 c2) _ = xeFrame ad kk V L Z _
  unfold xeFrame xfFrame
  rw [lnz_o (V := V) (n := m) (c := 67) (by decide), lnz_o (V := V) (n := m) (c := 68) (by decide), lnz_o (V := V) (n := m) (c := 69) (by decide), lnz_o (V := V) (n := m) (c := 70) (by decide), lnz_o (V := V) (n := m) (c := 71) (by decide), lnz_o (V := V) (n := m) (c := 72) (by decide), lnz_o (V := V) (n := m) (c := 73) (by decide), lnz_o (V := V) (n := m) (c := 74) (by decide), lnz_o (V := V) (n := m) (c := 75) (by decide), lnz_o (V := V) (n := m) (c := 76) (by decide), lnz_o (V := V) (n := m) (c := 77) (by decide), lnz_o (V := V) (n := m) (c := 78) (by decide), lnz_o (V := V) (n := m) (c := 79) (by decide), lnz_o (V := V) (n := m) (c := 80) (by decide), lnz_o (V := V) (n := m) (c := 81) (by decide), lnz_o (V := V) (n := m) (c := 82) (by decide), lnz_o (V := V) (n := m) (c := 83) (by decide), lnz_o (V := V) (n := m) (c := 84) (by decide), lnz_o (V := V) (n := m) (c := 85) (by decide)]
  rfl
theorem xs_lnz {ad : Nat → Nat} {kk : Nat → ClassId} {V : Vf} {L : Lf} {Z : XZ} {q1 q2 : Nat} {c1 c2 : ClassId} : xs ad kk (lnz V Z.ln) L (Z.grow q1 q2 c1 c2) = (((xs ad kk V L Z).set 3 (ad 3, .inr (8, ((xfStock ad V L Z).set 10 (.ref q1)).set 11 (.ref q2)))).set 28 (q1, .inl (c1, 2 * Z.ln, .inl (va_cpy (V 31) (fun _ => 0) 0 0 Z.ln)))).set 29 (q2, .inl (c2, 2 * Z.ln, .inl (va_cpy (V 32) (fun _ => 0) 0 0 Z.ln))) := by
  unfold xs xfHouse xfReader xfChecker xfStock xfNotes xfMachine xfTape
  rw [lnz_o (V := V) (n := Z.ln) (c := 0) (by decide), lnz_o (V := V) (n := Z.ln) (c := 1) (by decide), lnz_o (V := V) (n := Z.ln) (c := 2) (by decide), lnz_o (V := V) (n := Z.ln) (c := 3) (by decide), lnz_o (V := V) (n := Z.ln) (c := 4) (by decide), lnz_o (V := V) (n := Z.ln) (c := 5) (by decide), lnz_o (V := V) (n := Z.ln) (c := 6) (by decide), lnz_o (V := V) (n := Z.ln) (c := 10) (by decide), lnz_o (V := V) (n := Z.ln) (c := 12) (by decide), lnz_o (V := V) (n := Z.ln) (c := 13) (by decide), lnz_o (V := V) (n := Z.ln) (c := 15) (by decide), lnz_o (V := V) (n := Z.ln) (c := 16) (by decide), lnz_o (V := V) (n := Z.ln) (c := 17) (by decide), lnz_o (V := V) (n := Z.ln) (c := 18) (by decide), lnz_o (V := V) (n := Z.ln) (c := 19) (by decide), lnz_o (V := V) (n := Z.ln) (c := 20) (by decide), lnz_o (V := V) (n := Z.ln) (c := 21) (by decide), lnz_o (V := V) (n := Z.ln) (c := 22) (by decide), lnz_o (V := V) (n := Z.ln) (c := 23) (by decide), lnz_o (V := V) (n := Z.ln) (c := 24) (by decide), lnz_o (V := V) (n := Z.ln) (c := 25) (by decide), lnz_o (V := V) (n := Z.ln) (c := 26) (by decide), lnz_o (V := V) (n := Z.ln) (c := 27) (by decide), lnz_o (V := V) (n := Z.ln) (c := 28) (by decide), lnz_o (V := V) (n := Z.ln) (c := 29) (by decide), lnz_o (V := V) (n := Z.ln) (c := 30) (by decide), lnz_o (V := V) (n := Z.ln) (c := 33) (by decide), lnz_o (V := V) (n := Z.ln) (c := 34) (by decide), lnz_o (V := V) (n := Z.ln) (c := 35) (by decide), lnz_o (V := V) (n := Z.ln) (c := 36) (by decide), lnz_o (V := V) (n := Z.ln) (c := 37) (by decide), lnz_o (V := V) (n := Z.ln) (c := 39) (by decide), lnz_o (V := V) (n := Z.ln) (c := 40) (by decide)]
  rfl
theorem xw_lnz {ad : Nat → Nat} {kk : Nat → ClassId} {V : Vf} {L : Lf} {Z : XZ} {q1 q2 : Nat} {c1 c2 : ClassId} : xw ad kk (lnz V Z.ln) L (Z.grow q1 q2 c1 c2) = (((xw ad kk V L Z).set 3 (ad 3, .inr (8, ((xfStock ad V L Z).set 10 (.ref q1)).set 11 (.ref q2)))).set 28 (q1, .inl (c1, 2 * Z.ln, .inl (va_cpy (V 31) (fun _ => 0) 0 0 Z.ln)))).set 29 (q2, .inl (c2, 2 * Z.ln, .inl (va_cpy (V 32) (fun _ => 0) 0 0 Z.ln))) := by
  unfold xw
  rw [List.set_append_left _ _ (show 3 < (xs ad kk V L Z).length from by show 3 < 38; omega), List.set_append_left _ _ (by rw [List.length_set]; show 28 < 38; omega), List.set_append_left _ _ (by rw [List.length_set, List.length_set]; show 29 < 38; omega), ← xs_lnz]
  have e : xb ad kk (lnz V Z.ln) L (Z.grow q1 q2 c1 c2) = xb ad kk V L Z := funext (fun j => xb_lnz)
  rw [e]
  rfl
theorem grow_get {α : Type} {ws : List α} {s1 s2 c1 c2 : α} (h : 29 < ws.length) (k : Nat) (x : α) (hx : (((ws.set 3 s2).set 28 c1).set 29 c2)[k]? = some x) : ((((ws ++ [c1]).set 3 s1) ++ [c2]).set 3 s2)[if k = 28 then ws.length else if k = 29 then ws.length + 1 else k]? = some x := by
  have l1 : ((ws ++ [c1]).set 3 s1).length = ws.length + 1 := by rw [List.length_set, List.length_append]; rfl
  have l2 : (((ws ++ [c1]).set 3 s1) ++ [c2]).length = ws.length + 2 := by rw [List.length_append, l1]; rfl
  have g1 : ((((ws ++ [c1]).set 3 s1) ++ [c2]).set 3 s2)[ws.length]? = some c1 := by
    rw [List.getElem?_set, if_neg (by omega), List.getElem?_append_left (by omega), List.getElem?_set, if_neg (by omega), List.getElem?_append_right (by omega), Nat.sub_self]
    rfl
  have g2 : ((((ws ++ [c1]).set 3 s1) ++ [c2]).set 3 s2)[ws.length + 1]? = some c2 := by
    rw [List.getElem?_set, if_neg (by omega), List.getElem?_append_right (by omega), l1, Nat.sub_self]
    rfl
  have g3 : ((((ws ++ [c1]).set 3 s1) ++ [c2]).set 3 s2)[3]? = some s2 := by
    rw [List.getElem?_set, if_pos rfl, if_pos (by omega)]
  rw [List.getElem?_set, List.getElem?_set, List.getElem?_set] at hx
  simp only [List.length_set] at hx
  by_cases k29 : 29 = k
  · rw [if_pos k29, if_pos h] at hx
    have e : (if k = 28 then ws.length else if k = 29 then ws.length + 1 else k) = ws.length + 1 := by rw [if_neg (by omega), if_pos k29.symm]
    rw [e, g2]
    exact hx
  · rw [if_neg k29] at hx
    by_cases k28 : 28 = k
    · rw [if_pos k28, if_pos (by omega)] at hx
      have e : (if k = 28 then ws.length else if k = 29 then ws.length + 1 else k) = ws.length := by rw [if_pos k28.symm]
      rw [e, g1]
      exact hx
    · rw [if_neg k28] at hx
      have e : (if k = 28 then ws.length else if k = 29 then ws.length + 1 else k) = k := by rw [if_neg (by omega), if_neg (by omega)]
      rw [e]
      by_cases k3 : 3 = k
      · rw [if_pos k3, if_pos (by omega)] at hx
        rw [← k3, g3]
        exact hx
      · rw [if_neg k3] at hx
        have hk : k < ws.length := (List.getElem?_eq_some_iff.mp hx).1
        rw [List.getElem?_set, if_neg k3, List.getElem?_append_left (by omega), List.getElem?_set, if_neg k3, List.getElem?_append_left hk]
        exact hx
theorem grow_P {D : va_G} {ws : va_W} {H : Heap} {s1 s2 c1 c2 : Nat × va_E} (h : 29 < ws.length) (hP : va_P D vwCl ((((ws ++ [c1]).set 3 s1) ++ [c2]).set 3 s2) H) : va_P D vwCl (((ws.set 3 s2).set 28 c1).set 29 c2) H := fun k q hq => hP _ q (grow_get h k q hq)
theorem grow_D {A : Nat → Prop} {ws : va_W} {s1 s2 c1 c2 : Nat × va_E} (h : 29 < ws.length) (hD : va_D A ((((ws ++ [c1]).set 3 s1) ++ [c2]).set 3 s2)) : va_D A (((ws.set 3 s2).set 28 c1).set 29 c2) := by
  have ln : (((ws.set 3 s2).set 28 c1).set 29 c2).length = ws.length := by rw [List.length_set, List.length_set, List.length_set]
  refine ⟨fun i j p q hi hj e => ?_, fun k p hk => hD.2 _ p (grow_get h k p hk)⟩
  have w := hD.1 _ _ p q (grow_get h i p hi) (grow_get h j q hj) e
  have li := (List.getElem?_eq_some_iff.mp hi).1
  have lj := (List.getElem?_eq_some_iff.mp hj).1
  rw [ln] at li lj
  by_cases a1 : i = 28
  · rw [if_pos a1] at w
    by_cases b1 : j = 28
    · omega
    · rw [if_neg b1] at w
      by_cases b2 : j = 29
      · rw [if_pos b2] at w; omega
      · rw [if_neg b2] at w; omega
  · rw [if_neg a1] at w
    by_cases a2 : i = 29
    · rw [if_pos a2] at w
      by_cases b1 : j = 28
      · rw [if_pos b1] at w; omega
      · rw [if_neg b1] at w
        by_cases b2 : j = 29
        · omega
        · rw [if_neg b2] at w; omega
    · rw [if_neg a2] at w
      by_cases b1 : j = 28
      · rw [if_pos b1] at w; omega
      · rw [if_neg b1] at w
        by_cases b2 : j = 29
        · rw [if_pos b2] at w; omega
        · rw [if_neg b2] at w; omega
theorem xt_lnz {kk : Nat → ClassId} {Z : XZ} {q1 q2 : Nat} {c1 c2 : ClassId} : xty kk (Z.grow q1 q2 c1 c2) = ((xty kk Z).set 21 (c1, .int)).set 22 (c2, .int) := by
  unfold xty
  rw [List.set_append_left _ _ (show 21 < (xts kk Z).length from by show 21 < 31; omega), List.set_append_left _ _ (by rw [List.length_set]; show 22 < 31; omega)]
  rfl
theorem grow_T {α : Type} {ts : List α} {c1 c2 : α} (h : 22 < ts.length) (k : Nat) (x : α) (hx : ((ts.set 21 c1).set 22 c2)[k]? = some x) : ∃ j : Nat, ((ts ++ [c1]) ++ [c2])[j]? = some x := by
  rw [List.getElem?_set, List.getElem?_set, List.length_set] at hx
  by_cases k22 : 22 = k
  · rw [if_pos k22, if_pos h] at hx
    refine ⟨ts.length + 1, ?_⟩
    rw [List.getElem?_append_right (by rw [List.length_append]; exact Nat.le_refl _), List.length_append]
    show [c2][ts.length + 1 - (ts.length + 1)]? = some x
    rw [Nat.sub_self]
    exact hx
  · rw [if_neg k22] at hx
    by_cases k21 : 21 = k
    · rw [if_pos k21, if_pos (by omega)] at hx
      refine ⟨ts.length, ?_⟩
      rw [List.getElem?_append_left (by rw [List.length_append]; exact Nat.lt_succ_self _), List.getElem?_append_right (Nat.le_refl _), Nat.sub_self]
      exact hx
    · rw [if_neg k21] at hx
      have hk : k < ts.length := (List.getElem?_eq_some_iff.mp hx).1
      refine ⟨k, ?_⟩
      rw [List.getElem?_append_left (by rw [List.length_append]; exact Nat.lt_of_lt_of_le hk (Nat.le_succ _)), List.getElem?_append_left hk]
      exact hx
theorem grow_K {D : va_G} {ts : List (ClassId × FieldType)} {s : State} {c1 c2 : ClassId × FieldType} (h : 22 < ts.length) (hK : va_K D vwCl ((ts ++ [c1]) ++ [c2]) s) : va_K D vwCl ((ts.set 21 c1).set 22 c2) s := ⟨hK.1, fun k q hq => by obtain ⟨j, hj⟩ := grow_T h k q hq; exact hK.2 j q hj⟩
theorem xt_len {kk : Nat → ClassId} {Z : XZ} : (xty kk Z).length = 329 := by
  unfold xty
  rw [List.length_append, List.length_map, List.length_range, show (xts kk Z).length = 31 from rfl]
theorem zc_grow {Z : XZ} {q1 q2 : Nat} {c1 c2 : ClassId} (h : LN Z.ln) (h2 : Z.ln < 262144) : zcc (Z.grow q1 q2 c1 c2) + 2 ≤ zcc Z ∧ zss (Z.grow q1 q2 c1 c2) + 4 * Z.ln = zss Z ∧ LN (2 * Z.ln) ∧ 512 ≤ Z.ln ∧ 2 * Z.ln ≤ 262144 := by
  have e1 : (Z.grow q1 q2 c1 c2).nf = Z.nf := rfl
  have e2 : (Z.grow q1 q2 c1 c2).ln = 2 * Z.ln := rfl
  unfold zcc zss
  rw [e1, e2]
  unfold LN at h ⊢
  omega
theorem ZL.grow {Z : XZ} {q1 q2 : Nat} {c1 c2 : ClassId} (h : LN Z.ln) (h2 : Z.ln < 262144) : ZL Z (Z.grow q1 q2 c1 c2) := ⟨by have := (zc_grow (q1 := q1) (q2 := q2) (c1 := c1) (c2 := c2) h h2).1; omega, by have := (zc_grow (q1 := q1) (q2 := q2) (c1 := c1) (c2 := c2) h h2).2.1; omega, Nat.le_refl _, by show Z.ln ≤ 2 * Z.ln; (first | exact om_38427244a37f | omega), fun _ _ => rfl⟩
theorem SL.grow {V : Vf} {Z : XZ} {q1 q2 : Nat} {c1 c2 : ClassId} (h : SL V Z) (h2 : 2 * Z.ln ≤ 262144) : SL (lnz V Z.ln) (Z.grow q1 q2 c1 c2) := by
  unfold SL
  rw [lnz_o (c := 3) (by decide), lnz_o (c := 30) (by decide)]
  have e2 : (Z.grow q1 q2 c1 c2).ln = 2 * Z.ln := rfl
  rw [e2]
  refine ⟨by have := h.1; omega, h2, h.2.2.1, fun i hi => ?_⟩
  rw [lnz_32, if_pos (by have := h.1; omega)]
  exact h.2.2.2 i hi
/-! a link more -/
def JN (V W : Vf) (Z Z' : XZ) (j : Nat) : Prop := BE V W ∧ (∀ c k : Nat, 67 ≤ c → c ≤ 85 → W c k = V c k) ∧ (W 3 13 = V 3 13 ∧ W 5 5 = V 5 5 ∧ W 5 8 = V 5 8 ∧ W 5 6 = V 5 6 ∧ W 5 9 = V 5 9 ∧ W 5 10 = V 5 10) ∧ (∀ k, W 25 k = V 25 k) ∧ (∀ k, W 26 k = V 26 k) ∧ (∀ k, W 40 k = V 40 k) ∧ (∀ k, k ≠ j → W 30 k = V 30 k) ∧ (W 30 j).toInt ≠ -1 ∧ (W 3 15).toInt = (V 3 15).toInt + 1 ∧ SL W Z' ∧ Z'.nf = Z.nf ∧ LN Z'.ln
theorem MI.jn {V W : Vf} {Z Z' : XZ} {b n r r' j : Nat} {g : Nat → Nat} {w v u : Prop} (h : MI V Z b g n r w v u) (J : JN V W Z Z' j) (hr : r' + 1 ≤ r) : MI W Z' b g n r' w v u := by
  obtain ⟨hB, hR, ⟨e13, e5, e8, e6, e9, e10⟩, e25, e26, e40, e30, n30, e15, sl, enf, hln⟩ := J
  have e43 := hB 43 (5 * b + 2) (by decide) (by decide)
  have o0 := h.o0
  refine ⟨sl, by rw [enf]; exact h.nf, by rw [enf]; exact h.dn, by rw [e43]; exact h.sz, ?_, ?_, ?_, fun i hi => ?_, by rw [e13, e15, e8]; exact ⟨o0.1, by omega, o0.2.2⟩, ?_, h.tx.be hB, h.cd.be hB, by rw [e5]; exact h.mb, hln, ?_⟩
  · intro o ho
    rw [e13] at ho
    rw [e26, e43]
    exact h.oc o ho
  · intro i hi
    rw [e8] at hi
    rw [e40, e13]
    exact h.md i hi
  · intro i k a1 a2
    rw [hR 67 i (by decide) (by decide), hR 67 k (by decide) (by decide), hR 80 i (by decide) (by decide), hR 80 k (by decide) (by decide)]
    exact h.mk2 i k a1 a2
  · have ev : vI W n v u i = vI V n v u i := by unfold vI; rw [hR 67 (n - 1) (by decide) (by decide)]
    rw [ev]
    exact (h.fk i hi).cg hB (fun c a1 a2 => hR c i a1 a2) e13 e8
  · have p := h.pot
    rw [e15, e13, e8, hB 44 0 (by decide) (by decide)]
    omega
  · intro k hk
    rw [e25, e13]
    refine ⟨(h.pt k hk).1, fun o h1 => ?_⟩
    rw [e26]
    exact (h.pt k hk).2 o h1
/-- a link of the one that is made -/
theorem MO.jn {V W : Vf} {Z Z' : XZ} {b d j : Nat} {w v u : Prop} (h : MO V Z b d w v u) (hw : w) (k1 : (V 67 d).toInt = 1) (ph : (V 68 d).toInt ≠ 1) (J : JN V W Z Z' j) : MO W Z' b d False False False := by
  obtain ⟨g, r, x, h0, hx, hF, hm⟩ := h
  have f6 := ((hF.2.2.2.2.2.1 k1).2 ph).2 hw
  have f5 := hF.2.2.2.2.1 k1
  obtain ⟨y, rfl⟩ : ∃ y, x = y + 1 := ⟨x - 1, by omega⟩
  have e67 := J.2.1 67 d (by decide) (by decide)
  refine ⟨g, r - 1, y, (h0.jn (r' := r - 1) J (by omega)).w id (fun _ => Or.inl (by omega)) id (Nat.le_refl _), by omega, ?_, fun k => absurd k (by rw [e67]; omega)⟩
  have hG : FK V b y d False False := ⟨hF.1, hF.2.1, hF.2.2.1, hF.2.2.2.1, hF.2.2.2.2.1, fun a1 => ⟨by omega, fun a2 => ⟨by omega, fun z => z.elim⟩⟩, hF.2.2.2.2.2.2.1, hF.2.2.2.2.2.2.2.1, hF.2.2.2.2.2.2.2.2.1, fun _ _ z => z.elim⟩
  exact hG.cg J.1 (fun c a1 a2 => J.2.1 c d a1 a2) J.2.2.1.1 J.2.2.1.2.2.1
/-- a late link -/
theorem MO.jl {V W : Vf} {Z Z' : XZ} {b d j : Nat} {w v u : Prop} (h : MO V Z b d w v u) (hv : v) (k4 : (V 67 d).toInt = 4) (ph : (V 68 d).toInt = 7) (J : JN V W Z Z' j) : MO W Z' b d True False True := by
  obtain ⟨g, r, x, h0, hx, hF, hm⟩ := h
  have f6 := hF.2.2.2.2.2.2.2.2.2 k4 ph hv
  have e67 := J.2.1 67 d (by decide) (by decide)
  refine ⟨g, r - 1, 0, (h0.jn (r' := r - 1) J (by omega)).w id (fun _ => Or.inl (by omega)) id (Nat.le_refl _), Nat.zero_le _, ?_, fun k => absurd k (by rw [e67]; omega)⟩
  have hG : FK V b 0 d True False := ⟨hF.1, hF.2.1, hF.2.2.1, hF.2.2.2.1, hF.2.2.2.2.1, fun a1 => absurd a1 (by omega), hF.2.2.2.2.2.2.1, hF.2.2.2.2.2.2.2.1, hF.2.2.2.2.2.2.2.2.1, fun _ _ z => z.elim⟩
  exact hG.cg J.1 (fun c a1 a2 => J.2.1 c d a1 a2) J.2.2.1.1 J.2.2.1.2.2.1
/-- what join writes, by its two ways -/
theorem JN.mk {V V1 V2 V3 W : Vf} {Z : XZ} {l j c k : Nat} {o x y : Int32} (h : SL V Z) (hln : LN Z.ln) (hl : (l : Int) = (V 3 15).toInt) (hz : (l : Int) < (Z.ln : Int)) (e1 : V1 = up2 V 31 l o) (e2 : V2 = up2 V1 32 l (-1)) (e3 : V3 = up2 V2 c k x) (hx : x.toInt = (V 3 15).toInt) (e4 : W = up2 V3 3 15 y) (hy : y.toInt = (V 3 15).toInt + 1) (hck : (c = 30 ∧ k = j) ∨ (c = 32 ∧ (k : Int) < (V 3 15).toInt ∧ (V 30 j).toInt ≠ -1)) : JN V W Z Z j := by
  have o3 : ∀ c' k', ¬ (c' = 3 ∧ k' = 15) → ¬ (c' = c ∧ k' = k) → ¬ (c' = 32 ∧ k' = l) → c' ≠ 31 → W c' k' = V c' k' := fun c' k' a1 a2 a3 a4 => by
    rw [e4, up2_pl a1, e3, up2_pl a2, e2, up2_pl a3, e1, up2_pl (fun a => a4 a.1)]
  have e15 : (W 3 15).toInt = (V 3 15).toInt + 1 := by rw [up2_s e4]; exact hy
  have n32 : (W 32 l).toInt = -1 ∨ (W 32 l) = x := by
    rw [e4, up2_pl (by omega), e3]
    by_cases q : 32 = c ∧ l = k
    · rw [q.1, q.2]; exact Or.inr up2_ss
    · left
      rw [up2_pl q, up2_s e2]
      decide
  have e13 : W 3 13 = V 3 13 := o3 _ _ (by omega) (by omega) (by omega) (by omega)
  refine ⟨fun c' k' a1 a2 => o3 c' k' (by omega) (by omega) (by omega) (by omega), fun c' k' a1 a2 => o3 c' k' (by omega) (by omega) (by omega) (by omega), ⟨e13, o3 _ _ (by omega) (by omega) (by omega) (by omega), o3 _ _ (by omega) (by omega) (by omega) (by omega), o3 _ _ (by omega) (by omega) (by omega) (by omega), o3 _ _ (by omega) (by omega) (by omega) (by omega), o3 _ _ (by omega) (by omega) (by omega) (by omega)⟩, fun k' => o3 _ _ (by omega) (by omega) (by omega) (by omega), fun k' => o3 _ _ (by omega) (by omega) (by omega) (by omega), fun k' => o3 _ _ (by omega) (by omega) (by omega) (by omega), fun k' hk => o3 _ _ (by omega) (by omega) (by omega) (by omega), ?_, e15, ?_, rfl, hln⟩
  · rcases hck with ⟨q1, q2⟩ | ⟨q1, q2, q3⟩
    · rw [e4, up2_pl (by omega), e3, q1, q2, up2_ss]
      omega
    · rw [o3 30 j (by omega) (by omega) (by omega) (by omega)]
      exact q3
  · unfold SL
    rw [e15, e13]
    refine ⟨by omega, h.2.1, fun o' k' a1 a2 => ?_, fun i hi => ?_⟩
    · have z := h.2.2.1 o' k' a1 a2
      by_cases q : 30 = c ∧ 8 * o' + k' = k
      · rw [e4, up2_pl (by omega), e3, q.1, q.2, up2_ss]
        omega
      · rw [o3 30 _ (by omega) q (by omega) (by omega)]
        omega
    · by_cases q : i = l
      · rw [q]
        rcases n32 with n | n
        · omega
        · rw [n]; omega
      · by_cases q2 : 32 = c ∧ i = k
        · rw [e4, up2_pl (by omega), e3, q2.1, q2.2, up2_ss]
          omega
        · rw [o3 32 i (by omega) q2 (by omega) (by omega)]
          have := h.2.2.2 i (by omega)
          omega
theorem JN.gr {V W : Vf} {Z : XZ} {q1 q2 j n : Nat} {c1 c2 : ClassId} (J : JN (lnz V n) W (Z.grow q1 q2 c1 c2) (Z.grow q1 q2 c1 c2) j) : JN V W Z (Z.grow q1 q2 c1 c2) j := by
  have o : ∀ c, c ≠ 31 ∧ c ≠ 32 → lnz V n c = V c := fun c h => lnz_o h
  obtain ⟨a1, a2, a3, a25, a4, a5, a6, a7, a8, a9, a10, a11⟩ := J
  rw [o 3 (by decide), o 5 (by decide)] at a3
  rw [o 25 (by decide)] at a25
  rw [o 26 (by decide)] at a4
  rw [o 40 (by decide)] at a5
  rw [o 30 (by decide)] at a6
  rw [o 3 (by decide)] at a8
  refine ⟨fun c k h1 h2 => ?_, fun c k h1 h2 => ?_, a3, a25, a4, a5, a6, a7, a8, a9, rfl, a11⟩
  · rw [a1 c k h1 h2, o c (by omega)]
  · rw [a2 c k h1 h2, o c (by omega)]

theorem w1366 : Cond.methodLink RJ7 304 yJ9_min_7cf53 ∈ GW := gw_k tk9_6 11 (by decide +kernel) rfl
theorem w1367 : Cond.methodLink RJ7 150 arraycopyName ∈ GW := gw_k tk9_6 12 (by decide +kernel) rfl
theorem w1369 : Cond.native arraycopyName ∈ GW := gw_k tk9_6 14 (by decide +kernel) rfl
theorem w1368 : Cond.static arraycopyName ∈ GW := gw_k tk9_6 13 (by decide +kernel) rfl
theorem w181 : Cond.initialized RJ10 ∈ GW := gw_k tk9_1 26 (by decide +kernel) rfl
theorem dk9_dJ7_copyOf_59c91_0_0 : dOk cJ7_copyOf_59c91 [(0, .iload_n 1, 1), (1, .aload_n 0, 1), (2, .arraylength, 1), (3, .if_icmp .ne 11, 3), (14, .iload_n 1, 1), (15, .newarray .int, 2), (17, .astore_n 2, 1), (18, .aload_n 0, 1), (19, .iconst 0, 1), (20, .aload_n 2, 1), (21, .iconst 0, 1), (22, .aload_n 0, 1), (23, .arraylength, 1), (24, .iload_n 1, 1), (25, .invokestatic 304, 3), (28, .invokestatic 150, 3), (31, .aload_n 2, 1), (32, .areturn, 1)] = true := by decide +kernel
theorem dJ7_copyOf_59c91_0 : decode cJ7_copyOf_59c91 0 = .ok (.iload_n 1, 1) := dr9 dk9_dJ7_copyOf_59c91_0_0 0 (0, .iload_n 1, 1) rfl
theorem dJ7_copyOf_59c91_1 : decode cJ7_copyOf_59c91 1 = .ok (.aload_n 0, 1) := dr9 dk9_dJ7_copyOf_59c91_0_0 1 (1, .aload_n 0, 1) rfl
theorem dJ7_copyOf_59c91_2 : decode cJ7_copyOf_59c91 2 = .ok (.arraylength, 1) := dr9 dk9_dJ7_copyOf_59c91_0_0 2 (2, .arraylength, 1) rfl
theorem dJ7_copyOf_59c91_3 : decode cJ7_copyOf_59c91 3 = .ok (.if_icmp .ne 11, 3) := dr9 dk9_dJ7_copyOf_59c91_0_0 3 (3, .if_icmp .ne 11, 3) rfl
theorem dJ7_copyOf_59c91_14 : decode cJ7_copyOf_59c91 14 = .ok (.iload_n 1, 1) := dr9 dk9_dJ7_copyOf_59c91_0_0 4 (14, .iload_n 1, 1) rfl
theorem dJ7_copyOf_59c91_15 : decode cJ7_copyOf_59c91 15 = .ok (.newarray .int, 2) := dr9 dk9_dJ7_copyOf_59c91_0_0 5 (15, .newarray .int, 2) rfl
theorem dJ7_copyOf_59c91_17 : decode cJ7_copyOf_59c91 17 = .ok (.astore_n 2, 1) := dr9 dk9_dJ7_copyOf_59c91_0_0 6 (17, .astore_n 2, 1) rfl
theorem dJ7_copyOf_59c91_18 : decode cJ7_copyOf_59c91 18 = .ok (.aload_n 0, 1) := dr9 dk9_dJ7_copyOf_59c91_0_0 7 (18, .aload_n 0, 1) rfl
theorem dJ7_copyOf_59c91_19 : decode cJ7_copyOf_59c91 19 = .ok (.iconst 0, 1) := dr9 dk9_dJ7_copyOf_59c91_0_0 8 (19, .iconst 0, 1) rfl
theorem dJ7_copyOf_59c91_20 : decode cJ7_copyOf_59c91 20 = .ok (.aload_n 2, 1) := dr9 dk9_dJ7_copyOf_59c91_0_0 9 (20, .aload_n 2, 1) rfl
theorem dJ7_copyOf_59c91_21 : decode cJ7_copyOf_59c91 21 = .ok (.iconst 0, 1) := dr9 dk9_dJ7_copyOf_59c91_0_0 10 (21, .iconst 0, 1) rfl
theorem dJ7_copyOf_59c91_22 : decode cJ7_copyOf_59c91 22 = .ok (.aload_n 0, 1) := dr9 dk9_dJ7_copyOf_59c91_0_0 11 (22, .aload_n 0, 1) rfl
theorem dJ7_copyOf_59c91_23 : decode cJ7_copyOf_59c91 23 = .ok (.arraylength, 1) := dr9 dk9_dJ7_copyOf_59c91_0_0 12 (23, .arraylength, 1) rfl
theorem dJ7_copyOf_59c91_24 : decode cJ7_copyOf_59c91 24 = .ok (.iload_n 1, 1) := dr9 dk9_dJ7_copyOf_59c91_0_0 13 (24, .iload_n 1, 1) rfl
theorem dJ7_copyOf_59c91_25 : decode cJ7_copyOf_59c91 25 = .ok (.invokestatic 304, 3) := dr9 dk9_dJ7_copyOf_59c91_0_0 14 (25, .invokestatic 304, 3) rfl
theorem dJ7_copyOf_59c91_28 : decode cJ7_copyOf_59c91 28 = .ok (.invokestatic 150, 3) := dr9 dk9_dJ7_copyOf_59c91_0_0 15 (28, .invokestatic 150, 3) rfl
theorem dJ7_copyOf_59c91_31 : decode cJ7_copyOf_59c91 31 = .ok (.aload_n 2, 1) := dr9 dk9_dJ7_copyOf_59c91_0_0 16 (31, .aload_n 2, 1) rfl
theorem dJ7_copyOf_59c91_32 : decode cJ7_copyOf_59c91 32 = .ok (.areturn, 1) := dr9 dk9_dJ7_copyOf_59c91_0_0 17 (32, .areturn, 1) rfl
theorem ap_l {α : Type} {ws : List α} {e x : α} {k : Nat} (h : ws[k]? = some x) : (ws ++ [e])[k]? = some x := by
  rw [List.getElem?_append_left (List.getElem?_eq_some_iff.mp h).1]
  exact h
theorem ap_r {α : Type} {ws : List α} {e : α} : (ws ++ [e])[ws.length]? = some e := by
  rw [List.getElem?_append_right (Nat.le_refl _), Nat.sub_self]
  rfl
theorem ap_s {α : Type} {ws : List α} {e f : α} : (ws ++ [e]).set ws.length f = ws ++ [f] := by
  rw [List.set_append_right _ _ (Nat.le_refl _), Nat.sub_self]
  rfl
abbrev r_copyOf (k : Nat) : Room := { frames := 1, cells := 1, slots := k, locals := 40 }
abbrev q_copyOf (D : va_G) (ws : va_W) (tys : List (ClassId × FieldType)) (n k : Nat) (f : Nat → Int32) (A : Nat → Prop) : Array Value → State → Outcome → State → Prop := qZr D (fun (u : Nat × ClassId) => True) (fun u => u.1) (fun u => ws ++ [(u.1, .inl (u.2, k, .inl (va_cpy f (fun _ => 0) 0 0 n)))]) (fun u => tys ++ [(u.2, .int)]) (fun _ => 1) (fun _ => k) A
set_option maxHeartbeats 4000000 in
set_option maxRecDepth 100000 in
theorem c_copyOf (l : Launch) (D : va_G) (ks : KS) (sz : Nat) (ws : va_W) (tys : List (ClassId × FieldType)) (q0 t0 a : Nat) (kA : ClassId) (n k : Nat) (f : Nat → Int32) (z : Int32) (ha : ws[q0]? = some (a, .inl (kA, n, .inl f))) (ht : tys[t0]? = some (kA, .int)) (hz : z.toInt = (k : Int)) (hn : n < k) (hk : k ≤ 300000) : Met l yJ7_copyOf_59c91 (Cond.code yJ7_copyOf_59c91 cJ7_copyOf_59c91 3 (some (.array .int)) :: GW) (r_copyOf k) (va_Pc [.ref a, .int z] (gp D ks ws tys sz)) (q_copyOf D ws tys n k f (va_A ws sz)) 1 k (va_A ws sz) := by
  refine g_met (q_copyOf D ws tys n k f) (by decide) (Nat.le_of_ble_eq_true rfl) ?_
  intro p e s m below meth c A ls H locs hx hb hr hml hown hg hlocks hin hnw hgk hP hK hD hS hA hl
  have hown : s.vm.findClass RJ7 = some m.cls := hown
  have hl : lv_has ls 3 [(0, .ref a), (1, .int z)] := hl
  have hnn : (nI n).toInt = (n : Int) := nI_toInt (by omega)
  have ncl : Int32.toNatClampNeg (nI n) = n := nI_clamp (by omega)
  have zcl := i_clamp (x := z) rfl (by (first | exact om_f0b80f1cbc29 hz hn | omega))
  have e0 : Int32.toInt 0 = 0 := by decide
  have hz0 : ¬ z < 0 := fun q => by have := Int32.lt_iff_toInt_lt.mp q; omega
  have hn0 : ¬ nI n < 0 := fun q => by have := Int32.lt_iff_toInt_lt.mp q; omega
  have hmn : ¬ z < nI n := fun q => by have := Int32.lt_iff_toInt_lt.mp q; omega
  refine W.know (fun ka kb => ?_)
  refine lv_iload_n hx hb dJ7_copyOf_59c91_0 rfl (lv_at hl 1 rfl) ?_
  refine lv_aload_n hx hb dJ7_copyOf_59c91_1 rfl (lv_at hl 0 rfl) ?_
  refine va_alen (D := D) (v := nI n) hx hb hK hP q0 t0 ha ht rfl dJ7_copyOf_59c91_2 ?_
  refine lv_icmp_ne (tgt := 14) hx hb dJ7_copyOf_59c91_3 (by decide) (fun c2 => ?_) (fun c2 => ?_)
  · refine lv_iload_n hx hb dJ7_copyOf_59c91_14 rfl (lv_at hl 1 rfl) ?_
    refine va_newa (D := D) (atype := .int) (ty := .int) (n := z) (N' := k) (a0 := (k, .inl (fun _ => 0))) hx hb (hg _ w297) rfl hK hP hD hS hA (fun _ => rfl) hz0 (by omega) (by show k * 4 ≤ 536870912; (first | exact om_5a470900123d hk | omega)) (by show 0 + 1 ≤ 1; omega) (by show 0 + k ≤ k; (first | exact om_d1ed6895266e | omega)) dJ7_copyOf_59c91_15 (fun q kq H hK hP hD hS => ?_)
    refine lv_astore_n (lv' := [(2, .ref q), (0, .ref a), (1, .int z)]) hx hb dJ7_copyOf_59c91_17 rfl hl (by decide) rfl (fun ls hl => ?_)
    refine lv_aload_n hx hb dJ7_copyOf_59c91_18 rfl (lv_at hl 1 rfl) ?_
    refine lv_iconst (v := 0) hx hb dJ7_copyOf_59c91_19 (by decide) ?_
    refine lv_aload_n hx hb dJ7_copyOf_59c91_20 rfl (lv_at hl 0 rfl) ?_
    refine lv_iconst (v := 0) hx hb dJ7_copyOf_59c91_21 (by decide) ?_
    refine lv_aload_n hx hb dJ7_copyOf_59c91_22 rfl (lv_at hl 1 rfl) ?_
    refine va_alen (D := D) (v := nI n) hx hb hK hP q0 t0 (ap_l ha) (ap_l ht) rfl dJ7_copyOf_59c91_23 ?_
    refine lv_iload_n hx hb dJ7_copyOf_59c91_24 rfl (lv_at hl 2 rfl) ?_
    refine va_mmin (x := nI n) (y := z) hx hb (hml.trans hl.1.symm) hown (hg _ w1366) (hg _ w811) (hg _ w173) (hg _ w812) (Nat.le_of_ble_eq_true rfl) (Nat.le_of_ble_eq_true rfl) (by show 0 + 1 ≤ 1; omega) (by show 0 + k ≤ k; (first | exact om_d1ed6895266e | omega)) dJ7_copyOf_59c91_25 ?_
    refine g_top (v := nI n) (if_neg hmn) ?_
    refine va_copyi (D := D) (ty := .int) hx hb (hml.trans hl.1.symm) hown (hg _ w1367) (hg _ w1369) (hg _ w1368) (hg _ w181) hK hP hD hS q0 ws.length t0 tys.length (ap_l ha) ap_r (ap_l ht) ap_r rfl (by decide) (by decide) hn0 (by show 0 + Int32.toNatClampNeg (nI n) ≤ n; (first | exact om_b0f4824b8fa3 ncl | omega)) (by show 0 + Int32.toNatClampNeg (nI n) ≤ k; (first | exact om_561babfe1225 hn ncl | omega)) (fun i hi => rfl) (Nat.le_of_ble_eq_true rfl) (Nat.le_of_ble_eq_true rfl) dJ7_copyOf_59c91_28 (fun H locs hP hD hS => ?_)
    rw [ap_s, ncl] at hP hD
    refine lv_aload_n hx hb dJ7_copyOf_59c91_31 rfl (lv_at hl 0 rfl) ?_
    refine W.know (fun kr1 kr2 => ?_)
    refine W.widen (k := 1) (n := k) (by omega) (by omega) ?_
    exact W.aret (v := .ref q) hx hb hr (Or.inr ⟨_, rfl⟩) (Or.inr ⟨_, rfl⟩) (fun t ht hW => ⟨⟨(q, kq), rfl, trivial, ⟨by rw [ht]; exact hP, va_K.moved hW.alike hK, hD⟩, by rw [ht]; exact (show H.size ≤ s.heap.size + 1 from by omega), by rw [ht]; exact (show tot H ≤ tot s.heap + k from by omega)⟩, hS.F ht⟩) hS.2.2 dJ7_copyOf_59c91_32
  · exfalso
    have c3 : z = nI n := c2
    rw [c3] at hz
    omega
end
section
theorem w1358 : Cond.code yJ7_copyOf_59c91 cJ7_copyOf_59c91 3 (some (.array .int)) ∈ GW := gw_k tk9_6 3 (rfl) rfl
theorem w1356 : Cond.methodLink RX8 83 yJ7_copyOf_59c91 ∈ GW := gw_k tk9_6 1 (by decide +kernel) rfl
theorem w1357 : Cond.static yJ7_copyOf_59c91 ∈ GW := gw_k tk9_6 2 (by decide +kernel) rfl
theorem hdS_yJ7_copyOf_59c91 : yJ7_copyOf_59c91.cls ≠ "java/lang/invoke/MethodHandle" ∧ yJ7_copyOf_59c91.cls ≠ "java/lang/invoke/VarHandle" ∧ (parseMethodDescriptor yJ7_copyOf_59c91.desc).map (fun d => d.parameters.length) = some 2 := by decide +kernel
theorem dk9_dX8_join_0_0 : dOk cX8_join [(0, .aload_n 0, 1), (1, .getfield 69, 3), (4, .aload_n 0, 1), (5, .getfield 43, 3), (8, .arraylength, 1), (9, .if_icmp .lt 37, 3), (46, .aload_n 0, 1), (47, .getfield 43, 3), (50, .aload_n 0, 1), (51, .getfield 69, 3), (54, .iload_n 3, 1), (55, .iastore, 1), (56, .aload_n 0, 1), (57, .getfield 46, 3), (60, .aload_n 0, 1), (61, .getfield 69, 3), (64, .iconst (-1), 1), (65, .iastore, 1), (66, .aload_n 0, 1), (67, .getfield 40, 3), (70, .iload_n 1, 1), (71, .bipush 8, 2), (73, .imul, 1), (74, .iload_n 2, 1)] = true ∧ dOk cX8_join [(75, .iadd, 1), (76, .iaload, 1), (77, .istore 4, 2), (79, .iload 4, 2), (81, .iconst (-1), 1), (82, .if_icmp .ne 21, 3), (103, .iconst 0, 1), (104, .istore 5, 2), (106, .iload 5, 2), (108, .bipush 24, 2), (110, .if_icmp .ge 29, 3), (139, .aload_n 0, 1), (140, .getfield 46, 3), (143, .iload 4, 2), (145, .aload_n 0, 1), (146, .getfield 69, 3), (149, .iastore, 1), (150, .aload_n 0, 1), (151, .dup, 1), (152, .getfield 69, 3), (155, .iconst 1, 1), (156, .iadd, 1), (157, .putfield 69, 3), (160, .return_, 1)] = true ∧ dOk cX8_join [(113, .aload_n 0, 1), (114, .getfield 46, 3), (117, .iload 4, 2), (119, .iaload, 1), (120, .iconst (-1), 1), (121, .if_icmp .eq 18, 3), (124, .aload_n 0, 1), (125, .getfield 46, 3), (128, .iload 4, 2), (130, .iaload, 1), (131, .istore 4, 2), (133, .iinc 5 1, 3), (136, .goto (-30), 3), (85, .aload_n 0, 1), (86, .getfield 40, 3), (89, .iload_n 1, 1), (90, .bipush 8, 2), (92, .imul, 1), (93, .iload_n 2, 1), (94, .iadd, 1), (95, .aload_n 0, 1), (96, .getfield 69, 3), (99, .iastore, 1), (100, .goto 50, 3)] = true ∧ dOk cX8_join [(12, .aload_n 0, 1), (13, .aload_n 0, 1), (14, .getfield 43, 3), (17, .aload_n 0, 1), (18, .getfield 69, 3), (21, .iconst 2, 1), (22, .imul, 1), (23, .invokestatic 83, 3), (26, .putfield 43, 3), (29, .aload_n 0, 1), (30, .aload_n 0, 1), (31, .getfield 46, 3), (34, .aload_n 0, 1), (35, .getfield 69, 3), (38, .iconst 2, 1), (39, .imul, 1), (40, .invokestatic 83, 3), (43, .putfield 46, 3)] = true := by decide +kernel
theorem dX8_join_0 : decode cX8_join 0 = .ok (.aload_n 0, 1) := dr9 dk9_dX8_join_0_0.1 0 (0, .aload_n 0, 1) rfl
theorem dX8_join_1 : decode cX8_join 1 = .ok (.getfield 69, 3) := dr9 dk9_dX8_join_0_0.1 1 (1, .getfield 69, 3) rfl
theorem dX8_join_4 : decode cX8_join 4 = .ok (.aload_n 0, 1) := dr9 dk9_dX8_join_0_0.1 2 (4, .aload_n 0, 1) rfl
theorem dX8_join_5 : decode cX8_join 5 = .ok (.getfield 43, 3) := dr9 dk9_dX8_join_0_0.1 3 (5, .getfield 43, 3) rfl
theorem dX8_join_8 : decode cX8_join 8 = .ok (.arraylength, 1) := dr9 dk9_dX8_join_0_0.1 4 (8, .arraylength, 1) rfl
theorem dX8_join_9 : decode cX8_join 9 = .ok (.if_icmp .lt 37, 3) := dr9 dk9_dX8_join_0_0.1 5 (9, .if_icmp .lt 37, 3) rfl
theorem dX8_join_46 : decode cX8_join 46 = .ok (.aload_n 0, 1) := dr9 dk9_dX8_join_0_0.1 6 (46, .aload_n 0, 1) rfl
theorem dX8_join_47 : decode cX8_join 47 = .ok (.getfield 43, 3) := dr9 dk9_dX8_join_0_0.1 7 (47, .getfield 43, 3) rfl
theorem dX8_join_50 : decode cX8_join 50 = .ok (.aload_n 0, 1) := dr9 dk9_dX8_join_0_0.1 8 (50, .aload_n 0, 1) rfl
theorem dX8_join_51 : decode cX8_join 51 = .ok (.getfield 69, 3) := dr9 dk9_dX8_join_0_0.1 9 (51, .getfield 69, 3) rfl
theorem dX8_join_54 : decode cX8_join 54 = .ok (.iload_n 3, 1) := dr9 dk9_dX8_join_0_0.1 10 (54, .iload_n 3, 1) rfl
theorem dX8_join_55 : decode cX8_join 55 = .ok (.iastore, 1) := dr9 dk9_dX8_join_0_0.1 11 (55, .iastore, 1) rfl
theorem dX8_join_56 : decode cX8_join 56 = .ok (.aload_n 0, 1) := dr9 dk9_dX8_join_0_0.1 12 (56, .aload_n 0, 1) rfl
theorem dX8_join_57 : decode cX8_join 57 = .ok (.getfield 46, 3) := dr9 dk9_dX8_join_0_0.1 13 (57, .getfield 46, 3) rfl
theorem dX8_join_60 : decode cX8_join 60 = .ok (.aload_n 0, 1) := dr9 dk9_dX8_join_0_0.1 14 (60, .aload_n 0, 1) rfl
theorem dX8_join_61 : decode cX8_join 61 = .ok (.getfield 69, 3) := dr9 dk9_dX8_join_0_0.1 15 (61, .getfield 69, 3) rfl
theorem dX8_join_64 : decode cX8_join 64 = .ok (.iconst (-1), 1) := dr9 dk9_dX8_join_0_0.1 16 (64, .iconst (-1), 1) rfl
theorem dX8_join_65 : decode cX8_join 65 = .ok (.iastore, 1) := dr9 dk9_dX8_join_0_0.1 17 (65, .iastore, 1) rfl
theorem dX8_join_66 : decode cX8_join 66 = .ok (.aload_n 0, 1) := dr9 dk9_dX8_join_0_0.1 18 (66, .aload_n 0, 1) rfl
theorem dX8_join_67 : decode cX8_join 67 = .ok (.getfield 40, 3) := dr9 dk9_dX8_join_0_0.1 19 (67, .getfield 40, 3) rfl
theorem dX8_join_70 : decode cX8_join 70 = .ok (.iload_n 1, 1) := dr9 dk9_dX8_join_0_0.1 20 (70, .iload_n 1, 1) rfl
theorem dX8_join_71 : decode cX8_join 71 = .ok (.bipush 8, 2) := dr9 dk9_dX8_join_0_0.1 21 (71, .bipush 8, 2) rfl
theorem dX8_join_73 : decode cX8_join 73 = .ok (.imul, 1) := dr9 dk9_dX8_join_0_0.1 22 (73, .imul, 1) rfl
theorem dX8_join_74 : decode cX8_join 74 = .ok (.iload_n 2, 1) := dr9 dk9_dX8_join_0_0.1 23 (74, .iload_n 2, 1) rfl
theorem dX8_join_75 : decode cX8_join 75 = .ok (.iadd, 1) := dr9 dk9_dX8_join_0_0.2.1 0 (75, .iadd, 1) rfl
theorem dX8_join_76 : decode cX8_join 76 = .ok (.iaload, 1) := dr9 dk9_dX8_join_0_0.2.1 1 (76, .iaload, 1) rfl
theorem dX8_join_77 : decode cX8_join 77 = .ok (.istore 4, 2) := dr9 dk9_dX8_join_0_0.2.1 2 (77, .istore 4, 2) rfl
theorem dX8_join_79 : decode cX8_join 79 = .ok (.iload 4, 2) := dr9 dk9_dX8_join_0_0.2.1 3 (79, .iload 4, 2) rfl
theorem dX8_join_81 : decode cX8_join 81 = .ok (.iconst (-1), 1) := dr9 dk9_dX8_join_0_0.2.1 4 (81, .iconst (-1), 1) rfl
theorem dX8_join_82 : decode cX8_join 82 = .ok (.if_icmp .ne 21, 3) := dr9 dk9_dX8_join_0_0.2.1 5 (82, .if_icmp .ne 21, 3) rfl
theorem dX8_join_103 : decode cX8_join 103 = .ok (.iconst 0, 1) := dr9 dk9_dX8_join_0_0.2.1 6 (103, .iconst 0, 1) rfl
theorem dX8_join_104 : decode cX8_join 104 = .ok (.istore 5, 2) := dr9 dk9_dX8_join_0_0.2.1 7 (104, .istore 5, 2) rfl
theorem dX8_join_106 : decode cX8_join 106 = .ok (.iload 5, 2) := dr9 dk9_dX8_join_0_0.2.1 8 (106, .iload 5, 2) rfl
theorem dX8_join_108 : decode cX8_join 108 = .ok (.bipush 24, 2) := dr9 dk9_dX8_join_0_0.2.1 9 (108, .bipush 24, 2) rfl
theorem dX8_join_110 : decode cX8_join 110 = .ok (.if_icmp .ge 29, 3) := dr9 dk9_dX8_join_0_0.2.1 10 (110, .if_icmp .ge 29, 3) rfl
theorem dX8_join_139 : decode cX8_join 139 = .ok (.aload_n 0, 1) := dr9 dk9_dX8_join_0_0.2.1 11 (139, .aload_n 0, 1) rfl
theorem dX8_join_140 : decode cX8_join 140 = .ok (.getfield 46, 3) := dr9 dk9_dX8_join_0_0.2.1 12 (140, .getfield 46, 3) rfl
theorem dX8_join_143 : decode cX8_join 143 = .ok (.iload 4, 2) := dr9 dk9_dX8_join_0_0.2.1 13 (143, .iload 4, 2) rfl
theorem dX8_join_145 : decode cX8_join 145 = .ok (.aload_n 0, 1) := dr9 dk9_dX8_join_0_0.2.1 14 (145, .aload_n 0, 1) rfl
theorem dX8_join_146 : decode cX8_join 146 = .ok (.getfield 69, 3) := dr9 dk9_dX8_join_0_0.2.1 15 (146, .getfield 69, 3) rfl
theorem dX8_join_149 : decode cX8_join 149 = .ok (.iastore, 1) := dr9 dk9_dX8_join_0_0.2.1 16 (149, .iastore, 1) rfl
theorem dX8_join_150 : decode cX8_join 150 = .ok (.aload_n 0, 1) := dr9 dk9_dX8_join_0_0.2.1 17 (150, .aload_n 0, 1) rfl
theorem dX8_join_151 : decode cX8_join 151 = .ok (.dup, 1) := dr9 dk9_dX8_join_0_0.2.1 18 (151, .dup, 1) rfl
theorem dX8_join_152 : decode cX8_join 152 = .ok (.getfield 69, 3) := dr9 dk9_dX8_join_0_0.2.1 19 (152, .getfield 69, 3) rfl
theorem dX8_join_155 : decode cX8_join 155 = .ok (.iconst 1, 1) := dr9 dk9_dX8_join_0_0.2.1 20 (155, .iconst 1, 1) rfl
theorem dX8_join_156 : decode cX8_join 156 = .ok (.iadd, 1) := dr9 dk9_dX8_join_0_0.2.1 21 (156, .iadd, 1) rfl
theorem dX8_join_157 : decode cX8_join 157 = .ok (.putfield 69, 3) := dr9 dk9_dX8_join_0_0.2.1 22 (157, .putfield 69, 3) rfl
theorem dX8_join_160 : decode cX8_join 160 = .ok (.return_, 1) := dr9 dk9_dX8_join_0_0.2.1 23 (160, .return_, 1) rfl
theorem dX8_join_113 : decode cX8_join 113 = .ok (.aload_n 0, 1) := dr9 dk9_dX8_join_0_0.2.2.1 0 (113, .aload_n 0, 1) rfl
theorem dX8_join_114 : decode cX8_join 114 = .ok (.getfield 46, 3) := dr9 dk9_dX8_join_0_0.2.2.1 1 (114, .getfield 46, 3) rfl
theorem dX8_join_117 : decode cX8_join 117 = .ok (.iload 4, 2) := dr9 dk9_dX8_join_0_0.2.2.1 2 (117, .iload 4, 2) rfl
theorem dX8_join_119 : decode cX8_join 119 = .ok (.iaload, 1) := dr9 dk9_dX8_join_0_0.2.2.1 3 (119, .iaload, 1) rfl
theorem dX8_join_120 : decode cX8_join 120 = .ok (.iconst (-1), 1) := dr9 dk9_dX8_join_0_0.2.2.1 4 (120, .iconst (-1), 1) rfl
theorem dX8_join_121 : decode cX8_join 121 = .ok (.if_icmp .eq 18, 3) := dr9 dk9_dX8_join_0_0.2.2.1 5 (121, .if_icmp .eq 18, 3) rfl
theorem dX8_join_124 : decode cX8_join 124 = .ok (.aload_n 0, 1) := dr9 dk9_dX8_join_0_0.2.2.1 6 (124, .aload_n 0, 1) rfl
theorem dX8_join_125 : decode cX8_join 125 = .ok (.getfield 46, 3) := dr9 dk9_dX8_join_0_0.2.2.1 7 (125, .getfield 46, 3) rfl
theorem dX8_join_128 : decode cX8_join 128 = .ok (.iload 4, 2) := dr9 dk9_dX8_join_0_0.2.2.1 8 (128, .iload 4, 2) rfl
theorem dX8_join_130 : decode cX8_join 130 = .ok (.iaload, 1) := dr9 dk9_dX8_join_0_0.2.2.1 9 (130, .iaload, 1) rfl
theorem dX8_join_131 : decode cX8_join 131 = .ok (.istore 4, 2) := dr9 dk9_dX8_join_0_0.2.2.1 10 (131, .istore 4, 2) rfl
theorem dX8_join_133 : decode cX8_join 133 = .ok (.iinc 5 1, 3) := dr9 dk9_dX8_join_0_0.2.2.1 11 (133, .iinc 5 1, 3) rfl
theorem dX8_join_136 : decode cX8_join 136 = .ok (.goto (-30), 3) := dr9 dk9_dX8_join_0_0.2.2.1 12 (136, .goto (-30), 3) rfl
theorem dX8_join_85 : decode cX8_join 85 = .ok (.aload_n 0, 1) := dr9 dk9_dX8_join_0_0.2.2.1 13 (85, .aload_n 0, 1) rfl
theorem dX8_join_86 : decode cX8_join 86 = .ok (.getfield 40, 3) := dr9 dk9_dX8_join_0_0.2.2.1 14 (86, .getfield 40, 3) rfl
theorem dX8_join_89 : decode cX8_join 89 = .ok (.iload_n 1, 1) := dr9 dk9_dX8_join_0_0.2.2.1 15 (89, .iload_n 1, 1) rfl
theorem dX8_join_90 : decode cX8_join 90 = .ok (.bipush 8, 2) := dr9 dk9_dX8_join_0_0.2.2.1 16 (90, .bipush 8, 2) rfl
theorem dX8_join_92 : decode cX8_join 92 = .ok (.imul, 1) := dr9 dk9_dX8_join_0_0.2.2.1 17 (92, .imul, 1) rfl
theorem dX8_join_93 : decode cX8_join 93 = .ok (.iload_n 2, 1) := dr9 dk9_dX8_join_0_0.2.2.1 18 (93, .iload_n 2, 1) rfl
theorem dX8_join_94 : decode cX8_join 94 = .ok (.iadd, 1) := dr9 dk9_dX8_join_0_0.2.2.1 19 (94, .iadd, 1) rfl
theorem dX8_join_95 : decode cX8_join 95 = .ok (.aload_n 0, 1) := dr9 dk9_dX8_join_0_0.2.2.1 20 (95, .aload_n 0, 1) rfl
theorem dX8_join_96 : decode cX8_join 96 = .ok (.getfield 69, 3) := dr9 dk9_dX8_join_0_0.2.2.1 21 (96, .getfield 69, 3) rfl
theorem dX8_join_99 : decode cX8_join 99 = .ok (.iastore, 1) := dr9 dk9_dX8_join_0_0.2.2.1 22 (99, .iastore, 1) rfl
theorem dX8_join_100 : decode cX8_join 100 = .ok (.goto 50, 3) := dr9 dk9_dX8_join_0_0.2.2.1 23 (100, .goto 50, 3) rfl
theorem dX8_join_12 : decode cX8_join 12 = .ok (.aload_n 0, 1) := dr9 dk9_dX8_join_0_0.2.2.2 0 (12, .aload_n 0, 1) rfl
theorem dX8_join_13 : decode cX8_join 13 = .ok (.aload_n 0, 1) := dr9 dk9_dX8_join_0_0.2.2.2 1 (13, .aload_n 0, 1) rfl
theorem dX8_join_14 : decode cX8_join 14 = .ok (.getfield 43, 3) := dr9 dk9_dX8_join_0_0.2.2.2 2 (14, .getfield 43, 3) rfl
theorem dX8_join_17 : decode cX8_join 17 = .ok (.aload_n 0, 1) := dr9 dk9_dX8_join_0_0.2.2.2 3 (17, .aload_n 0, 1) rfl
theorem dX8_join_18 : decode cX8_join 18 = .ok (.getfield 69, 3) := dr9 dk9_dX8_join_0_0.2.2.2 4 (18, .getfield 69, 3) rfl
theorem dX8_join_21 : decode cX8_join 21 = .ok (.iconst 2, 1) := dr9 dk9_dX8_join_0_0.2.2.2 5 (21, .iconst 2, 1) rfl
theorem dX8_join_22 : decode cX8_join 22 = .ok (.imul, 1) := dr9 dk9_dX8_join_0_0.2.2.2 6 (22, .imul, 1) rfl
theorem dX8_join_23 : decode cX8_join 23 = .ok (.invokestatic 83, 3) := dr9 dk9_dX8_join_0_0.2.2.2 7 (23, .invokestatic 83, 3) rfl
theorem dX8_join_26 : decode cX8_join 26 = .ok (.putfield 43, 3) := dr9 dk9_dX8_join_0_0.2.2.2 8 (26, .putfield 43, 3) rfl
theorem dX8_join_29 : decode cX8_join 29 = .ok (.aload_n 0, 1) := dr9 dk9_dX8_join_0_0.2.2.2 9 (29, .aload_n 0, 1) rfl
theorem dX8_join_30 : decode cX8_join 30 = .ok (.aload_n 0, 1) := dr9 dk9_dX8_join_0_0.2.2.2 10 (30, .aload_n 0, 1) rfl
theorem dX8_join_31 : decode cX8_join 31 = .ok (.getfield 46, 3) := dr9 dk9_dX8_join_0_0.2.2.2 11 (31, .getfield 46, 3) rfl
theorem dX8_join_34 : decode cX8_join 34 = .ok (.aload_n 0, 1) := dr9 dk9_dX8_join_0_0.2.2.2 12 (34, .aload_n 0, 1) rfl
theorem dX8_join_35 : decode cX8_join 35 = .ok (.getfield 69, 3) := dr9 dk9_dX8_join_0_0.2.2.2 13 (35, .getfield 69, 3) rfl
theorem dX8_join_38 : decode cX8_join 38 = .ok (.iconst 2, 1) := dr9 dk9_dX8_join_0_0.2.2.2 14 (38, .iconst 2, 1) rfl
theorem dX8_join_39 : decode cX8_join 39 = .ok (.imul, 1) := dr9 dk9_dX8_join_0_0.2.2.2 15 (39, .imul, 1) rfl
theorem dX8_join_40 : decode cX8_join 40 = .ok (.invokestatic 83, 3) := dr9 dk9_dX8_join_0_0.2.2.2 16 (40, .invokestatic 83, 3) rfl
theorem dX8_join_43 : decode cX8_join 43 = .ok (.putfield 46, 3) := dr9 dk9_dX8_join_0_0.2.2.2 17 (43, .putfield 46, 3) rfl
abbrev r_x_join (Z : XZ) : Room := { frames := 2, cells := zcc Z, slots := zss Z, locals := 62 }
abbrev q_x_join (D : va_G) (ks : KS) (ad : Nat → Nat) (kk : Nat → ClassId) (V : Vf) (L : Lf) (Z : XZ) (p0 : Int32) (p1 : Int32) (p2 : Int32) (A : Nat → Prop) : Array Value → State → Outcome → State → Prop := qZv D (fun (u : Vf × Lf × XZ) => rgd bX u.1 ∧ agr [(3, 15)] [30, 31, 32] V u.1 ∧ u.2.1 = L ∧ ZL Z u.2.2 ∧ (JN V u.1 Z u.2.2 (8 * Int32.toNatClampNeg p0 + Int32.toNatClampNeg p1))) (fun u => xw ad kk u.1 u.2.1 u.2.2) (fun u => xty kk u.2.2) (fun u => zcc Z - zcc u.2.2) (fun u => zss Z - zss u.2.2) A
set_option maxHeartbeats 4000000 in
set_option maxRecDepth 100000 in
theorem x_join (l : Launch) (D : va_G) (ks : KS) (sz : Nat) (ad : Nat → Nat) (kk : Nat → ClassId) (V : Vf) (L : Lf) (Z : XZ) (p0 : Int32) (p1 : Int32) (p2 : Int32) (hMV : rgd bX V) (rg_p0 : 0 ≤ p0.toInt ∧ p0.toInt ≤ 299) (rg_p1 : 0 ≤ p1.toInt ∧ p1.toInt ≤ 7) (sl : SL V Z) (lnq : LN Z.ln) (hlc : (V 3 15).toInt ≤ 250000) (hob : p0.toInt < (V 3 13).toInt)  : Met l yX8_join (Cond.code yX8_join cX8_join 6 none :: GW) (r_x_join Z) (va_Pc [.ref (ad 3), .int p0, .int p1, .int p2] (gp D ks (xw ad kk V L Z) (xty kk Z) sz)) (q_x_join D ks ad kk V L Z p0 p1 p2 (va_A (xw ad kk V L Z) sz)) (zcc Z) (zss Z) (va_A (xw ad kk V L Z) sz) := by
  refine g_met (q_x_join D ks ad kk V L Z p0 p1 p2) (by decide) (Nat.le_of_ble_eq_true rfl) ?_
  intro p e s m below meth c A ls H locs hx hb hr hml hown hg hlocks hin hnw hgk hP hK hD hS hA hl
  have hown : s.vm.findClass RX8 = some m.cls := hown
  have hl : lv_has ls 6 [(0, .ref (ad 3)), (1, .int p0), (2, .int p1), (3, .int p2)] := hl
  have hP : va_P D vwCl (xw ad kk V L Z) H := hP
  have hD : va_D A (xw ad kk V L Z) := hD
  have hK : va_K D vwCl (xty kk Z) s := hK
  have agV : agr [(3, 15)] [30, 31, 32] V V := agr.rf
  have zoZ : ZL Z Z := ZL.rf
  refine W.know (fun ka kb => ?_)
  refine W.tight (k := zcc Z - zcc Z) (n := zss Z - zss Z) (by omega) (by omega) ?_
  have r1 : 0 ≤ ((V 3 15)).toInt ∧ ((V 3 15)).toInt ≤ 262144 := hMV 3 15
  have r2 : 0 ≤ ((V 3 13)).toInt ∧ ((V 3 13)).toInt ≤ 300 := hMV 3 13
  have hll := sl.2.1
  refine lv_aload_n hx hb dX8_join_0 rfl (lv_at hl 0 rfl) ?_
  refine va_get (D := D) (ci := 8) (v := .int (V 3 15)) (fs := (xfStock ad V L Z)) (C := RX8) (T := TX8) (N := 16) hx hb hg inX8 hown hK hP 3 xgStock rfl 15 (by decide) (hg _ w394) (fun _ h9 => h9) rfl dX8_join_1 ?_
  refine lv_aload_n hx hb dX8_join_4 rfl (lv_at hl 0 rfl) ?_
  refine va_get (D := D) (ci := 8) (v := .ref Z.l1) (fs := (xfStock ad V L Z)) (C := RX8) (T := TX8) (N := 16) hx hb hg inX8 hown hK hP 3 xgStock rfl 10 (by decide) (hg _ w388) (fun _ h9 => h9) rfl dX8_join_5 ?_
  refine va_alen (D := D) (v := nI (Z.ln)) hx hb hK hP 28 21 rfl rfl rfl dX8_join_8 ?_
  refine lv_topi (fun z4 ez4 => ?_)
  have r5 : z4.toInt = ((Z.ln : Nat) : Int) := by rw [ez4]; exact nI_toInt (by omega)
  refine lv_icmp_lt (tgt := 46) hx hb dX8_join_9 (by decide) (fun c6 => ?_) (fun c6 => ?_)
  · skip
    have f7 : ((V 3 15)).toInt < z4.toInt := b_lt rfl rfl c6
    have slx := sl
    have lnx := lnq
    have hltz : (V 3 15).toInt < (Z.ln : Int) := by (first | exact om_74393bacf057 r5 f7 | omega)
    have kl := i_clamp (x := V 3 15) rfl (by (first | exact om_eafa9039069c r1.1 | omega))
    have kp0 := i_clamp (x := p0) rfl (by (first | exact om_eafa9039069c rg_p0.1 | omega))
    have kp1 := i_clamp (x := p1) rfl (by (first | exact om_eafa9039069c rg_p1.1 | omega))
    have hch := slx.2.2.1 (Int32.toNatClampNeg p0) (Int32.toNatClampNeg p1) (by omega) (by omega)
    refine lv_aload_n hx hb dX8_join_46 rfl (lv_at hl 0 rfl) ?_
    refine va_get (D := D) (ci := 8) (v := .ref Z.l1) (fs := (xfStock ad V L Z)) (C := RX8) (T := TX8) (N := 16) hx hb hg inX8 hown hK hP 3 xgStock rfl 10 (by decide) (hg _ w388) (fun _ h9 => h9) rfl dX8_join_47 ?_
    refine lv_aload_n hx hb dX8_join_50 rfl (lv_at hl 0 rfl) ?_
    refine va_get (D := D) (ci := 8) (v := .int (V 3 15)) (fs := (xfStock ad V L Z)) (C := RX8) (T := TX8) (N := 16) hx hb hg inX8 hown hK hP 3 xgStock rfl 15 (by decide) (hg _ w394) (fun _ h9 => h9) rfl dX8_join_51 ?_
    refine lv_iload_n hx hb dX8_join_54 rfl (lv_at hl 3 rfl) ?_
    refine va_iast (D := D) (i := (V 3 15)) (x := p2) hx hb hK hP hD hS 28 21 rfl rfl (i_in (a := ((V 3 15)).toInt) rfl (by omega)) dX8_join_55 (fun H locs hP hD hS => ?_)
    obtain ⟨V8, hV8⟩ : ∃ z, z = up2 V 31 (Int32.toNatClampNeg (V 3 15)) p2 := ⟨_, rfl⟩
    have ew9 : (xw ad kk V L Z).set 28 (Z.l1, .inl (Z.k1, Z.ln, .inl (upd (V 31) (Int32.toNatClampNeg (V 3 15)) p2))) = xw ad kk V8 L Z := by rw [hV8]; exact xw_ss (by decide) rfl (xb_si (by decide))
    have hP : va_P D vwCl (xw ad kk V8 L Z) H := by rw [← ew9]; exact hP
    have hD : va_D A (xw ad kk V8 L Z) := by rw [← ew9]; exact hD
    have hMV8 : rgd bX V8 := hMV.put hV8 (i_full _)
    have agV8 : agr [(3, 15)] [30, 31, 32] V V8 := agV.up hV8 rfl
    refine lv_aload_n hx hb dX8_join_56 rfl (lv_at hl 0 rfl) ?_
    refine va_get (D := D) (ci := 8) (v := .ref Z.l2) (fs := (xfStock ad V8 L Z)) (C := RX8) (T := TX8) (N := 16) hx hb hg inX8 hown hK hP 3 xgStock rfl 11 (by decide) (hg _ w389) (fun _ h9 => h9) rfl dX8_join_57 ?_
    refine lv_aload_n hx hb dX8_join_60 rfl (lv_at hl 0 rfl) ?_
    refine va_get (D := D) (ci := 8) (v := .int (V8 3 15)) (fs := (xfStock ad V8 L Z)) (C := RX8) (T := TX8) (N := 16) hx hb hg inX8 hown hK hP 3 xgStock rfl 15 (by decide) (hg _ w394) (fun _ h9 => h9) rfl dX8_join_61 ?_
    refine g_top (v := (V 3 15)) (up2_o hV8 (by decide)) ?_
    refine lv_iconst (v := (-1)) hx hb dX8_join_64 (by decide) ?_
    refine va_iast (D := D) (i := (V 3 15)) (x := (-1)) hx hb hK hP hD hS 29 22 rfl rfl (i_in (a := ((V 3 15)).toInt) rfl (by omega)) dX8_join_65 (fun H locs hP hD hS => ?_)
    obtain ⟨V10, hV10⟩ : ∃ z, z = up2 V8 32 (Int32.toNatClampNeg (V 3 15)) (-1) := ⟨_, rfl⟩
    have ew11 : (xw ad kk V8 L Z).set 29 (Z.l2, .inl (Z.k2, Z.ln, .inl (upd (V8 32) (Int32.toNatClampNeg (V 3 15)) (-1)))) = xw ad kk V10 L Z := by rw [hV10]; exact xw_ss (by decide) rfl (xb_si (by decide))
    have hP : va_P D vwCl (xw ad kk V10 L Z) H := by rw [← ew11]; exact hP
    have hD : va_D A (xw ad kk V10 L Z) := by rw [← ew11]; exact hD
    have hMV10 : rgd bX V10 := hMV8.put hV10 (show (-1) ≤ Int32.toInt (-1) ∧ Int32.toInt (-1) ≤ 262143 from by decide)
    have agV10 : agr [(3, 15)] [30, 31, 32] V V10 := agV8.up hV10 rfl
    refine lv_aload_n hx hb dX8_join_66 rfl (lv_at hl 0 rfl) ?_
    refine va_get (D := D) (ci := 8) (v := .ref (ad 27)) (fs := (xfStock ad V10 L Z)) (C := RX8) (T := TX8) (N := 16) hx hb hg inX8 hown hK hP 3 xgStock rfl 9 (by decide) (hg _ w387) (fun _ h9 => h9) rfl dX8_join_67 ?_
    refine lv_iload_n hx hb dX8_join_70 rfl (lv_at hl 1 rfl) ?_
    refine lv_bipush (v := 8) hx hb dX8_join_71 (by decide) ?_
    refine lv_imul hx hb dX8_join_73 ?_
    refine lv_topi (fun z12 ez12 => ?_)
    have hz12 : z12.toInt = p0.toInt * 8 := i_mul ez12 rfl (by decide) (by (first | exact om_d8eca449dd89 rg_p0.1 rg_p0.2 | omega))
    refine lv_iload_n hx hb dX8_join_74 rfl (lv_at hl 2 rfl) ?_
    refine lv_iadd hx hb dX8_join_75 ?_
    refine lv_topi (fun z13 ez13 => ?_)
    have hz13 : z13.toInt = z12.toInt + p1.toInt := i_add ez13 rfl rfl (by (first | exact om_582758b7b1c9 rg_p0.1 rg_p0.2 rg_p1.1 rg_p1.2 hz12 | omega))
    refine va_iald (D := D) (i := z13) hx hb hK hP 27 20 rfl rfl (i_in (a := z13.toInt) rfl (by (first | exact om_1416c74478ee rg_p0.1 rg_p0.2 rg_p1.1 rg_p1.2 hz12 hz13 | omega))) dX8_join_76 ?_
    refine g_top (v := (V 30 (Int32.toNatClampNeg z13))) ((up2_o hV10 (by decide)).trans (up2_o hV8 (by decide))) ?_
    have r14 : (-1) ≤ ((V 30 (Int32.toNatClampNeg z13))).toInt ∧ ((V 30 (Int32.toNatClampNeg z13))).toInt ≤ 262143 := hMV 30 (Int32.toNatClampNeg z13)
    refine lv_istore (lv' := [(4, .int (V 30 (Int32.toNatClampNeg z13))), (0, .ref (ad 3)), (1, .int p0), (2, .int p1), (3, .int p2)]) hx hb dX8_join_77 hl (by decide) rfl (fun ls hl => ?_)
    have kzz := i_clamp (x := z13) rfl (by (first | exact om_75abbf7b0b1b rg_p0.1 rg_p1.1 hz12 hz13 | omega))
    have hpl : Int32.toNatClampNeg z13 = 8 * Int32.toNatClampNeg p0 + Int32.toNatClampNeg p1 := by (first | exact om_19f77980e03c kp0 kp1 hz12 hz13 kzz | omega)
    have hch2 := hch
    rw [← hpl] at hch2
    refine lv_iload hx hb dX8_join_79 (lv_at hl 0 rfl) ?_
    refine lv_iconst (v := (-1)) hx hb dX8_join_81 (by decide) ?_
    refine lv_icmp_ne (tgt := 103) hx hb dX8_join_82 (by decide) (fun c15 => ?_) (fun c15 => ?_)
    · skip
      have f16 : ((V 30 (Int32.toNatClampNeg z13))).toInt ≠ (-1) := b_neq rfl (by decide) c15
      refine lv_iconst (v := 0) hx hb dX8_join_103 (by decide) ?_
      refine lv_istore (lv' := [(5, .int 0), (4, .int (V 30 (Int32.toNatClampNeg z13))), (0, .ref (ad 3)), (1, .int p0), (2, .int p1), (3, .int p2)]) hx hb dX8_join_104 hl (by decide) rfl (fun ls hl => ?_)
      have lp19 : ∀ (fulp19 : Nat) (y17 : Int32) (y18 : Int32) (H : Heap) (locs : List Loc) (ls : Array Slot), 0 ≤ y17.toInt ∧ y17.toInt ≤ 24 → 0 ≤ y18.toInt ∧ y18.toInt ≤ 262143 → y18.toInt < (V 3 15).toInt → 24 - y17.toInt < (fulp19 : Int) → va_P D vwCl (xw ad kk V10 L Z) H → va_D A (xw ad kk V10 L Z) → va_S A s.heap H locs → lv_has ls 6 [(5, .int y17), (4, .int y18), (0, .ref (ad 3)), (1, .int p0), (2, .int p1), (3, .int p2)] → W p l e (r_x_join Z) s m ([.ref (ad 3), .int p0, .int p1, .int p2] : List Value).toArray below meth c H locs (zcc Z - zcc Z) (zss Z - zss Z) (MQ below (q_x_join D ks ad kk V L Z p0 p1 p2 A) ([.ref (ad 3), .int p0, .int p1, .int p2] : List Value).toArray s (zcc Z) (zss Z) A) (F0 m 106 ls []) := by
        intro fulp19
        induction fulp19 with
        | zero =>
          intro y17 y18 H locs ls klp19_0 klp19_1 xlp19_0 hn  hP hD hS hl
          exfalso; (first | exact om_9386ef0df612 klp19_0.2 hn | omega)
        | succ fulp19 ihlp19 =>
          intro y17 y18 H locs ls klp19_0 klp19_1 xlp19_0 hn  hP hD hS hl
          refine lv_iload hx hb dX8_join_106 (lv_at hl 0 rfl) ?_
          refine lv_bipush (v := 24) hx hb dX8_join_108 (by decide) ?_
          refine lv_icmp_ge (tgt := 139) hx hb dX8_join_110 (by decide) (fun c20 => ?_) (fun c20 => ?_)
          · skip
            have f21 : 24 ≤ y17.toInt := b_le (by decide) rfl c20
            refine lv_aload_n hx hb dX8_join_139 rfl (lv_at hl 2 rfl) ?_
            refine va_get (D := D) (ci := 8) (v := .ref Z.l2) (fs := (xfStock ad V10 L Z)) (C := RX8) (T := TX8) (N := 16) hx hb hg inX8 hown hK hP 3 xgStock rfl 11 (by decide) (hg _ w389) (fun _ h9 => h9) rfl dX8_join_140 ?_
            refine lv_iload hx hb dX8_join_143 (lv_at hl 1 rfl) ?_
            refine lv_aload_n hx hb dX8_join_145 rfl (lv_at hl 2 rfl) ?_
            refine va_get (D := D) (ci := 8) (v := .int (V10 3 15)) (fs := (xfStock ad V10 L Z)) (C := RX8) (T := TX8) (N := 16) hx hb hg inX8 hown hK hP 3 xgStock rfl 15 (by decide) (hg _ w394) (fun _ h9 => h9) rfl dX8_join_146 ?_
            refine g_top (v := (V 3 15)) ((up2_o hV10 (by decide)).trans (up2_o hV8 (by decide))) ?_
            refine va_iast (D := D) (i := y18) (x := (V 3 15)) hx hb hK hP hD hS 29 22 rfl rfl (i_in (a := y18.toInt) rfl (by omega)) dX8_join_149 (fun H locs hP hD hS => ?_)
            obtain ⟨V22, hV22⟩ : ∃ z, z = up2 V10 32 (Int32.toNatClampNeg y18) (V 3 15) := ⟨_, rfl⟩
            have ew23 : (xw ad kk V10 L Z).set 29 (Z.l2, .inl (Z.k2, Z.ln, .inl (upd (V10 32) (Int32.toNatClampNeg y18) (V 3 15)))) = xw ad kk V22 L Z := by rw [hV22]; exact xw_ss (by decide) rfl (xb_si (by decide))
            have hP : va_P D vwCl (xw ad kk V22 L Z) H := by rw [← ew23]; exact hP
            have hD : va_D A (xw ad kk V22 L Z) := by rw [← ew23]; exact hD
            have hMV22 : rgd bX V22 := hMV10.put hV22 (show (-1) ≤ ((V 3 15)).toInt ∧ ((V 3 15)).toInt ≤ 262143 from by (first | exact om_ca8123c7c681 hlc klp19_1.1 xlp19_0 | omega))
            have agV22 : agr [(3, 15)] [30, 31, 32] V V22 := agV10.up hV22 rfl
            refine lv_aload_n hx hb dX8_join_150 rfl (lv_at hl 2 rfl) ?_
            refine lv_dup hx hb dX8_join_151 rfl ?_
            refine va_get (D := D) (ci := 8) (v := .int (V22 3 15)) (fs := (xfStock ad V22 L Z)) (C := RX8) (T := TX8) (N := 16) hx hb hg inX8 hown hK hP 3 xgStock rfl 15 (by decide) (hg _ w394) (fun _ h9 => h9) rfl dX8_join_152 ?_
            refine g_top (v := (V 3 15)) ((up2_o hV22 (by decide)).trans ((up2_o hV10 (by decide)).trans (up2_o hV8 (by decide)))) ?_
            refine lv_iconst (v := 1) hx hb dX8_join_155 (by decide) ?_
            refine lv_iadd hx hb dX8_join_156 ?_
            refine lv_topi (fun z24 ez24 => ?_)
            have hz24 : z24.toInt = ((V 3 15)).toInt + 1 := i_add ez24 rfl (by decide) (by (first | exact om_f92aeb5a09ea hlc klp19_1.1 xlp19_0 | omega))
            refine va_put (D := D) (ci := 8) (v := .int z24) (ty := tyX8 15) (fs := (xfStock ad V22 L Z)) (C := RX8) (T := TX8) (N := 16) hx hb hg inX8 tyX8 tyX8_ok nmX8 hown hK hP hD hS 3 xgStock rfl 15 (by decide) (hg _ w394) (fun _ h9 => h9) rfl (tyX8_ok 15 (by decide)) rfl rfl (Nat.le_of_ble_eq_true rfl) dX8_join_157 (fun H locs hP hD hS => ?_)
            obtain ⟨V25, hV25⟩ : ∃ z, z = up2 V22 3 15 z24 := ⟨_, rfl⟩
            have ew26 : (xw ad kk V22 L Z).set 3 ((ad 3), .inr (8, (xfStock ad V22 L Z).set 15 (.int z24))) = xw ad kk V25 L Z := by rw [hV25]; exact xw_ss (by decide) rfl (xb_si (by decide))
            have hP : va_P D vwCl (xw ad kk V25 L Z) H := by rw [← ew26]; exact hP
            have hD : va_D A (xw ad kk V25 L Z) := by rw [← ew26]; exact hD
            have hMV25 : rgd bX V25 := hMV22.put hV25 (show 0 ≤ z24.toInt ∧ z24.toInt ≤ 262144 from by (first | exact om_58c2777555e7 hlc klp19_1.1 xlp19_0 hz24 | omega))
            have agV25 : agr [(3, 15)] [30, 31, 32] V V25 := agV22.up hV25 rfl
            have pq27 : (V25 3 15).toInt = z24.toInt := congrArg Int32.toInt (up2_s hV25)
            have kq28 := i_clamp (x := y18) rfl (by (first | exact om_eafa9039069c klp19_1.1 | omega))
            have jn29 : JN V V25 Z Z (8 * Int32.toNatClampNeg p0 + Int32.toNatClampNeg p1) := JN.mk (l := Int32.toNatClampNeg (V 3 15)) slx lnx (by omega) (by omega) hV8 hV10 hV22 (by omega) hV25 (by omega) (Or.inr ⟨rfl, by omega, by rw [← hpl]; omega⟩)
            refine W.know (fun kr1 kr2 => ?_)
            refine W.widen (k := zcc Z) (n := zss Z) (Nat.sub_le _ _) (Nat.sub_le _ _) ?_
            exact W.vret hx hb hr (fun t ht hW => ⟨⟨(V25, L, Z), rfl, ⟨hMV25, agV25, rfl, zoZ, jn29⟩, ⟨by rw [ht]; exact hP, va_K.moved hW.alike hK, hD⟩, by rw [ht]; exact kr1, by rw [ht]; exact kr2⟩, hS.F ht⟩) hS.2.2 dX8_join_160
          · skip
            have f30 : y17.toInt < 24 := b_nle (by decide) rfl c20
            refine lv_aload_n hx hb dX8_join_113 rfl (lv_at hl 2 rfl) ?_
            refine va_get (D := D) (ci := 8) (v := .ref Z.l2) (fs := (xfStock ad V10 L Z)) (C := RX8) (T := TX8) (N := 16) hx hb hg inX8 hown hK hP 3 xgStock rfl 11 (by decide) (hg _ w389) (fun _ h9 => h9) rfl dX8_join_114 ?_
            refine lv_iload hx hb dX8_join_117 (lv_at hl 1 rfl) ?_
            refine va_iald (D := D) (i := y18) hx hb hK hP 29 22 rfl rfl (i_in (a := y18.toInt) rfl (by omega)) dX8_join_119 ?_
            have r31 : (-1) ≤ ((V10 32 (Int32.toNatClampNeg y18))).toInt ∧ ((V10 32 (Int32.toNatClampNeg y18))).toInt ≤ 262143 := hMV10 32 (Int32.toNatClampNeg y18)
            have kq32 := i_clamp (x := y18) rfl (by (first | exact om_eafa9039069c klp19_1.1 | omega))
            have hq33 : (V10 32 (Int32.toNatClampNeg y18)).toInt < (V 3 15).toInt := by have q := slx.2.2.2 (Int32.toNatClampNeg y18) (by omega); rw [up2_k hV10 (by omega), up2_o hV8 (by decide)]; omega
            refine lv_iconst (v := (-1)) hx hb dX8_join_120 (by decide) ?_
            refine lv_icmp_eq (tgt := 139) hx hb dX8_join_121 (by decide) (fun c34 => ?_) (fun c34 => ?_)
            · skip
              have f35 : ((V10 32 (Int32.toNatClampNeg y18))).toInt = (-1) := b_eq rfl (by decide) c34
              refine lv_aload_n hx hb dX8_join_139 rfl (lv_at hl 2 rfl) ?_
              refine va_get (D := D) (ci := 8) (v := .ref Z.l2) (fs := (xfStock ad V10 L Z)) (C := RX8) (T := TX8) (N := 16) hx hb hg inX8 hown hK hP 3 xgStock rfl 11 (by decide) (hg _ w389) (fun _ h9 => h9) rfl dX8_join_140 ?_
              refine lv_iload hx hb dX8_join_143 (lv_at hl 1 rfl) ?_
              refine lv_aload_n hx hb dX8_join_145 rfl (lv_at hl 2 rfl) ?_
              refine va_get (D := D) (ci := 8) (v := .int (V10 3 15)) (fs := (xfStock ad V10 L Z)) (C := RX8) (T := TX8) (N := 16) hx hb hg inX8 hown hK hP 3 xgStock rfl 15 (by decide) (hg _ w394) (fun _ h9 => h9) rfl dX8_join_146 ?_
              refine g_top (v := (V 3 15)) ((up2_o hV10 (by decide)).trans (up2_o hV8 (by decide))) ?_
              refine va_iast (D := D) (i := y18) (x := (V 3 15)) hx hb hK hP hD hS 29 22 rfl rfl (i_in (a := y18.toInt) rfl (by omega)) dX8_join_149 (fun H locs hP hD hS => ?_)
              obtain ⟨V36, hV36⟩ : ∃ z, z = up2 V10 32 (Int32.toNatClampNeg y18) (V 3 15) := ⟨_, rfl⟩
              have ew37 : (xw ad kk V10 L Z).set 29 (Z.l2, .inl (Z.k2, Z.ln, .inl (upd (V10 32) (Int32.toNatClampNeg y18) (V 3 15)))) = xw ad kk V36 L Z := by rw [hV36]; exact xw_ss (by decide) rfl (xb_si (by decide))
              have hP : va_P D vwCl (xw ad kk V36 L Z) H := by rw [← ew37]; exact hP
              have hD : va_D A (xw ad kk V36 L Z) := by rw [← ew37]; exact hD
              have hMV36 : rgd bX V36 := hMV10.put hV36 (show (-1) ≤ ((V 3 15)).toInt ∧ ((V 3 15)).toInt ≤ 262143 from by (first | exact om_ca8123c7c681 hlc klp19_1.1 xlp19_0 | omega))
              have agV36 : agr [(3, 15)] [30, 31, 32] V V36 := agV10.up hV36 rfl
              refine lv_aload_n hx hb dX8_join_150 rfl (lv_at hl 2 rfl) ?_
              refine lv_dup hx hb dX8_join_151 rfl ?_
              refine va_get (D := D) (ci := 8) (v := .int (V36 3 15)) (fs := (xfStock ad V36 L Z)) (C := RX8) (T := TX8) (N := 16) hx hb hg inX8 hown hK hP 3 xgStock rfl 15 (by decide) (hg _ w394) (fun _ h9 => h9) rfl dX8_join_152 ?_
              refine g_top (v := (V 3 15)) ((up2_o hV36 (by decide)).trans ((up2_o hV10 (by decide)).trans (up2_o hV8 (by decide)))) ?_
              refine lv_iconst (v := 1) hx hb dX8_join_155 (by decide) ?_
              refine lv_iadd hx hb dX8_join_156 ?_
              refine lv_topi (fun z38 ez38 => ?_)
              have hz38 : z38.toInt = ((V 3 15)).toInt + 1 := i_add ez38 rfl (by decide) (by (first | exact om_f92aeb5a09ea hlc klp19_1.1 xlp19_0 | omega))
              refine va_put (D := D) (ci := 8) (v := .int z38) (ty := tyX8 15) (fs := (xfStock ad V36 L Z)) (C := RX8) (T := TX8) (N := 16) hx hb hg inX8 tyX8 tyX8_ok nmX8 hown hK hP hD hS 3 xgStock rfl 15 (by decide) (hg _ w394) (fun _ h9 => h9) rfl (tyX8_ok 15 (by decide)) rfl rfl (Nat.le_of_ble_eq_true rfl) dX8_join_157 (fun H locs hP hD hS => ?_)
              obtain ⟨V39, hV39⟩ : ∃ z, z = up2 V36 3 15 z38 := ⟨_, rfl⟩
              have ew40 : (xw ad kk V36 L Z).set 3 ((ad 3), .inr (8, (xfStock ad V36 L Z).set 15 (.int z38))) = xw ad kk V39 L Z := by rw [hV39]; exact xw_ss (by decide) rfl (xb_si (by decide))
              have hP : va_P D vwCl (xw ad kk V39 L Z) H := by rw [← ew40]; exact hP
              have hD : va_D A (xw ad kk V39 L Z) := by rw [← ew40]; exact hD
              have hMV39 : rgd bX V39 := hMV36.put hV39 (show 0 ≤ z38.toInt ∧ z38.toInt ≤ 262144 from by (first | exact om_58c2777555e7 hlc klp19_1.1 xlp19_0 hz38 | omega))
              have agV39 : agr [(3, 15)] [30, 31, 32] V V39 := agV36.up hV39 rfl
              have pq41 : (V39 3 15).toInt = z38.toInt := congrArg Int32.toInt (up2_s hV39)
              have kq42 := i_clamp (x := y18) rfl (by (first | exact om_eafa9039069c klp19_1.1 | omega))
              have jn43 : JN V V39 Z Z (8 * Int32.toNatClampNeg p0 + Int32.toNatClampNeg p1) := JN.mk (l := Int32.toNatClampNeg (V 3 15)) slx lnx (by omega) (by omega) hV8 hV10 hV36 (by omega) hV39 (by omega) (Or.inr ⟨rfl, by omega, by rw [← hpl]; omega⟩)
              refine W.know (fun kr1 kr2 => ?_)
              refine W.widen (k := zcc Z) (n := zss Z) (Nat.sub_le _ _) (Nat.sub_le _ _) ?_
              exact W.vret hx hb hr (fun t ht hW => ⟨⟨(V39, L, Z), rfl, ⟨hMV39, agV39, rfl, zoZ, jn43⟩, ⟨by rw [ht]; exact hP, va_K.moved hW.alike hK, hD⟩, by rw [ht]; exact kr1, by rw [ht]; exact kr2⟩, hS.F ht⟩) hS.2.2 dX8_join_160
            · skip
              have f44 : ((V10 32 (Int32.toNatClampNeg y18))).toInt ≠ (-1) := b_neq rfl (by decide) c34
              refine lv_aload_n hx hb dX8_join_124 rfl (lv_at hl 2 rfl) ?_
              refine va_get (D := D) (ci := 8) (v := .ref Z.l2) (fs := (xfStock ad V10 L Z)) (C := RX8) (T := TX8) (N := 16) hx hb hg inX8 hown hK hP 3 xgStock rfl 11 (by decide) (hg _ w389) (fun _ h9 => h9) rfl dX8_join_125 ?_
              refine lv_iload hx hb dX8_join_128 (lv_at hl 1 rfl) ?_
              refine va_iald (D := D) (i := y18) hx hb hK hP 29 22 rfl rfl (i_in (a := y18.toInt) rfl (by omega)) dX8_join_130 ?_
              have kq45 := i_clamp (x := y18) rfl (by (first | exact om_eafa9039069c klp19_1.1 | omega))
              have hq46 : (V10 32 (Int32.toNatClampNeg y18)).toInt < (V 3 15).toInt := by have q := slx.2.2.2 (Int32.toNatClampNeg y18) (by omega); rw [up2_k hV10 (by omega), up2_o hV8 (by decide)]; omega
              refine lv_istore (lv' := [(4, .int (V10 32 (Int32.toNatClampNeg y18))), (5, .int y17), (0, .ref (ad 3)), (1, .int p0), (2, .int p1), (3, .int p2)]) hx hb dX8_join_131 hl (by decide) rfl (fun ls hl => ?_)
              obtain ⟨z47, ez47⟩ : ∃ y : Int32, y = y17 + 1 := ⟨_, rfl⟩
              have hz47 : z47.toInt = y17.toInt + 1 := i_add ez47 rfl (by decide) (by (first | exact om_bc9106cf44c9 klp19_0.1 f30 | omega))
              refine lv_iinc (v := z47) (lv' := [(5, .int z47), (4, .int (V10 32 (Int32.toNatClampNeg y18))), (0, .ref (ad 3)), (1, .int p0), (2, .int p1), (3, .int p2)]) hx hb dX8_join_133 hl (k := 1) rfl (by rw [ez47]; rfl) (by decide) rfl (fun ls hl => ?_)
              refine lv_goto (tgt := 106) hx hb dX8_join_136 (by decide) ?_
              exact ihlp19 z47 (V10 32 (Int32.toNatClampNeg y18)) H locs ls (by (first | exact om_a5349b170263 klp19_0.1 f30 hz47 | omega)) (by (first | exact om_ed38d5d51a12 hlc r31.1 f44 hq46 | omega)) (show ((V10 32 (Int32.toNatClampNeg y18))).toInt < (V 3 15).toInt from by (first | exact om_0e9116797efb hq33 | omega)) (by (first | exact om_9592d9319ffa hn hz47 | omega)) hP hD hS (lv_sub hl [0, 1, 2, 3, 4, 5] rfl)
      have r48 : Int32.toInt 0 = 0 := by decide
      exact lp19 ((24 - (Int32.toInt 0) + 1 : Int).toNat) 0 (V 30 (Int32.toNatClampNeg z13)) H locs ls (by decide) (by (first | exact om_393feb9d3e2e r14.1 r14.2 f16 | omega)) (show ((V 30 (Int32.toNatClampNeg z13))).toInt < (V 3 15).toInt from by omega) (by (first | exact om_817980d3aa47 | omega)) hP hD hS (lv_sub hl [0, 1, 2, 3, 4, 5] rfl)
    · skip
      have f49 : ((V 30 (Int32.toNatClampNeg z13))).toInt = (-1) := b_eq rfl (by decide) c15
      refine lv_aload_n hx hb dX8_join_85 rfl (lv_at hl 1 rfl) ?_
      refine va_get (D := D) (ci := 8) (v := .ref (ad 27)) (fs := (xfStock ad V10 L Z)) (C := RX8) (T := TX8) (N := 16) hx hb hg inX8 hown hK hP 3 xgStock rfl 9 (by decide) (hg _ w387) (fun _ h9 => h9) rfl dX8_join_86 ?_
      refine lv_iload_n hx hb dX8_join_89 rfl (lv_at hl 2 rfl) ?_
      refine lv_bipush (v := 8) hx hb dX8_join_90 (by decide) ?_
      refine lv_imul hx hb dX8_join_92 ?_
      refine lv_topi (fun z50 ez50 => ?_)
      have hz50 : z50.toInt = p0.toInt * 8 := i_mul ez50 rfl (by decide) (by (first | exact om_d8eca449dd89 rg_p0.1 rg_p0.2 | omega))
      refine lv_iload_n hx hb dX8_join_93 rfl (lv_at hl 3 rfl) ?_
      refine lv_iadd hx hb dX8_join_94 ?_
      refine lv_topi (fun z51 ez51 => ?_)
      have hz51 : z51.toInt = z50.toInt + p1.toInt := i_add ez51 rfl rfl (by (first | exact om_582758b7b1c9 rg_p0.1 rg_p0.2 rg_p1.1 rg_p1.2 hz50 | omega))
      refine lv_aload_n hx hb dX8_join_95 rfl (lv_at hl 1 rfl) ?_
      refine va_get (D := D) (ci := 8) (v := .int (V10 3 15)) (fs := (xfStock ad V10 L Z)) (C := RX8) (T := TX8) (N := 16) hx hb hg inX8 hown hK hP 3 xgStock rfl 15 (by decide) (hg _ w394) (fun _ h9 => h9) rfl dX8_join_96 ?_
      refine g_top (v := (V 3 15)) ((up2_o hV10 (by decide)).trans (up2_o hV8 (by decide))) ?_
      refine va_iast (D := D) (i := z51) (x := (V 3 15)) hx hb hK hP hD hS 27 20 rfl rfl (i_in (a := z51.toInt) rfl (by (first | exact om_1416c74478ee rg_p0.1 rg_p0.2 rg_p1.1 rg_p1.2 hz50 hz51 | omega))) dX8_join_99 (fun H locs hP hD hS => ?_)
      obtain ⟨V52, hV52⟩ : ∃ z, z = up2 V10 30 (Int32.toNatClampNeg z51) (V 3 15) := ⟨_, rfl⟩
      have ew53 : (xw ad kk V10 L Z).set 27 ((ad 27), .inl ((kk 27), 2400, .inl (upd (V10 30) (Int32.toNatClampNeg z51) (V 3 15)))) = xw ad kk V52 L Z := by rw [hV52]; exact xw_ss (by decide) rfl (xb_si (by decide))
      have hP : va_P D vwCl (xw ad kk V52 L Z) H := by rw [← ew53]; exact hP
      have hD : va_D A (xw ad kk V52 L Z) := by rw [← ew53]; exact hD
      have hMV52 : rgd bX V52 := hMV10.put hV52 (show (-1) ≤ ((V 3 15)).toInt ∧ ((V 3 15)).toInt ≤ 262143 from by (first | exact om_d572aa9568fd hlc r1.1 | omega))
      have agV52 : agr [(3, 15)] [30, 31, 32] V V52 := agV10.up hV52 rfl
      refine lv_goto (tgt := 150) hx hb dX8_join_100 (by decide) ?_
      refine lv_aload_n hx hb dX8_join_150 rfl (lv_at hl 1 rfl) ?_
      refine lv_dup hx hb dX8_join_151 rfl ?_
      refine va_get (D := D) (ci := 8) (v := .int (V52 3 15)) (fs := (xfStock ad V52 L Z)) (C := RX8) (T := TX8) (N := 16) hx hb hg inX8 hown hK hP 3 xgStock rfl 15 (by decide) (hg _ w394) (fun _ h9 => h9) rfl dX8_join_152 ?_
      refine g_top (v := (V 3 15)) ((up2_o hV52 (by decide)).trans ((up2_o hV10 (by decide)).trans (up2_o hV8 (by decide)))) ?_
      refine lv_iconst (v := 1) hx hb dX8_join_155 (by decide) ?_
      refine lv_iadd hx hb dX8_join_156 ?_
      refine lv_topi (fun z54 ez54 => ?_)
      have hz54 : z54.toInt = ((V 3 15)).toInt + 1 := i_add ez54 rfl (by decide) (by (first | exact om_63516cd27ca0 hlc r1.1 | omega))
      refine va_put (D := D) (ci := 8) (v := .int z54) (ty := tyX8 15) (fs := (xfStock ad V52 L Z)) (C := RX8) (T := TX8) (N := 16) hx hb hg inX8 tyX8 tyX8_ok nmX8 hown hK hP hD hS 3 xgStock rfl 15 (by decide) (hg _ w394) (fun _ h9 => h9) rfl (tyX8_ok 15 (by decide)) rfl rfl (Nat.le_of_ble_eq_true rfl) dX8_join_157 (fun H locs hP hD hS => ?_)
      obtain ⟨V55, hV55⟩ : ∃ z, z = up2 V52 3 15 z54 := ⟨_, rfl⟩
      have ew56 : (xw ad kk V52 L Z).set 3 ((ad 3), .inr (8, (xfStock ad V52 L Z).set 15 (.int z54))) = xw ad kk V55 L Z := by rw [hV55]; exact xw_ss (by decide) rfl (xb_si (by decide))
      have hP : va_P D vwCl (xw ad kk V55 L Z) H := by rw [← ew56]; exact hP
      have hD : va_D A (xw ad kk V55 L Z) := by rw [← ew56]; exact hD
      have hMV55 : rgd bX V55 := hMV52.put hV55 (show 0 ≤ z54.toInt ∧ z54.toInt ≤ 262144 from by (first | exact om_cb7b7fc8349b hlc r1.1 hz54 | omega))
      have agV55 : agr [(3, 15)] [30, 31, 32] V V55 := agV52.up hV55 rfl
      have pq57 : (V55 3 15).toInt = z54.toInt := congrArg Int32.toInt (up2_s hV55)
      have kq58 := i_clamp (x := z51) rfl (by (first | exact om_75abbf7b0b1b rg_p0.1 rg_p1.1 hz50 hz51 | omega))
      have jn59 : JN V V55 Z Z (8 * Int32.toNatClampNeg p0 + Int32.toNatClampNeg p1) := JN.mk (l := Int32.toNatClampNeg (V 3 15)) slx lnx (by omega) (by omega) hV8 hV10 hV52 (by omega) hV55 (by omega) (Or.inl ⟨rfl, by omega⟩)
      refine W.know (fun kr1 kr2 => ?_)
      refine W.widen (k := zcc Z) (n := zss Z) (Nat.sub_le _ _) (Nat.sub_le _ _) ?_
      exact W.vret hx hb hr (fun t ht hW => ⟨⟨(V55, L, Z), rfl, ⟨hMV55, agV55, rfl, zoZ, jn59⟩, ⟨by rw [ht]; exact hP, va_K.moved hW.alike hK, hD⟩, by rw [ht]; exact kr1, by rw [ht]; exact kr2⟩, hS.F ht⟩) hS.2.2 dX8_join_160
  · skip
    have f60 : z4.toInt ≤ ((V 3 15)).toInt := b_nlt rfl rfl c6
    refine lv_aload_n hx hb dX8_join_12 rfl (lv_at hl 0 rfl) ?_
    refine lv_aload_n hx hb dX8_join_13 rfl (lv_at hl 0 rfl) ?_
    refine va_get (D := D) (ci := 8) (v := .ref Z.l1) (fs := (xfStock ad V L Z)) (C := RX8) (T := TX8) (N := 16) hx hb hg inX8 hown hK hP 3 xgStock rfl 10 (by decide) (hg _ w388) (fun _ h9 => h9) rfl dX8_join_14 ?_
    refine lv_aload_n hx hb dX8_join_17 rfl (lv_at hl 0 rfl) ?_
    refine va_get (D := D) (ci := 8) (v := .int (V 3 15)) (fs := (xfStock ad V L Z)) (C := RX8) (T := TX8) (N := 16) hx hb hg inX8 hown hK hP 3 xgStock rfl 15 (by decide) (hg _ w394) (fun _ h9 => h9) rfl dX8_join_18 ?_
    refine lv_iconst (v := 2) hx hb dX8_join_21 (by decide) ?_
    refine lv_imul hx hb dX8_join_22 ?_
    refine lv_topi (fun z61 ez61 => ?_)
    have hz61 : z61.toInt = ((V 3 15)).toInt * 2 := i_mul ez61 rfl (by decide) (by (first | exact om_58a7a3048726 hlc r1.1 | omega))
    have hlnl : (V 3 15).toInt = (Z.ln : Int) := by have := sl.1; omega
    have hg0 := zc_grow (Z := Z) (q1 := 0) (q2 := 0) (c1 := Z.k1) (c2 := Z.k2) lnq (by omega)
    refine gZ_ref (gA_runS (As := [.ref Z.l1, .int z61]) (rest := [.ref (ad 3)]) hx hb hml hown hg hP hD hK hS hA hnw hgk (c_copyOf l D ks H.size (xw ad kk V L Z) (xty kk Z) 28 21 Z.l1 Z.k1 Z.ln (2 * Z.ln) (V 31) z61 rfl rfl (by (first | exact om_7ceae82653b4 hz61 hlnl | omega)) (by (first | exact om_74037c5033f3 hg0.2.2.2.1 | omega)) (by (first | exact om_5b649b25cd44 hg0.2.2.2.2 | omega))) w1356 w1357 w165 w1358 hdS_yJ7_copyOf_59c91 ⟨Nat.le_of_ble_eq_true rfl, Nat.le_of_ble_eq_true rfl⟩ rfl hl.1 rfl (Nat.le_of_ble_eq_true rfl) dX8_join_23 ⟨(by show zcc Z - zcc Z + 1 ≤ zcc Z; omega), (by show zss Z - zss Z + 2 * Z.ln ≤ zss Z; omega)⟩) hD hS hA (fun u1 H locs _ hP hD hK hS _ _ => ?_)
    obtain ⟨q1, c1⟩ := u1
    have hP : va_P D vwCl (xw ad kk V L Z ++ [((q1, .inl (c1, 2 * Z.ln, .inl (va_cpy (V 31) (fun _ => 0) 0 0 Z.ln))) : Nat × va_E)]) H := hP
    have hD : va_D A (xw ad kk V L Z ++ [((q1, .inl (c1, 2 * Z.ln, .inl (va_cpy (V 31) (fun _ => 0) 0 0 Z.ln))) : Nat × va_E)]) := hD
    have hK : va_K D vwCl (xty kk Z ++ [(c1, .int)]) s := hK
    refine va_put (D := D) (ci := 8) (v := .ref q1) (ty := tyX8 10) (fs := (xfStock ad V L Z)) (C := RX8) (T := TX8) (N := 16) hx hb hg inX8 tyX8 tyX8_ok nmX8 hown hK hP hD hS 3 rfl rfl 10 (by decide) (hg _ w388) (fun _ h9 => h9) rfl (tyX8_ok 10 (by decide)) rfl rfl (Nat.le_of_ble_eq_true rfl) dX8_join_26 (fun H locs hP hD hS => ?_)
    have hP : va_P D vwCl ((xw ad kk V L Z ++ [((q1, .inl (c1, 2 * Z.ln, .inl (va_cpy (V 31) (fun _ => 0) 0 0 Z.ln))) : Nat × va_E)]).set 3 ((ad 3, .inr (8, (xfStock ad V L Z).set 10 (.ref q1))) : Nat × va_E)) H := hP
    have hD : va_D A ((xw ad kk V L Z ++ [((q1, .inl (c1, 2 * Z.ln, .inl (va_cpy (V 31) (fun _ => 0) 0 0 Z.ln))) : Nat × va_E)]).set 3 ((ad 3, .inr (8, (xfStock ad V L Z).set 10 (.ref q1))) : Nat × va_E)) := hD
    refine lv_aload_n hx hb dX8_join_29 rfl (lv_at hl 0 rfl) ?_
    refine lv_aload_n hx hb dX8_join_30 rfl (lv_at hl 0 rfl) ?_
    refine va_get (D := D) (ci := 8) (v := .ref Z.l2) (fs := ((xfStock ad V L Z).set 10 (.ref q1))) (C := RX8) (T := TX8) (N := 16) hx hb hg inX8 hown hK hP 3 rfl rfl 11 (by decide) (hg _ w389) (fun _ h9 => h9) rfl dX8_join_31 ?_
    refine lv_aload_n hx hb dX8_join_34 rfl (lv_at hl 0 rfl) ?_
    refine va_get (D := D) (ci := 8) (v := .int (V 3 15)) (fs := ((xfStock ad V L Z).set 10 (.ref q1))) (C := RX8) (T := TX8) (N := 16) hx hb hg inX8 hown hK hP 3 rfl rfl 15 (by decide) (hg _ w394) (fun _ h9 => h9) rfl dX8_join_35 ?_
    refine lv_iconst (v := 2) hx hb dX8_join_38 (by decide) ?_
    refine lv_imul hx hb dX8_join_39 ?_
    refine lv_topi (fun zj ezj => ?_)
    have hzj : zj.toInt = (V 3 15).toInt * 2 := i_mul ezj rfl (by decide) (by (first | exact om_58a7a3048726 hlc r1.1 | omega))
    refine gZ_ref (gA_runS (As := [.ref Z.l2, .int zj]) (rest := [.ref (ad 3)]) hx hb hml hown hg hP hD hK hS hA hnw hgk (c_copyOf l D ks H.size ((xw ad kk V L Z ++ [((q1, .inl (c1, 2 * Z.ln, .inl (va_cpy (V 31) (fun _ => 0) 0 0 Z.ln))) : Nat × va_E)]).set 3 ((ad 3, .inr (8, (xfStock ad V L Z).set 10 (.ref q1))) : Nat × va_E)) (xty kk Z ++ [(c1, .int)]) 29 22 Z.l2 Z.k2 Z.ln (2 * Z.ln) (V 32) zj rfl rfl (by (first | exact om_58b2497b5a91 hlnl hzj | omega)) (by (first | exact om_74037c5033f3 hg0.2.2.2.1 | omega)) (by (first | exact om_5b649b25cd44 hg0.2.2.2.2 | omega))) w1356 w1357 w165 w1358 hdS_yJ7_copyOf_59c91 ⟨Nat.le_of_ble_eq_true rfl, Nat.le_of_ble_eq_true rfl⟩ rfl hl.1 rfl (Nat.le_of_ble_eq_true rfl) dX8_join_40 ⟨(by show zcc Z - zcc Z + 1 + 1 ≤ zcc Z; omega), (by show zss Z - zss Z + 2 * Z.ln + 2 * Z.ln ≤ zss Z; omega)⟩) hD hS hA (fun u2 H locs _ hP hD hK hS _ _ => ?_)
    obtain ⟨q2, c2⟩ := u2
    have hP : va_P D vwCl ((xw ad kk V L Z ++ [((q1, .inl (c1, 2 * Z.ln, .inl (va_cpy (V 31) (fun _ => 0) 0 0 Z.ln))) : Nat × va_E)]).set 3 ((ad 3, .inr (8, (xfStock ad V L Z).set 10 (.ref q1))) : Nat × va_E) ++ [((q2, .inl (c2, 2 * Z.ln, .inl (va_cpy (V 32) (fun _ => 0) 0 0 Z.ln))) : Nat × va_E)]) H := hP
    have hD : va_D A ((xw ad kk V L Z ++ [((q1, .inl (c1, 2 * Z.ln, .inl (va_cpy (V 31) (fun _ => 0) 0 0 Z.ln))) : Nat × va_E)]).set 3 ((ad 3, .inr (8, (xfStock ad V L Z).set 10 (.ref q1))) : Nat × va_E) ++ [((q2, .inl (c2, 2 * Z.ln, .inl (va_cpy (V 32) (fun _ => 0) 0 0 Z.ln))) : Nat × va_E)]) := hD
    have hK : va_K D vwCl ((xty kk Z ++ [(c1, .int)]) ++ [(c2, .int)]) s := hK
    refine va_put (D := D) (ci := 8) (v := .ref q2) (ty := tyX8 11) (fs := ((xfStock ad V L Z).set 10 (.ref q1))) (C := RX8) (T := TX8) (N := 16) hx hb hg inX8 tyX8 tyX8_ok nmX8 hown hK hP hD hS 3 rfl rfl 11 (by decide) (hg _ w389) (fun _ h9 => h9) rfl (tyX8_ok 11 (by decide)) rfl rfl (Nat.le_of_ble_eq_true rfl) dX8_join_43 (fun H locs hP hD hS => ?_)
    have hP : va_P D vwCl (((xw ad kk V L Z ++ [((q1, .inl (c1, 2 * Z.ln, .inl (va_cpy (V 31) (fun _ => 0) 0 0 Z.ln))) : Nat × va_E)]).set 3 ((ad 3, .inr (8, (xfStock ad V L Z).set 10 (.ref q1))) : Nat × va_E) ++ [((q2, .inl (c2, 2 * Z.ln, .inl (va_cpy (V 32) (fun _ => 0) 0 0 Z.ln))) : Nat × va_E)]).set 3 ((ad 3, .inr (8, ((xfStock ad V L Z).set 10 (.ref q1)).set 11 (.ref q2))) : Nat × va_E)) H := hP
    have hD : va_D A (((xw ad kk V L Z ++ [((q1, .inl (c1, 2 * Z.ln, .inl (va_cpy (V 31) (fun _ => 0) 0 0 Z.ln))) : Nat × va_E)]).set 3 ((ad 3, .inr (8, (xfStock ad V L Z).set 10 (.ref q1))) : Nat × va_E) ++ [((q2, .inl (c2, 2 * Z.ln, .inl (va_cpy (V 32) (fun _ => 0) 0 0 Z.ln))) : Nat × va_E)]).set 3 ((ad 3, .inr (8, ((xfStock ad V L Z).set 10 (.ref q1)).set 11 (.ref q2))) : Nat × va_E)) := hD
    obtain ⟨Z63, hZ63⟩ : ∃ z, z = Z.grow q1 q2 c1 c2 := ⟨_, rfl⟩
    obtain ⟨V62, hV62⟩ : ∃ z, z = lnz V Z.ln := ⟨_, rfl⟩
    have hP : va_P D vwCl (xw ad kk V62 L Z63) H := by rw [hZ63, hV62, xw_lnz]; exact grow_P (by rw [xw_len]; omega) hP
    have hD : va_D A (xw ad kk V62 L Z63) := by rw [hZ63, hV62, xw_lnz]; exact grow_D (by rw [xw_len]; omega) hD
    have hK : va_K D vwCl (xty kk Z63) s := by rw [hZ63, xt_lnz]; exact grow_K (by rw [xt_len]; decide) hK
    have hMV62 : rgd bX V62 := by rw [hV62]; exact rgd_lnz hMV
    have ajV62 : agr [] [31, 32] V V62 := by rw [hV62]; exact lnz_ag
    have agV62 : agr [(3, 15)] [30, 31, 32] V V62 := agV.tr ajV62 (by decide) (by decide)
    have zgr := zc_grow (Z := Z) (q1 := q1) (q2 := q2) (c1 := c1) (c2 := c2) lnq (by omega)
    have zcZ63 : zcc Z63 + 2 ≤ zcc Z := by rw [hZ63]; exact zgr.1
    have zsZ63 : zss Z63 + 4 * Z.ln = zss Z := by rw [hZ63]; exact zgr.2.1
    have zoZ63 : ZL Z Z63 := by rw [hZ63]; exact ZL.grow lnq (by omega)
    have zkZ63 : Z63.nf = Z.nf := by rw [hZ63]; rfl
    have zgZ63 : Z63.ln = 2 * Z.ln := by rw [hZ63]; rfl
    have slx : SL V62 Z63 := by rw [hV62, hZ63]; exact sl.grow (by omega)
    have lnx : LN Z63.ln := by rw [zgZ63]; exact zgr.2.2.1
    refine W.know (fun kx1 kx2 => ?_)
    have kx1 : H.size ≤ s.heap.size + (zcc Z - zcc Z + 1 + 1) := kx1
    have kx2 : tot H ≤ tot s.heap + (zss Z - zss Z + 2 * Z.ln + 2 * Z.ln) := kx2
    refine W.tight (k := zcc Z - zcc Z63) (n := zss Z - zss Z63) (by omega) (by omega) ?_
    have pq64 : (V62 3 15).toInt = ((V 3 15)).toInt := congrArg Int32.toInt (ajV62 3 15 rfl)
    have pq65 : (V62 3 13).toInt = ((V 3 13)).toInt := congrArg Int32.toInt (ajV62 3 13 rfl)
    have hltz : (V 3 15).toInt < (Z63.ln : Int) := by (first | exact om_b744e8be1b05 hlnl hg0.2.2.2.1 zgZ63 | omega)
    have kl := i_clamp (x := V 3 15) rfl (by (first | exact om_3de61939a92f r5 f60 zgZ63 hltz | omega))
    have kp0 := i_clamp (x := p0) rfl (by (first | exact om_eafa9039069c rg_p0.1 | omega))
    have kp1 := i_clamp (x := p1) rfl (by (first | exact om_eafa9039069c rg_p1.1 | omega))
    have hch := slx.2.2.1 (Int32.toNatClampNeg p0) (Int32.toNatClampNeg p1) (by omega) (by omega)
    refine lv_aload_n hx hb dX8_join_46 rfl (lv_at hl 0 rfl) ?_
    refine va_get (D := D) (ci := 8) (v := .ref Z63.l1) (fs := (xfStock ad V62 L Z63)) (C := RX8) (T := TX8) (N := 16) hx hb hg inX8 hown hK hP 3 xgStock rfl 10 (by decide) (hg _ w388) (fun _ h9 => h9) rfl dX8_join_47 ?_
    refine lv_aload_n hx hb dX8_join_50 rfl (lv_at hl 0 rfl) ?_
    refine va_get (D := D) (ci := 8) (v := .int (V62 3 15)) (fs := (xfStock ad V62 L Z63)) (C := RX8) (T := TX8) (N := 16) hx hb hg inX8 hown hK hP 3 xgStock rfl 15 (by decide) (hg _ w394) (fun _ h9 => h9) rfl dX8_join_51 ?_
    refine g_top (v := (V 3 15)) (ajV62 3 15 rfl) ?_
    refine lv_iload_n hx hb dX8_join_54 rfl (lv_at hl 3 rfl) ?_
    refine va_iast (D := D) (i := (V 3 15)) (x := p2) hx hb hK hP hD hS 28 21 rfl rfl (i_in (a := ((V 3 15)).toInt) rfl (by omega)) dX8_join_55 (fun H locs hP hD hS => ?_)
    obtain ⟨V66, hV66⟩ : ∃ z, z = up2 V62 31 (Int32.toNatClampNeg (V 3 15)) p2 := ⟨_, rfl⟩
    have ew67 : (xw ad kk V62 L Z63).set 28 (Z63.l1, .inl (Z63.k1, Z63.ln, .inl (upd (V62 31) (Int32.toNatClampNeg (V 3 15)) p2))) = xw ad kk V66 L Z63 := by rw [hV66]; exact xw_ss (by decide) rfl (xb_si (by decide))
    have hP : va_P D vwCl (xw ad kk V66 L Z63) H := by rw [← ew67]; exact hP
    have hD : va_D A (xw ad kk V66 L Z63) := by rw [← ew67]; exact hD
    have hMV66 : rgd bX V66 := hMV62.put hV66 (i_full _)
    have agV66 : agr [(3, 15)] [30, 31, 32] V V66 := agV62.up hV66 rfl
    refine lv_aload_n hx hb dX8_join_56 rfl (lv_at hl 0 rfl) ?_
    refine va_get (D := D) (ci := 8) (v := .ref Z63.l2) (fs := (xfStock ad V66 L Z63)) (C := RX8) (T := TX8) (N := 16) hx hb hg inX8 hown hK hP 3 xgStock rfl 11 (by decide) (hg _ w389) (fun _ h9 => h9) rfl dX8_join_57 ?_
    refine lv_aload_n hx hb dX8_join_60 rfl (lv_at hl 0 rfl) ?_
    refine va_get (D := D) (ci := 8) (v := .int (V66 3 15)) (fs := (xfStock ad V66 L Z63)) (C := RX8) (T := TX8) (N := 16) hx hb hg inX8 hown hK hP 3 xgStock rfl 15 (by decide) (hg _ w394) (fun _ h9 => h9) rfl dX8_join_61 ?_
    refine g_top (v := (V 3 15)) ((up2_o hV66 (by decide)).trans (ajV62 3 15 rfl)) ?_
    refine lv_iconst (v := (-1)) hx hb dX8_join_64 (by decide) ?_
    refine va_iast (D := D) (i := (V 3 15)) (x := (-1)) hx hb hK hP hD hS 29 22 rfl rfl (i_in (a := ((V 3 15)).toInt) rfl (by omega)) dX8_join_65 (fun H locs hP hD hS => ?_)
    obtain ⟨V68, hV68⟩ : ∃ z, z = up2 V66 32 (Int32.toNatClampNeg (V 3 15)) (-1) := ⟨_, rfl⟩
    have ew69 : (xw ad kk V66 L Z63).set 29 (Z63.l2, .inl (Z63.k2, Z63.ln, .inl (upd (V66 32) (Int32.toNatClampNeg (V 3 15)) (-1)))) = xw ad kk V68 L Z63 := by rw [hV68]; exact xw_ss (by decide) rfl (xb_si (by decide))
    have hP : va_P D vwCl (xw ad kk V68 L Z63) H := by rw [← ew69]; exact hP
    have hD : va_D A (xw ad kk V68 L Z63) := by rw [← ew69]; exact hD
    have hMV68 : rgd bX V68 := hMV66.put hV68 (show (-1) ≤ Int32.toInt (-1) ∧ Int32.toInt (-1) ≤ 262143 from by decide)
    have agV68 : agr [(3, 15)] [30, 31, 32] V V68 := agV66.up hV68 rfl
    refine lv_aload_n hx hb dX8_join_66 rfl (lv_at hl 0 rfl) ?_
    refine va_get (D := D) (ci := 8) (v := .ref (ad 27)) (fs := (xfStock ad V68 L Z63)) (C := RX8) (T := TX8) (N := 16) hx hb hg inX8 hown hK hP 3 xgStock rfl 9 (by decide) (hg _ w387) (fun _ h9 => h9) rfl dX8_join_67 ?_
    refine lv_iload_n hx hb dX8_join_70 rfl (lv_at hl 1 rfl) ?_
    refine lv_bipush (v := 8) hx hb dX8_join_71 (by decide) ?_
    refine lv_imul hx hb dX8_join_73 ?_
    refine lv_topi (fun z70 ez70 => ?_)
    have hz70 : z70.toInt = p0.toInt * 8 := i_mul ez70 rfl (by decide) (by (first | exact om_d8eca449dd89 rg_p0.1 rg_p0.2 | omega))
    refine lv_iload_n hx hb dX8_join_74 rfl (lv_at hl 2 rfl) ?_
    refine lv_iadd hx hb dX8_join_75 ?_
    refine lv_topi (fun z71 ez71 => ?_)
    have hz71 : z71.toInt = z70.toInt + p1.toInt := i_add ez71 rfl rfl (by (first | exact om_582758b7b1c9 rg_p0.1 rg_p0.2 rg_p1.1 rg_p1.2 hz70 | omega))
    refine va_iald (D := D) (i := z71) hx hb hK hP 27 20 rfl rfl (i_in (a := z71.toInt) rfl (by (first | exact om_1416c74478ee rg_p0.1 rg_p0.2 rg_p1.1 rg_p1.2 hz70 hz71 | omega))) dX8_join_76 ?_
    refine g_top (v := (V 30 (Int32.toNatClampNeg z71))) ((up2_o hV68 (by decide)).trans ((up2_o hV66 (by decide)).trans (ajV62 30 (Int32.toNatClampNeg z71) rfl))) ?_
    have r72 : (-1) ≤ ((V 30 (Int32.toNatClampNeg z71))).toInt ∧ ((V 30 (Int32.toNatClampNeg z71))).toInt ≤ 262143 := hMV 30 (Int32.toNatClampNeg z71)
    refine lv_istore (lv' := [(4, .int (V 30 (Int32.toNatClampNeg z71))), (0, .ref (ad 3)), (1, .int p0), (2, .int p1), (3, .int p2)]) hx hb dX8_join_77 hl (by decide) rfl (fun ls hl => ?_)
    have kzz := i_clamp (x := z71) rfl (by (first | exact om_75abbf7b0b1b rg_p0.1 rg_p1.1 hz70 hz71 | omega))
    have hpl : Int32.toNatClampNeg z71 = 8 * Int32.toNatClampNeg p0 + Int32.toNatClampNeg p1 := by (first | exact om_19f77980e03c kp0 kp1 hz70 hz71 kzz | omega)
    have hch2 := hch
    rw [← hpl] at hch2
    have pq73 : (V62 30 (Int32.toNatClampNeg z71)).toInt = ((V 30 (Int32.toNatClampNeg z71))).toInt := congrArg Int32.toInt (ajV62 30 (Int32.toNatClampNeg z71) rfl)
    refine lv_iload hx hb dX8_join_79 (lv_at hl 0 rfl) ?_
    refine lv_iconst (v := (-1)) hx hb dX8_join_81 (by decide) ?_
    refine lv_icmp_ne (tgt := 103) hx hb dX8_join_82 (by decide) (fun c74 => ?_) (fun c74 => ?_)
    · skip
      have f75 : ((V 30 (Int32.toNatClampNeg z71))).toInt ≠ (-1) := b_neq rfl (by decide) c74
      refine lv_iconst (v := 0) hx hb dX8_join_103 (by decide) ?_
      refine lv_istore (lv' := [(5, .int 0), (4, .int (V 30 (Int32.toNatClampNeg z71))), (0, .ref (ad 3)), (1, .int p0), (2, .int p1), (3, .int p2)]) hx hb dX8_join_104 hl (by decide) rfl (fun ls hl => ?_)
      have lp78 : ∀ (fulp78 : Nat) (y76 : Int32) (y77 : Int32) (H : Heap) (locs : List Loc) (ls : Array Slot), 0 ≤ y76.toInt ∧ y76.toInt ≤ 24 → 0 ≤ y77.toInt ∧ y77.toInt ≤ 262143 → y77.toInt < (V 3 15).toInt → 24 - y76.toInt < (fulp78 : Int) → va_P D vwCl (xw ad kk V68 L Z63) H → va_D A (xw ad kk V68 L Z63) → va_S A s.heap H locs → lv_has ls 6 [(5, .int y76), (4, .int y77), (0, .ref (ad 3)), (1, .int p0), (2, .int p1), (3, .int p2)] → W p l e (r_x_join Z) s m ([.ref (ad 3), .int p0, .int p1, .int p2] : List Value).toArray below meth c H locs (zcc Z - zcc Z63) (zss Z - zss Z63) (MQ below (q_x_join D ks ad kk V L Z p0 p1 p2 A) ([.ref (ad 3), .int p0, .int p1, .int p2] : List Value).toArray s (zcc Z) (zss Z) A) (F0 m 106 ls []) := by
        intro fulp78
        induction fulp78 with
        | zero =>
          intro y76 y77 H locs ls klp78_0 klp78_1 xlp78_0 hn  hP hD hS hl
          exfalso; (first | exact om_9386ef0df612 klp78_0.2 hn | omega)
        | succ fulp78 ihlp78 =>
          intro y76 y77 H locs ls klp78_0 klp78_1 xlp78_0 hn  hP hD hS hl
          refine lv_iload hx hb dX8_join_106 (lv_at hl 0 rfl) ?_
          refine lv_bipush (v := 24) hx hb dX8_join_108 (by decide) ?_
          refine lv_icmp_ge (tgt := 139) hx hb dX8_join_110 (by decide) (fun c79 => ?_) (fun c79 => ?_)
          · skip
            have f80 : 24 ≤ y76.toInt := b_le (by decide) rfl c79
            refine lv_aload_n hx hb dX8_join_139 rfl (lv_at hl 2 rfl) ?_
            refine va_get (D := D) (ci := 8) (v := .ref Z63.l2) (fs := (xfStock ad V68 L Z63)) (C := RX8) (T := TX8) (N := 16) hx hb hg inX8 hown hK hP 3 xgStock rfl 11 (by decide) (hg _ w389) (fun _ h9 => h9) rfl dX8_join_140 ?_
            refine lv_iload hx hb dX8_join_143 (lv_at hl 1 rfl) ?_
            refine lv_aload_n hx hb dX8_join_145 rfl (lv_at hl 2 rfl) ?_
            refine va_get (D := D) (ci := 8) (v := .int (V68 3 15)) (fs := (xfStock ad V68 L Z63)) (C := RX8) (T := TX8) (N := 16) hx hb hg inX8 hown hK hP 3 xgStock rfl 15 (by decide) (hg _ w394) (fun _ h9 => h9) rfl dX8_join_146 ?_
            refine g_top (v := (V 3 15)) ((up2_o hV68 (by decide)).trans ((up2_o hV66 (by decide)).trans (ajV62 3 15 rfl))) ?_
            refine va_iast (D := D) (i := y77) (x := (V 3 15)) hx hb hK hP hD hS 29 22 rfl rfl (i_in (a := y77.toInt) rfl (by omega)) dX8_join_149 (fun H locs hP hD hS => ?_)
            obtain ⟨V81, hV81⟩ : ∃ z, z = up2 V68 32 (Int32.toNatClampNeg y77) (V 3 15) := ⟨_, rfl⟩
            have ew82 : (xw ad kk V68 L Z63).set 29 (Z63.l2, .inl (Z63.k2, Z63.ln, .inl (upd (V68 32) (Int32.toNatClampNeg y77) (V 3 15)))) = xw ad kk V81 L Z63 := by rw [hV81]; exact xw_ss (by decide) rfl (xb_si (by decide))
            have hP : va_P D vwCl (xw ad kk V81 L Z63) H := by rw [← ew82]; exact hP
            have hD : va_D A (xw ad kk V81 L Z63) := by rw [← ew82]; exact hD
            have hMV81 : rgd bX V81 := hMV68.put hV81 (show (-1) ≤ ((V 3 15)).toInt ∧ ((V 3 15)).toInt ≤ 262143 from by (first | exact om_ca8123c7c681 hlc klp78_1.1 xlp78_0 | omega))
            have agV81 : agr [(3, 15)] [30, 31, 32] V V81 := agV68.up hV81 rfl
            refine lv_aload_n hx hb dX8_join_150 rfl (lv_at hl 2 rfl) ?_
            refine lv_dup hx hb dX8_join_151 rfl ?_
            refine va_get (D := D) (ci := 8) (v := .int (V81 3 15)) (fs := (xfStock ad V81 L Z63)) (C := RX8) (T := TX8) (N := 16) hx hb hg inX8 hown hK hP 3 xgStock rfl 15 (by decide) (hg _ w394) (fun _ h9 => h9) rfl dX8_join_152 ?_
            refine g_top (v := (V 3 15)) ((up2_o hV81 (by decide)).trans ((up2_o hV68 (by decide)).trans ((up2_o hV66 (by decide)).trans (ajV62 3 15 rfl)))) ?_
            refine lv_iconst (v := 1) hx hb dX8_join_155 (by decide) ?_
            refine lv_iadd hx hb dX8_join_156 ?_
            refine lv_topi (fun z83 ez83 => ?_)
            have hz83 : z83.toInt = ((V 3 15)).toInt + 1 := i_add ez83 rfl (by decide) (by (first | exact om_f92aeb5a09ea hlc klp78_1.1 xlp78_0 | omega))
            refine va_put (D := D) (ci := 8) (v := .int z83) (ty := tyX8 15) (fs := (xfStock ad V81 L Z63)) (C := RX8) (T := TX8) (N := 16) hx hb hg inX8 tyX8 tyX8_ok nmX8 hown hK hP hD hS 3 xgStock rfl 15 (by decide) (hg _ w394) (fun _ h9 => h9) rfl (tyX8_ok 15 (by decide)) rfl rfl (Nat.le_of_ble_eq_true rfl) dX8_join_157 (fun H locs hP hD hS => ?_)
            obtain ⟨V84, hV84⟩ : ∃ z, z = up2 V81 3 15 z83 := ⟨_, rfl⟩
            have ew85 : (xw ad kk V81 L Z63).set 3 ((ad 3), .inr (8, (xfStock ad V81 L Z63).set 15 (.int z83))) = xw ad kk V84 L Z63 := by rw [hV84]; exact xw_ss (by decide) rfl (xb_si (by decide))
            have hP : va_P D vwCl (xw ad kk V84 L Z63) H := by rw [← ew85]; exact hP
            have hD : va_D A (xw ad kk V84 L Z63) := by rw [← ew85]; exact hD
            have hMV84 : rgd bX V84 := hMV81.put hV84 (show 0 ≤ z83.toInt ∧ z83.toInt ≤ 262144 from by (first | exact om_58c2777555e7 hlc klp78_1.1 xlp78_0 hz83 | omega))
            have agV84 : agr [(3, 15)] [30, 31, 32] V V84 := agV81.up hV84 rfl
            have pq86 : (V84 3 15).toInt = z83.toInt := congrArg Int32.toInt (up2_s hV84)
            have kq87 := i_clamp (x := y77) rfl (by (first | exact om_eafa9039069c klp78_1.1 | omega))
            have jn88 : JN V62 V84 Z63 Z63 (8 * Int32.toNatClampNeg p0 + Int32.toNatClampNeg p1) := JN.mk (l := Int32.toNatClampNeg (V 3 15)) slx lnx (by omega) (by omega) hV66 hV68 hV81 (by omega) hV84 (by omega) (Or.inr ⟨rfl, by omega, by rw [← hpl]; omega⟩)
            have jn89 : JN V V84 Z Z63 (8 * Int32.toNatClampNeg p0 + Int32.toNatClampNeg p1) := by rw [hV62, hZ63] at jn88; rw [hZ63]; exact JN.gr jn88
            refine W.know (fun kr1 kr2 => ?_)
            refine W.widen (k := zcc Z) (n := zss Z) (Nat.sub_le _ _) (Nat.sub_le _ _) ?_
            exact W.vret hx hb hr (fun t ht hW => ⟨⟨(V84, L, Z63), rfl, ⟨hMV84, agV84, rfl, zoZ63, jn89⟩, ⟨by rw [ht]; exact hP, va_K.moved hW.alike hK, hD⟩, by rw [ht]; exact kr1, by rw [ht]; exact kr2⟩, hS.F ht⟩) hS.2.2 dX8_join_160
          · skip
            have f90 : y76.toInt < 24 := b_nle (by decide) rfl c79
            refine lv_aload_n hx hb dX8_join_113 rfl (lv_at hl 2 rfl) ?_
            refine va_get (D := D) (ci := 8) (v := .ref Z63.l2) (fs := (xfStock ad V68 L Z63)) (C := RX8) (T := TX8) (N := 16) hx hb hg inX8 hown hK hP 3 xgStock rfl 11 (by decide) (hg _ w389) (fun _ h9 => h9) rfl dX8_join_114 ?_
            refine lv_iload hx hb dX8_join_117 (lv_at hl 1 rfl) ?_
            refine va_iald (D := D) (i := y77) hx hb hK hP 29 22 rfl rfl (i_in (a := y77.toInt) rfl (by omega)) dX8_join_119 ?_
            have r91 : (-1) ≤ ((V68 32 (Int32.toNatClampNeg y77))).toInt ∧ ((V68 32 (Int32.toNatClampNeg y77))).toInt ≤ 262143 := hMV68 32 (Int32.toNatClampNeg y77)
            have kq92 := i_clamp (x := y77) rfl (by (first | exact om_eafa9039069c klp78_1.1 | omega))
            have hq93 : (V68 32 (Int32.toNatClampNeg y77)).toInt < (V 3 15).toInt := by have q := slx.2.2.2 (Int32.toNatClampNeg y77) (by omega); rw [up2_k hV68 (by omega), up2_o hV66 (by decide)]; omega
            refine lv_iconst (v := (-1)) hx hb dX8_join_120 (by decide) ?_
            refine lv_icmp_eq (tgt := 139) hx hb dX8_join_121 (by decide) (fun c94 => ?_) (fun c94 => ?_)
            · skip
              have f95 : ((V68 32 (Int32.toNatClampNeg y77))).toInt = (-1) := b_eq rfl (by decide) c94
              refine lv_aload_n hx hb dX8_join_139 rfl (lv_at hl 2 rfl) ?_
              refine va_get (D := D) (ci := 8) (v := .ref Z63.l2) (fs := (xfStock ad V68 L Z63)) (C := RX8) (T := TX8) (N := 16) hx hb hg inX8 hown hK hP 3 xgStock rfl 11 (by decide) (hg _ w389) (fun _ h9 => h9) rfl dX8_join_140 ?_
              refine lv_iload hx hb dX8_join_143 (lv_at hl 1 rfl) ?_
              refine lv_aload_n hx hb dX8_join_145 rfl (lv_at hl 2 rfl) ?_
              refine va_get (D := D) (ci := 8) (v := .int (V68 3 15)) (fs := (xfStock ad V68 L Z63)) (C := RX8) (T := TX8) (N := 16) hx hb hg inX8 hown hK hP 3 xgStock rfl 15 (by decide) (hg _ w394) (fun _ h9 => h9) rfl dX8_join_146 ?_
              refine g_top (v := (V 3 15)) ((up2_o hV68 (by decide)).trans ((up2_o hV66 (by decide)).trans (ajV62 3 15 rfl))) ?_
              refine va_iast (D := D) (i := y77) (x := (V 3 15)) hx hb hK hP hD hS 29 22 rfl rfl (i_in (a := y77.toInt) rfl (by omega)) dX8_join_149 (fun H locs hP hD hS => ?_)
              obtain ⟨V96, hV96⟩ : ∃ z, z = up2 V68 32 (Int32.toNatClampNeg y77) (V 3 15) := ⟨_, rfl⟩
              have ew97 : (xw ad kk V68 L Z63).set 29 (Z63.l2, .inl (Z63.k2, Z63.ln, .inl (upd (V68 32) (Int32.toNatClampNeg y77) (V 3 15)))) = xw ad kk V96 L Z63 := by rw [hV96]; exact xw_ss (by decide) rfl (xb_si (by decide))
              have hP : va_P D vwCl (xw ad kk V96 L Z63) H := by rw [← ew97]; exact hP
              have hD : va_D A (xw ad kk V96 L Z63) := by rw [← ew97]; exact hD
              have hMV96 : rgd bX V96 := hMV68.put hV96 (show (-1) ≤ ((V 3 15)).toInt ∧ ((V 3 15)).toInt ≤ 262143 from by (first | exact om_ca8123c7c681 hlc klp78_1.1 xlp78_0 | omega))
              have agV96 : agr [(3, 15)] [30, 31, 32] V V96 := agV68.up hV96 rfl
              refine lv_aload_n hx hb dX8_join_150 rfl (lv_at hl 2 rfl) ?_
              refine lv_dup hx hb dX8_join_151 rfl ?_
              refine va_get (D := D) (ci := 8) (v := .int (V96 3 15)) (fs := (xfStock ad V96 L Z63)) (C := RX8) (T := TX8) (N := 16) hx hb hg inX8 hown hK hP 3 xgStock rfl 15 (by decide) (hg _ w394) (fun _ h9 => h9) rfl dX8_join_152 ?_
              refine g_top (v := (V 3 15)) ((up2_o hV96 (by decide)).trans ((up2_o hV68 (by decide)).trans ((up2_o hV66 (by decide)).trans (ajV62 3 15 rfl)))) ?_
              refine lv_iconst (v := 1) hx hb dX8_join_155 (by decide) ?_
              refine lv_iadd hx hb dX8_join_156 ?_
              refine lv_topi (fun z98 ez98 => ?_)
              have hz98 : z98.toInt = ((V 3 15)).toInt + 1 := i_add ez98 rfl (by decide) (by (first | exact om_f92aeb5a09ea hlc klp78_1.1 xlp78_0 | omega))
              refine va_put (D := D) (ci := 8) (v := .int z98) (ty := tyX8 15) (fs := (xfStock ad V96 L Z63)) (C := RX8) (T := TX8) (N := 16) hx hb hg inX8 tyX8 tyX8_ok nmX8 hown hK hP hD hS 3 xgStock rfl 15 (by decide) (hg _ w394) (fun _ h9 => h9) rfl (tyX8_ok 15 (by decide)) rfl rfl (Nat.le_of_ble_eq_true rfl) dX8_join_157 (fun H locs hP hD hS => ?_)
              obtain ⟨V99, hV99⟩ : ∃ z, z = up2 V96 3 15 z98 := ⟨_, rfl⟩
              have ew100 : (xw ad kk V96 L Z63).set 3 ((ad 3), .inr (8, (xfStock ad V96 L Z63).set 15 (.int z98))) = xw ad kk V99 L Z63 := by rw [hV99]; exact xw_ss (by decide) rfl (xb_si (by decide))
              have hP : va_P D vwCl (xw ad kk V99 L Z63) H := by rw [← ew100]; exact hP
              have hD : va_D A (xw ad kk V99 L Z63) := by rw [← ew100]; exact hD
              have hMV99 : rgd bX V99 := hMV96.put hV99 (show 0 ≤ z98.toInt ∧ z98.toInt ≤ 262144 from by (first | exact om_58c2777555e7 hlc klp78_1.1 xlp78_0 hz98 | omega))
              have agV99 : agr [(3, 15)] [30, 31, 32] V V99 := agV96.up hV99 rfl
              have pq101 : (V99 3 15).toInt = z98.toInt := congrArg Int32.toInt (up2_s hV99)
              have kq102 := i_clamp (x := y77) rfl (by (first | exact om_eafa9039069c klp78_1.1 | omega))
              have jn103 : JN V62 V99 Z63 Z63 (8 * Int32.toNatClampNeg p0 + Int32.toNatClampNeg p1) := JN.mk (l := Int32.toNatClampNeg (V 3 15)) slx lnx (by omega) (by omega) hV66 hV68 hV96 (by omega) hV99 (by omega) (Or.inr ⟨rfl, by omega, by rw [← hpl]; omega⟩)
              have jn104 : JN V V99 Z Z63 (8 * Int32.toNatClampNeg p0 + Int32.toNatClampNeg p1) := by rw [hV62, hZ63] at jn103; rw [hZ63]; exact JN.gr jn103
              refine W.know (fun kr1 kr2 => ?_)
              refine W.widen (k := zcc Z) (n := zss Z) (Nat.sub_le _ _) (Nat.sub_le _ _) ?_
              exact W.vret hx hb hr (fun t ht hW => ⟨⟨(V99, L, Z63), rfl, ⟨hMV99, agV99, rfl, zoZ63, jn104⟩, ⟨by rw [ht]; exact hP, va_K.moved hW.alike hK, hD⟩, by rw [ht]; exact kr1, by rw [ht]; exact kr2⟩, hS.F ht⟩) hS.2.2 dX8_join_160
            · skip
              have f105 : ((V68 32 (Int32.toNatClampNeg y77))).toInt ≠ (-1) := b_neq rfl (by decide) c94
              refine lv_aload_n hx hb dX8_join_124 rfl (lv_at hl 2 rfl) ?_
              refine va_get (D := D) (ci := 8) (v := .ref Z63.l2) (fs := (xfStock ad V68 L Z63)) (C := RX8) (T := TX8) (N := 16) hx hb hg inX8 hown hK hP 3 xgStock rfl 11 (by decide) (hg _ w389) (fun _ h9 => h9) rfl dX8_join_125 ?_
              refine lv_iload hx hb dX8_join_128 (lv_at hl 1 rfl) ?_
              refine va_iald (D := D) (i := y77) hx hb hK hP 29 22 rfl rfl (i_in (a := y77.toInt) rfl (by omega)) dX8_join_130 ?_
              have kq106 := i_clamp (x := y77) rfl (by (first | exact om_eafa9039069c klp78_1.1 | omega))
              have hq107 : (V68 32 (Int32.toNatClampNeg y77)).toInt < (V 3 15).toInt := by have q := slx.2.2.2 (Int32.toNatClampNeg y77) (by omega); rw [up2_k hV68 (by omega), up2_o hV66 (by decide)]; omega
              refine lv_istore (lv' := [(4, .int (V68 32 (Int32.toNatClampNeg y77))), (5, .int y76), (0, .ref (ad 3)), (1, .int p0), (2, .int p1), (3, .int p2)]) hx hb dX8_join_131 hl (by decide) rfl (fun ls hl => ?_)
              obtain ⟨z108, ez108⟩ : ∃ y : Int32, y = y76 + 1 := ⟨_, rfl⟩
              have hz108 : z108.toInt = y76.toInt + 1 := i_add ez108 rfl (by decide) (by (first | exact om_bc9106cf44c9 klp78_0.1 f90 | omega))
              refine lv_iinc (v := z108) (lv' := [(5, .int z108), (4, .int (V68 32 (Int32.toNatClampNeg y77))), (0, .ref (ad 3)), (1, .int p0), (2, .int p1), (3, .int p2)]) hx hb dX8_join_133 hl (k := 1) rfl (by rw [ez108]; rfl) (by decide) rfl (fun ls hl => ?_)
              refine lv_goto (tgt := 106) hx hb dX8_join_136 (by decide) ?_
              exact ihlp78 z108 (V68 32 (Int32.toNatClampNeg y77)) H locs ls (by (first | exact om_a5349b170263 klp78_0.1 f90 hz108 | omega)) (by (first | exact om_68f131c046bb hlc r91.1 hq93 f105 | omega)) (show ((V68 32 (Int32.toNatClampNeg y77))).toInt < (V 3 15).toInt from by (first | exact om_0e9116797efb hq93 | omega)) (by (first | exact om_9592d9319ffa hn hz108 | omega)) hP hD hS (lv_sub hl [0, 1, 2, 3, 4, 5] rfl)
      have r109 : Int32.toInt 0 = 0 := by decide
      exact lp78 ((24 - (Int32.toInt 0) + 1 : Int).toNat) 0 (V 30 (Int32.toNatClampNeg z71)) H locs ls (by decide) (by (first | exact om_393feb9d3e2e r72.1 r72.2 f75 | omega)) (show ((V 30 (Int32.toNatClampNeg z71))).toInt < (V 3 15).toInt from by omega) (by (first | exact om_817980d3aa47 | omega)) hP hD hS (lv_sub hl [0, 1, 2, 3, 4, 5] rfl)
    · skip
      have f110 : ((V 30 (Int32.toNatClampNeg z71))).toInt = (-1) := b_eq rfl (by decide) c74
      refine lv_aload_n hx hb dX8_join_85 rfl (lv_at hl 1 rfl) ?_
      refine va_get (D := D) (ci := 8) (v := .ref (ad 27)) (fs := (xfStock ad V68 L Z63)) (C := RX8) (T := TX8) (N := 16) hx hb hg inX8 hown hK hP 3 xgStock rfl 9 (by decide) (hg _ w387) (fun _ h9 => h9) rfl dX8_join_86 ?_
      refine lv_iload_n hx hb dX8_join_89 rfl (lv_at hl 2 rfl) ?_
      refine lv_bipush (v := 8) hx hb dX8_join_90 (by decide) ?_
      refine lv_imul hx hb dX8_join_92 ?_
      refine lv_topi (fun z111 ez111 => ?_)
      have hz111 : z111.toInt = p0.toInt * 8 := i_mul ez111 rfl (by decide) (by (first | exact om_d8eca449dd89 rg_p0.1 rg_p0.2 | omega))
      refine lv_iload_n hx hb dX8_join_93 rfl (lv_at hl 3 rfl) ?_
      refine lv_iadd hx hb dX8_join_94 ?_
      refine lv_topi (fun z112 ez112 => ?_)
      have hz112 : z112.toInt = z111.toInt + p1.toInt := i_add ez112 rfl rfl (by (first | exact om_582758b7b1c9 rg_p0.1 rg_p0.2 rg_p1.1 rg_p1.2 hz111 | omega))
      refine lv_aload_n hx hb dX8_join_95 rfl (lv_at hl 1 rfl) ?_
      refine va_get (D := D) (ci := 8) (v := .int (V68 3 15)) (fs := (xfStock ad V68 L Z63)) (C := RX8) (T := TX8) (N := 16) hx hb hg inX8 hown hK hP 3 xgStock rfl 15 (by decide) (hg _ w394) (fun _ h9 => h9) rfl dX8_join_96 ?_
      refine g_top (v := (V 3 15)) ((up2_o hV68 (by decide)).trans ((up2_o hV66 (by decide)).trans (ajV62 3 15 rfl))) ?_
      refine va_iast (D := D) (i := z112) (x := (V 3 15)) hx hb hK hP hD hS 27 20 rfl rfl (i_in (a := z112.toInt) rfl (by (first | exact om_1416c74478ee rg_p0.1 rg_p0.2 rg_p1.1 rg_p1.2 hz111 hz112 | omega))) dX8_join_99 (fun H locs hP hD hS => ?_)
      obtain ⟨V113, hV113⟩ : ∃ z, z = up2 V68 30 (Int32.toNatClampNeg z112) (V 3 15) := ⟨_, rfl⟩
      have ew114 : (xw ad kk V68 L Z63).set 27 ((ad 27), .inl ((kk 27), 2400, .inl (upd (V68 30) (Int32.toNatClampNeg z112) (V 3 15)))) = xw ad kk V113 L Z63 := by rw [hV113]; exact xw_ss (by decide) rfl (xb_si (by decide))
      have hP : va_P D vwCl (xw ad kk V113 L Z63) H := by rw [← ew114]; exact hP
      have hD : va_D A (xw ad kk V113 L Z63) := by rw [← ew114]; exact hD
      have hMV113 : rgd bX V113 := hMV68.put hV113 (show (-1) ≤ ((V 3 15)).toInt ∧ ((V 3 15)).toInt ≤ 262143 from by (first | exact om_ca44e42f4839 hlc r5 f60 zgZ63 hltz | omega))
      have agV113 : agr [(3, 15)] [30, 31, 32] V V113 := agV68.up hV113 rfl
      refine lv_goto (tgt := 150) hx hb dX8_join_100 (by decide) ?_
      refine lv_aload_n hx hb dX8_join_150 rfl (lv_at hl 1 rfl) ?_
      refine lv_dup hx hb dX8_join_151 rfl ?_
      refine va_get (D := D) (ci := 8) (v := .int (V113 3 15)) (fs := (xfStock ad V113 L Z63)) (C := RX8) (T := TX8) (N := 16) hx hb hg inX8 hown hK hP 3 xgStock rfl 15 (by decide) (hg _ w394) (fun _ h9 => h9) rfl dX8_join_152 ?_
      refine g_top (v := (V 3 15)) ((up2_o hV113 (by decide)).trans ((up2_o hV68 (by decide)).trans ((up2_o hV66 (by decide)).trans (ajV62 3 15 rfl)))) ?_
      refine lv_iconst (v := 1) hx hb dX8_join_155 (by decide) ?_
      refine lv_iadd hx hb dX8_join_156 ?_
      refine lv_topi (fun z115 ez115 => ?_)
      have hz115 : z115.toInt = ((V 3 15)).toInt + 1 := i_add ez115 rfl (by decide) (by (first | exact om_0fa10e9e3498 hlc r5 f60 zgZ63 hltz | omega))
      refine va_put (D := D) (ci := 8) (v := .int z115) (ty := tyX8 15) (fs := (xfStock ad V113 L Z63)) (C := RX8) (T := TX8) (N := 16) hx hb hg inX8 tyX8 tyX8_ok nmX8 hown hK hP hD hS 3 xgStock rfl 15 (by decide) (hg _ w394) (fun _ h9 => h9) rfl (tyX8_ok 15 (by decide)) rfl rfl (Nat.le_of_ble_eq_true rfl) dX8_join_157 (fun H locs hP hD hS => ?_)
      obtain ⟨V116, hV116⟩ : ∃ z, z = up2 V113 3 15 z115 := ⟨_, rfl⟩
      have ew117 : (xw ad kk V113 L Z63).set 3 ((ad 3), .inr (8, (xfStock ad V113 L Z63).set 15 (.int z115))) = xw ad kk V116 L Z63 := by rw [hV116]; exact xw_ss (by decide) rfl (xb_si (by decide))
      have hP : va_P D vwCl (xw ad kk V116 L Z63) H := by rw [← ew117]; exact hP
      have hD : va_D A (xw ad kk V116 L Z63) := by rw [← ew117]; exact hD
      have hMV116 : rgd bX V116 := hMV113.put hV116 (show 0 ≤ z115.toInt ∧ z115.toInt ≤ 262144 from by (first | exact om_03c6ea50aeb8 hlc r5 f60 zgZ63 hltz hz115 | omega))
      have agV116 : agr [(3, 15)] [30, 31, 32] V V116 := agV113.up hV116 rfl
      have pq118 : (V116 3 15).toInt = z115.toInt := congrArg Int32.toInt (up2_s hV116)
      have kq119 := i_clamp (x := z112) rfl (by (first | exact om_75abbf7b0b1b rg_p0.1 rg_p1.1 hz111 hz112 | omega))
      have jn120 : JN V62 V116 Z63 Z63 (8 * Int32.toNatClampNeg p0 + Int32.toNatClampNeg p1) := JN.mk (l := Int32.toNatClampNeg (V 3 15)) slx lnx (by omega) (by omega) hV66 hV68 hV113 (by omega) hV116 (by omega) (Or.inl ⟨rfl, by omega⟩)
      have jn121 : JN V V116 Z Z63 (8 * Int32.toNatClampNeg p0 + Int32.toNatClampNeg p1) := by rw [hV62, hZ63] at jn120; rw [hZ63]; exact JN.gr jn120
      refine W.know (fun kr1 kr2 => ?_)
      refine W.widen (k := zcc Z) (n := zss Z) (Nat.sub_le _ _) (Nat.sub_le _ _) ?_
      exact W.vret hx hb hr (fun t ht hW => ⟨⟨(V116, L, Z63), rfl, ⟨hMV116, agV116, rfl, zoZ63, jn121⟩, ⟨by rw [ht]; exact hP, va_K.moved hW.alike hK, hD⟩, by rw [ht]; exact kr1, by rw [ht]; exact kr2⟩, hS.F ht⟩) hS.2.2 dX8_join_160
end
section
/-! MAKING frames -/
theorem FK.s1 {V W : Vf} {b x d : Nat} {w v w' v' : Prop} (h : FK V b x d w v) (k1 : (V 67 d).toInt = 1) (e : (W 67 d).toInt = (V 67 d).toInt ∧ (W 68 d).toInt = (V 68 d).toInt ∧ (W 70 d).toInt = (V 70 d).toInt) (e2 : (W 71 d).toInt = (V 71 d).toInt) (e3 : (W 75 d).toInt = (V 75 d).toInt ∧ (W 76 d).toInt = (V 76 d).toInt) (e4 : (W 43 (5 * b + 2)).toInt = (V 43 (5 * b + 2)).toInt ∧ (W 3 13).toInt = (V 3 13).toInt) (q : w' → w) : FK W b x d w' v' := by
  have f := h.2.2.2.2.2.1 k1
  refine FK.k1 (by omega) ?_ ?_ ?_ f.1 ?_
  · have := h.1 (by omega)
    omega
  · have := h.2.1 (by omega) (by omega)
    omega
  · have := h.2.2.2.2.1 k1
    omega
  · intro a
    have f := f.2 (by omega)
    rw [e3.1, e3.2]
    exact ⟨f.1, fun z => f.2 (q z)⟩
/-- the next candidate is taken -/
theorem FK.nx {V W : Vf} {b x d : Nat} {w v w' v' : Prop} (h : FK V b x d w v) (k1 : (V 67 d).toInt = 1) (ph : (V 68 d).toInt ≠ 1) (e : (W 67 d).toInt = (V 67 d).toInt ∧ (W 68 d).toInt = (V 68 d).toInt ∧ (W 70 d).toInt = (V 70 d).toInt) (e2 : (W 71 d).toInt = (V 71 d).toInt) (e4 : (W 43 (5 * b + 2)).toInt = (V 43 (5 * b + 2)).toInt ∧ (W 3 13).toInt = (V 3 13).toInt) (hp : (V 75 d).toInt ≤ (W 75 d).toInt ∧ (W 75 d).toInt ≤ 8) (hi : 0 ≤ (W 76 d).toInt ∧ (W 76 d).toInt ≤ 25) (hq : 25 * (8 - (W 75 d).toInt) - (W 76 d).toInt ≤ 25 * (8 - (V 75 d).toInt) - (V 76 d).toInt) (hv : w' → (W 75 d).toInt ≤ 7 ∧ 25 * (8 - (W 75 d).toInt) - (W 76 d).toInt + 1 ≤ 25 * (8 - (V 75 d).toInt) - (V 76 d).toInt) : FK W b x d w' v' := by
  have f := h.2.2.2.2.2.1 k1
  refine FK.k1 (by omega) ?_ ?_ ?_ f.1 ?_
  · have := h.1 (by omega)
    omega
  · have := h.2.1 (by omega) (by omega)
    omega
  · omega
  · intro _
    have f := f.2 ph
    exact ⟨by omega, fun z => ⟨(hv z).1, by have := (hv z).2; omega⟩⟩


abbrev r_x_finish2 : Room := { frames := 1, cells := 0, slots := 0, locals := 21 }
abbrev q_x_finish2 (D : va_G) (ks : KS) (ad : Nat → Nat) (kk : Nat → ClassId) (V : Vf) (L : Lf) (Z : XZ) (b : Nat) (gf : Nat) (A : Nat → Prop) : Array Value → State → Outcome → State → Prop := va_Qv (fun (u : Vf × Lf) => rgd bX u.1 ∧ agr [(3, 14), (5, 6), (5, 8), (5, 9), (5, 10)] [28, 29, 40] V u.1 ∧ u.2 = L ∧ (MJ u.1 Z b)) (fun u t => gq D A (xw ad kk u.1 u.2 Z) (xty kk Z) t) A
set_option maxHeartbeats 4000000 in
set_option maxRecDepth 100000 in
theorem x_finish2 (l : Launch) (D : va_G) (ks : KS) (sz : Nat) (ad : Nat → Nat) (kk : Nat → ClassId) (V : Vf) (L : Lf) (Z : XZ) (b : Nat) (gf : Nat) (hMV : rgd bX V) (hb2 : b < 2) (hgf : gf < Z.nf) (mo : MO V Z b gf False False False) (gd : (gf : Int) + 1 = (V 5 6).toInt) (gk : (V 67 gf).toInt = 1)  : Met l yX5_finish (Cond.code yX5_finish cX5_finish 2 none :: GW) r_x_finish2 (va_Pc [.ref (ad 5), .ref (Z.fa gf)] (gp D ks (xw ad kk V L Z) (xty kk Z) sz)) (q_x_finish2 D ks ad kk V L Z  b gf (va_A (xw ad kk V L Z) sz)) 0 0 (va_A (xw ad kk V L Z) sz) := by
  refine g_met (q_x_finish2 D ks ad kk V L Z  b gf) (by decide) (Nat.le_of_ble_eq_true rfl) ?_
  intro p e s m below meth c A ls H locs hx hb hr hml hown hg hlocks hin hnw hgk hP hK hD hS hA hl
  have hown : s.vm.findClass RX5 = some m.cls := hown
  have hl : lv_has ls 2 [(0, .ref (ad 5)), (1, .ref (Z.fa gf))] := hl
  have hP : va_P D vwCl (xw ad kk V L Z) H := hP
  have hD : va_D A (xw ad kk V L Z) := hD
  have hK : va_K D vwCl (xty kk Z) s := hK
  have agV : agr [(3, 14), (5, 6), (5, 8), (5, 9), (5, 10)] [28, 29, 40] V V := agr.rf
  have r1 : 0 ≤ ((V 5 6)).toInt ∧ ((V 5 6)).toInt ≤ 400 := hMV 5 6
  have kdp := i_clamp (x := V 5 6) rfl (by (first | exact om_c66f1b494bd9 gd | omega))
  have hdn : (gf : Int) + 1 ≤ (Z.nf : Int) := by (first | exact om_29efded833ec hgf | omega)
  have mup := MO.up mo
  have msz := mup.1
  have mbk := mup.2.2.2.1
  obtain ⟨xk, fk⟩ := MO.fk mo
  have r2 : (-1) ≤ ((V 71 gf)).toInt ∧ ((V 71 gf)).toInt ≤ 23 := hMV 71 gf
  have r3 : 0 ≤ ((V 75 gf)).toInt ∧ ((V 75 gf)).toInt ≤ 12 := hMV 75 gf
  have r4 : 0 ≤ ((V 80 gf)).toInt ∧ ((V 80 gf)).toInt ≤ 300 := hMV 80 gf
  have r5 : 0 ≤ ((V 84 gf)).toInt ∧ ((V 84 gf)).toInt ≤ 2147483647 := hMV 84 gf
  have r6 : 0 ≤ ((V 5 8)).toInt ∧ ((V 5 8)).toInt ≤ 300 := hMV 5 8
  have r7 : 0 ≤ ((V 5 9)).toInt ∧ ((V 5 9)).toInt ≤ 3 := hMV 5 9
  have r8 : 0 ≤ ((V 3 13)).toInt ∧ ((V 3 13)).toInt ≤ 300 := hMV 3 13
  have r9 : 0 ≤ ((V 43 (5 * b + 2))).toInt ∧ ((V 43 (5 * b + 2))).toInt ≤ ((xcap (5 * b + 2) : Nat) : Int) := hMV 43 (5 * b + 2)
  have r10 : xcap (5 * b + 2) = 24 := xcap_2
  have r11 : 0 ≤ ((V 41 b)).toInt ∧ ((V 41 b)).toInt ≤ 12 := hMV 41 b
  have r12 : 0 ≤ ((V 42 b)).toInt ∧ ((V 42 b)).toInt ≤ 8200 := hMV 42 b
  have fc := fk.1 (by omega)
  have fo := fk.2.1 (by omega) (by omega)
  have fi := fk.2.2.2.2.1 (by omega)
  refine lv_aload_n hx hb dX5_finish_0 rfl (lv_at hl 0 rfl) ?_
  refine va_get (D := D) (ci := 5) (v := .ref (ad 3)) (fs := (xfMachine ad V L Z)) (C := RX5) (T := TX5) (N := 15) hx hb hg inX5 hown hK hP 5 xgMachine rfl 0 (by decide) (hg _ w667) (fun _ h9 => h9) rfl dX5_finish_1 ?_
  refine lv_aload_n hx hb dX5_finish_4 rfl (lv_at hl 1 rfl) ?_
  refine va_getN (D := D) (ci := 4) (v := .int (V 70 gf)) (fs := (xfFrame V gf)) (C := RX4) (T := TX4) (N := 19) hx hb hg inX4 hown hK hP (336 + gf) (xgFrame hgf) rfl 3 (by decide) (hnw.use 1192 n1192 rfl) (fun _ h9 => h9) rfl dX5_finish_5 ?_
  refine gA_void (gA_runV (As := [.int (V 70 gf)]) (rest := []) (ci := 8) (q0 := 3) hx hb hml hown hg hP hD hK hS hA hnw hgk (x_finishObject l D ks H.size ad kk V L Z (V 70 gf) hMV (by first | omega | ((try (have i_mo := Imp.go mo (by omega))); omega))) w1348 w1349 w1350 w164 w1351 rfl xgStock hdV_yX8_finishObject ⟨Nat.le_of_ble_eq_true rfl, Nat.le_of_ble_eq_true rfl⟩ rfl hl.1 rfl (Nat.le_of_ble_eq_true rfl) dX5_finish_8 ⟨Nat.le_of_ble_eq_true rfl, Nat.le_of_ble_eq_true rfl⟩) hP hD hK hS hA (fun u14 H locs w15 hP hD hK hS => ?_)
  obtain ⟨V16, L17⟩ := u14
  obtain ⟨hMV16, ajV16, axL17⟩ := w15
  have axL17 : L = L17 := Eq.symm axL17
  subst axL17
  have hP : va_P D vwCl (xw ad kk V16 L Z) H := hP
  have hD : va_D A (xw ad kk V16 L Z) := hD
  have hMV16 : rgd bX V16 := hMV16
  have ajV16 : agr [(3, 14)] [28, 29] V V16 := ajV16
  have agV16 : agr [(3, 14), (5, 6), (5, 8), (5, 9), (5, 10)] [28, 29, 40] V V16 := agV.tr ajV16 (by decide) (by decide)
  refine lv_aload_n hx hb dX5_finish_11 rfl (lv_at hl 0 rfl) ?_
  refine va_get (D := D) (ci := 5) (v := .int (V16 5 8)) (fs := (xfMachine ad V16 L Z)) (C := RX5) (T := TX5) (N := 15) hx hb hg inX5 hown hK hP 5 xgMachine rfl 8 (by decide) (hg _ w675) (fun _ h9 => h9) rfl dX5_finish_12 ?_
  refine g_top (v := (V 5 8)) (ajV16 5 8 rfl) ?_
  refine lv_sipush (v := 300) hx hb dX5_finish_15 (by decide) ?_
  refine lv_icmp_ge (tgt := 41) hx hb dX5_finish_18 (by decide) (fun c18 => ?_) (fun c18 => ?_)
  · skip
    have f19 : 300 ≤ ((V 5 8)).toInt := b_le (by decide) rfl c18
    refine lv_aload_n hx hb dX5_finish_41 rfl (lv_at hl 0 rfl) ?_
    refine lv_aload_n hx hb dX5_finish_42 rfl (lv_at hl 1 rfl) ?_
    refine va_getN (D := D) (ci := 4) (v := .int (V16 70 gf)) (fs := (xfFrame V16 gf)) (C := RX4) (T := TX4) (N := 19) hx hb hg inX4 hown hK hP (336 + gf) (xgFrame hgf) rfl 3 (by decide) (hnw.use 1192 n1192 rfl) (fun _ h9 => h9) rfl dX5_finish_43 ?_
    refine g_top (v := (V 70 gf)) (ajV16 70 gf rfl) ?_
    refine gA_void (gA_runV (As := [.int (V 70 gf)]) (rest := []) (ci := 5) (q0 := 5) hx hb hml hown hg hP hD hK hS hA hnw hgk (x_answerWith2 l D ks H.size ad kk V16 L Z (V 70 gf) hMV16 ) w1304 w1306 w49 w171 w1307 rfl xgMachine hdV_yX5_answerWith ⟨Nat.le_of_ble_eq_true rfl, Nat.le_of_ble_eq_true rfl⟩ rfl hl.1 rfl (Nat.le_of_ble_eq_true rfl) dX5_finish_46 ⟨Nat.le_of_ble_eq_true rfl, Nat.le_of_ble_eq_true rfl⟩) hP hD hK hS hA (fun u21 H locs w22 hP hD hK hS => ?_)
    obtain ⟨V25, L26⟩ := u21
    obtain ⟨hMV25, ajV25, axL26, t23, t24⟩ := w22
    have axL26 : L = L26 := Eq.symm axL26
    subst axL26
    have hP : va_P D vwCl (xw ad kk V25 L Z) H := hP
    have hD : va_D A (xw ad kk V25 L Z) := hD
    have hMV25 : rgd bX V25 := hMV25
    have ajV25 : agr [(5, 9), (5, 10)] [] V16 V25 := ajV25
    have agV25 : agr [(3, 14), (5, 6), (5, 8), (5, 9), (5, 10)] [28, 29, 40] V V25 := agV16.tr ajV25 (by decide) (by decide)
    have t23 : (V25 5 9).toInt = 1 := t23
    have t24 : (V25 5 10).toInt = ((V 70 gf)).toInt := t24
    have r27 : 0 ≤ ((V25 5 9)).toInt ∧ ((V25 5 9)).toInt ≤ 3 := hMV25 5 9
    refine lv_aload_n hx hb dX5_finish_49 rfl (lv_at hl 0 rfl) ?_
    have pq28 : (V25 5 6).toInt = ((V 5 6)).toInt := congrArg Int32.toInt ((ajV25 5 6 rfl).trans (ajV16 5 6 rfl))
    refine gA_void (gA_runV (As := []) (rest := []) (ci := 5) (q0 := 5) hx hb hml hown hg hP hD hK hS hA hnw hgk (x_leave l D ks H.size ad kk V25 L Z  hMV25 (show 1 ≤ (V25 5 6).toInt from by first | exact om_0cac171fa40c gd pq28 | first | omega | ((try (have i_mo := Imp.go mo (by omega))); omega))) w1308 w1310 w50 w171 w1311 rfl xgMachine hdV_yX5_leave ⟨Nat.le_of_ble_eq_true rfl, Nat.le_of_ble_eq_true rfl⟩ rfl hl.1 rfl (Nat.le_of_ble_eq_true rfl) dX5_finish_50 ⟨Nat.le_of_ble_eq_true rfl, Nat.le_of_ble_eq_true rfl⟩) hP hD hK hS hA (fun u30 H locs w31 hP hD hK hS => ?_)
    obtain ⟨V33, L34⟩ := u30
    obtain ⟨hMV33, ajV33, axL34, t32⟩ := w31
    have axL34 : L = L34 := Eq.symm axL34
    subst axL34
    have hP : va_P D vwCl (xw ad kk V33 L Z) H := hP
    have hD : va_D A (xw ad kk V33 L Z) := hD
    have hMV33 : rgd bX V33 := hMV33
    have ajV33 : agr [(5, 6)] [] V25 V33 := ajV33
    have agV33 : agr [(3, 14), (5, 6), (5, 8), (5, 9), (5, 10)] [28, 29, 40] V V33 := agV25.tr ajV33 (by decide) (by decide)
    have t32 : (V33 5 6).toInt = (V25 5 6).toInt - 1 := t32
    have r35 : 0 ≤ ((V33 5 6)).toInt ∧ ((V33 5 6)).toInt ≤ 400 := hMV33 5 6
    have me36 : ME V V33 gf := (ME.tr (ME.tr (ME.tr ME.rf (ME.ag ajV16 (by decide))) (ME.ag ajV25 (by decide))) (ME.ag ajV33 (by decide)))
    have pq37 : (V33 67 gf).toInt = ((V 67 gf)).toInt := congrArg Int32.toInt ((ajV33 67 gf rfl).trans ((ajV25 67 gf rfl).trans (ajV16 67 gf rfl)))
    have pq38 : (V33 68 gf).toInt = ((V 68 gf)).toInt := congrArg Int32.toInt ((ajV33 68 gf rfl).trans ((ajV25 68 gf rfl).trans (ajV16 68 gf rfl)))
    have pq39 : (V33 70 gf).toInt = ((V 70 gf)).toInt := congrArg Int32.toInt ((ajV33 70 gf rfl).trans ((ajV25 70 gf rfl).trans (ajV16 70 gf rfl)))
    have pq40 : (V33 71 gf).toInt = ((V 71 gf)).toInt := congrArg Int32.toInt ((ajV33 71 gf rfl).trans ((ajV25 71 gf rfl).trans (ajV16 71 gf rfl)))
    have pq41 : (V33 75 gf).toInt = ((V 75 gf)).toInt := congrArg Int32.toInt ((ajV33 75 gf rfl).trans ((ajV25 75 gf rfl).trans (ajV16 75 gf rfl)))
    have pq42 : (V33 76 gf).toInt = ((V 76 gf)).toInt := congrArg Int32.toInt ((ajV33 76 gf rfl).trans ((ajV25 76 gf rfl).trans (ajV16 76 gf rfl)))
    have pq43 : (V33 80 gf).toInt = ((V 80 gf)).toInt := congrArg Int32.toInt ((ajV33 80 gf rfl).trans ((ajV25 80 gf rfl).trans (ajV16 80 gf rfl)))
    have pq44 : (V33 84 gf).toInt = ((V 84 gf)).toInt := congrArg Int32.toInt ((ajV33 84 gf rfl).trans ((ajV25 84 gf rfl).trans (ajV16 84 gf rfl)))
    have pq45 : (V33 5 8).toInt = ((V 5 8)).toInt := congrArg Int32.toInt ((ajV33 5 8 rfl).trans ((ajV25 5 8 rfl).trans (ajV16 5 8 rfl)))
    have pq46 : (V33 5 9).toInt = ((V25 5 9)).toInt := congrArg Int32.toInt (ajV33 5 9 rfl)
    have pq47 : (V33 3 13).toInt = ((V 3 13)).toInt := congrArg Int32.toInt ((ajV33 3 13 rfl).trans ((ajV25 3 13 rfl).trans (ajV16 3 13 rfl)))
    have pq48 : (V33 43 (5 * b + 2)).toInt = ((V 43 (5 * b + 2))).toInt := congrArg Int32.toInt ((ajV33 43 (5 * b + 2) rfl).trans ((ajV25 43 (5 * b + 2) rfl).trans (ajV16 43 (5 * b + 2) rfl)))
    have pq49 : (V33 42 b).toInt = ((V 42 b)).toInt := congrArg Int32.toInt ((ajV33 42 b rfl).trans ((ajV25 42 b rfl).trans (ajV16 42 b rfl)))
    have pq50 : (V33 41 b).toInt = ((V 41 b)).toInt := congrArg Int32.toInt ((ajV33 41 b rfl).trans ((ajV25 41 b rfl).trans (ajV16 41 b rfl)))
    have rp51 : MJ V33 Z b := MP.lv (MO.mp mo) me36 (by (first | exact om_5ac7632c8ef3 gd pq28 t32 | omega)) (fun _ => Or.inl (by omega))
    exact W.vret hx hb hr (fun t ht hW => ⟨⟨(V33, L), rfl, ⟨hMV33, agV33, rfl, rp51⟩, by rw [ht]; exact hP, va_K.moved hW.alike hK, hD⟩, hS.F ht⟩) hS.2.2 dX5_finish_53
  · skip
    have f52 : ((V 5 8)).toInt < 300 := b_nle (by decide) rfl c18
    refine lv_aload_n hx hb dX5_finish_21 rfl (lv_at hl 0 rfl) ?_
    refine va_get (D := D) (ci := 5) (v := .ref (ad 37)) (fs := (xfMachine ad V16 L Z)) (C := RX5) (T := TX5) (N := 15) hx hb hg inX5 hown hK hP 5 xgMachine rfl 4 (by decide) (hg _ w671) (fun _ h9 => h9) rfl dX5_finish_22 ?_
    refine lv_aload_n hx hb dX5_finish_25 rfl (lv_at hl 0 rfl) ?_
    refine lv_dup hx hb dX5_finish_26 rfl ?_
    refine va_get (D := D) (ci := 5) (v := .int (V16 5 8)) (fs := (xfMachine ad V16 L Z)) (C := RX5) (T := TX5) (N := 15) hx hb hg inX5 hown hK hP 5 xgMachine rfl 8 (by decide) (hg _ w675) (fun _ h9 => h9) rfl dX5_finish_27 ?_
    refine g_top (v := (V 5 8)) (ajV16 5 8 rfl) ?_
    refine lv_dup_x1 hx hb dX5_finish_30 rfl rfl ?_
    refine lv_iconst (v := 1) hx hb dX5_finish_31 (by decide) ?_
    refine lv_iadd hx hb dX5_finish_32 ?_
    refine lv_topi (fun z53 ez53 => ?_)
    have hz53 : z53.toInt = ((V 5 8)).toInt + 1 := i_add ez53 rfl (by decide) (by (first | exact om_e89c2ae064a9 r6.1 f52 | omega))
    refine va_put (D := D) (ci := 5) (v := .int z53) (ty := tyX5 8) (fs := (xfMachine ad V16 L Z)) (C := RX5) (T := TX5) (N := 15) hx hb hg inX5 tyX5 tyX5_ok nmX5 hown hK hP hD hS 5 xgMachine rfl 8 (by decide) (hg _ w675) (fun _ h9 => h9) rfl (tyX5_ok 8 (by decide)) rfl rfl (Nat.le_of_ble_eq_true rfl) dX5_finish_33 (fun H locs hP hD hS => ?_)
    obtain ⟨V54, hV54⟩ : ∃ z, z = up2 V16 5 8 z53 := ⟨_, rfl⟩
    have ew55 : (xw ad kk V16 L Z).set 5 ((ad 5), .inr (5, (xfMachine ad V16 L Z).set 8 (.int z53))) = xw ad kk V54 L Z := by rw [hV54]; exact xw_ss (by decide) rfl (xb_si (by decide))
    have hP : va_P D vwCl (xw ad kk V54 L Z) H := by rw [← ew55]; exact hP
    have hD : va_D A (xw ad kk V54 L Z) := by rw [← ew55]; exact hD
    have hMV54 : rgd bX V54 := hMV16.put hV54 (show 0 ≤ z53.toInt ∧ z53.toInt ≤ 300 from by first | exact om_59cf3ec53513 r6.1 f52 hz53 | first | omega | ((try (have i_mo := Imp.go mo (by omega))); omega))
    have agV54 : agr [(3, 14), (5, 6), (5, 8), (5, 9), (5, 10)] [28, 29, 40] V V54 := agV16.up hV54 rfl
    refine lv_aload_n hx hb dX5_finish_36 rfl (lv_at hl 1 rfl) ?_
    refine va_getN (D := D) (ci := 4) (v := .int (V54 70 gf)) (fs := (xfFrame V54 gf)) (C := RX4) (T := TX4) (N := 19) hx hb hg inX4 hown hK hP (336 + gf) (xgFrame hgf) rfl 3 (by decide) (hnw.use 1192 n1192 rfl) (fun _ h9 => h9) rfl dX5_finish_37 ?_
    refine g_top (v := (V 70 gf)) ((up2_o hV54 (by decide)).trans (ajV16 70 gf rfl)) ?_
    refine va_iast (D := D) (i := (V 5 8)) (x := (V 70 gf)) hx hb hK hP hD hS 37 30 rfl rfl (i_in (a := ((V 5 8)).toInt) rfl (by first | exact om_5b0e5b7d98b0 r6.1 f52 | first | omega | ((try (have i_mo := Imp.go mo (by omega))); omega))) dX5_finish_40 (fun H locs hP hD hS => ?_)
    obtain ⟨V56, hV56⟩ : ∃ z, z = up2 V54 40 (Int32.toNatClampNeg (V 5 8)) (V 70 gf) := ⟨_, rfl⟩
    have ew57 : (xw ad kk V54 L Z).set 37 ((ad 37), .inl ((kk 37), 300, .inl (upd (V54 40) (Int32.toNatClampNeg (V 5 8)) (V 70 gf)))) = xw ad kk V56 L Z := by rw [hV56]; exact xw_ss (by decide) rfl (xb_si (by decide))
    have hP : va_P D vwCl (xw ad kk V56 L Z) H := by rw [← ew57]; exact hP
    have hD : va_D A (xw ad kk V56 L Z) := by rw [← ew57]; exact hD
    have hMV56 : rgd bX V56 := hMV54.put hV56 (show 0 ≤ ((V 70 gf)).toInt ∧ ((V 70 gf)).toInt ≤ 299 from by first | omega | ((try (have i_mo := Imp.go mo (by omega))); omega))
    have agV56 : agr [(3, 14), (5, 6), (5, 8), (5, 9), (5, 10)] [28, 29, 40] V V56 := agV54.up hV56 rfl
    have me58 : ME V V16 gf := (ME.tr ME.rf (ME.ag ajV16 (by decide)))
    have pq59 : (V16 67 gf).toInt = ((V 67 gf)).toInt := congrArg Int32.toInt (ajV16 67 gf rfl)
    have pq60 : (V16 68 gf).toInt = ((V 68 gf)).toInt := congrArg Int32.toInt (ajV16 68 gf rfl)
    have pq61 : (V16 70 gf).toInt = ((V 70 gf)).toInt := congrArg Int32.toInt (ajV16 70 gf rfl)
    have pq62 : (V16 71 gf).toInt = ((V 71 gf)).toInt := congrArg Int32.toInt (ajV16 71 gf rfl)
    have pq63 : (V16 75 gf).toInt = ((V 75 gf)).toInt := congrArg Int32.toInt (ajV16 75 gf rfl)
    have pq64 : (V16 76 gf).toInt = ((V 76 gf)).toInt := congrArg Int32.toInt (ajV16 76 gf rfl)
    have pq65 : (V16 80 gf).toInt = ((V 80 gf)).toInt := congrArg Int32.toInt (ajV16 80 gf rfl)
    have pq66 : (V16 84 gf).toInt = ((V 84 gf)).toInt := congrArg Int32.toInt (ajV16 84 gf rfl)
    have pq67 : (V16 5 6).toInt = ((V 5 6)).toInt := congrArg Int32.toInt (ajV16 5 6 rfl)
    have pq68 : (V16 5 8).toInt = ((V 5 8)).toInt := congrArg Int32.toInt (ajV16 5 8 rfl)
    have pq69 : (V16 5 9).toInt = ((V 5 9)).toInt := congrArg Int32.toInt (ajV16 5 9 rfl)
    have pq70 : (V16 3 13).toInt = ((V 3 13)).toInt := congrArg Int32.toInt (ajV16 3 13 rfl)
    have pq71 : (V16 43 (5 * b + 2)).toInt = ((V 43 (5 * b + 2))).toInt := congrArg Int32.toInt (ajV16 43 (5 * b + 2) rfl)
    have pq72 : (V16 42 b).toInt = ((V 42 b)).toInt := congrArg Int32.toInt (ajV16 42 b rfl)
    have pq73 : (V16 41 b).toInt = ((V 41 b)).toInt := congrArg Int32.toInt (ajV16 41 b rfl)
    have mo74 : MO V16 Z b gf False False False := MO.ch mo me58 (ajV16 67 gf rfl) (ajV16 80 gf rfl) (fun _ => Or.inl (by omega)) (fun x h => FK.s1 h (by omega) (by omega) (by omega) (by omega) (by omega) (fun z => z.elim))
    have kmd := i_clamp (x := (V 5 8)) rfl (by (first | exact om_eafa9039069c r6.1 | omega))
    have mp75 : MP V56 Z b gf True := MO.made mo74 (by (first | exact om_ed616bc53b7b gk pq59 | omega)) hV54 hV56 (by (first | exact om_1e933ee011dc hz53 pq68 | omega)) (by (first | exact om_2fd0a1c2005b pq68 kmd | omega)) (by omega)
    refine lv_aload_n hx hb dX5_finish_41 rfl (lv_at hl 0 rfl) ?_
    refine lv_aload_n hx hb dX5_finish_42 rfl (lv_at hl 1 rfl) ?_
    refine va_getN (D := D) (ci := 4) (v := .int (V56 70 gf)) (fs := (xfFrame V56 gf)) (C := RX4) (T := TX4) (N := 19) hx hb hg inX4 hown hK hP (336 + gf) (xgFrame hgf) rfl 3 (by decide) (hnw.use 1192 n1192 rfl) (fun _ h9 => h9) rfl dX5_finish_43 ?_
    refine g_top (v := (V 70 gf)) ((up2_o hV56 (by decide)).trans ((up2_o hV54 (by decide)).trans (ajV16 70 gf rfl))) ?_
    refine gA_void (gA_runV (As := [.int (V 70 gf)]) (rest := []) (ci := 5) (q0 := 5) hx hb hml hown hg hP hD hK hS hA hnw hgk (x_answerWith2 l D ks H.size ad kk V56 L Z (V 70 gf) hMV56 ) w1304 w1306 w49 w171 w1307 rfl xgMachine hdV_yX5_answerWith ⟨Nat.le_of_ble_eq_true rfl, Nat.le_of_ble_eq_true rfl⟩ rfl hl.1 rfl (Nat.le_of_ble_eq_true rfl) dX5_finish_46 ⟨Nat.le_of_ble_eq_true rfl, Nat.le_of_ble_eq_true rfl⟩) hP hD hK hS hA (fun u77 H locs w78 hP hD hK hS => ?_)
    obtain ⟨V81, L82⟩ := u77
    obtain ⟨hMV81, ajV81, axL82, t79, t80⟩ := w78
    have axL82 : L = L82 := Eq.symm axL82
    subst axL82
    have hP : va_P D vwCl (xw ad kk V81 L Z) H := hP
    have hD : va_D A (xw ad kk V81 L Z) := hD
    have hMV81 : rgd bX V81 := hMV81
    have ajV81 : agr [(5, 9), (5, 10)] [] V56 V81 := ajV81
    have agV81 : agr [(3, 14), (5, 6), (5, 8), (5, 9), (5, 10)] [28, 29, 40] V V81 := agV56.tr ajV81 (by decide) (by decide)
    have t79 : (V81 5 9).toInt = 1 := t79
    have t80 : (V81 5 10).toInt = ((V 70 gf)).toInt := t80
    have r83 : 0 ≤ ((V81 5 9)).toInt ∧ ((V81 5 9)).toInt ≤ 3 := hMV81 5 9
    refine lv_aload_n hx hb dX5_finish_49 rfl (lv_at hl 0 rfl) ?_
    have pq84 : (V81 5 6).toInt = ((V 5 6)).toInt := congrArg Int32.toInt ((ajV81 5 6 rfl).trans ((up2_o hV56 (by decide)).trans ((up2_k hV54 (by decide)).trans (ajV16 5 6 rfl))))
    refine gA_void (gA_runV (As := []) (rest := []) (ci := 5) (q0 := 5) hx hb hml hown hg hP hD hK hS hA hnw hgk (x_leave l D ks H.size ad kk V81 L Z  hMV81 (show 1 ≤ (V81 5 6).toInt from by first | exact om_0cac171fa40c gd pq84 | first | omega | ((try (have i_mo := Imp.go mo (by omega))); omega))) w1308 w1310 w50 w171 w1311 rfl xgMachine hdV_yX5_leave ⟨Nat.le_of_ble_eq_true rfl, Nat.le_of_ble_eq_true rfl⟩ rfl hl.1 rfl (Nat.le_of_ble_eq_true rfl) dX5_finish_50 ⟨Nat.le_of_ble_eq_true rfl, Nat.le_of_ble_eq_true rfl⟩) hP hD hK hS hA (fun u86 H locs w87 hP hD hK hS => ?_)
    obtain ⟨V89, L90⟩ := u86
    obtain ⟨hMV89, ajV89, axL90, t88⟩ := w87
    have axL90 : L = L90 := Eq.symm axL90
    subst axL90
    have hP : va_P D vwCl (xw ad kk V89 L Z) H := hP
    have hD : va_D A (xw ad kk V89 L Z) := hD
    have hMV89 : rgd bX V89 := hMV89
    have ajV89 : agr [(5, 6)] [] V81 V89 := ajV89
    have agV89 : agr [(3, 14), (5, 6), (5, 8), (5, 9), (5, 10)] [28, 29, 40] V V89 := agV81.tr ajV89 (by decide) (by decide)
    have t88 : (V89 5 6).toInt = (V81 5 6).toInt - 1 := t88
    have r91 : 0 ≤ ((V89 5 6)).toInt ∧ ((V89 5 6)).toInt ≤ 400 := hMV89 5 6
    have me92 : ME V56 V89 gf := (ME.tr (ME.tr ME.rf (ME.ag ajV81 (by decide))) (ME.ag ajV89 (by decide)))
    have pq93 : (V89 67 gf).toInt = ((V 67 gf)).toInt := congrArg Int32.toInt ((ajV89 67 gf rfl).trans ((ajV81 67 gf rfl).trans ((up2_o hV56 (by decide)).trans ((up2_o hV54 (by decide)).trans (ajV16 67 gf rfl)))))
    have pq94 : (V89 68 gf).toInt = ((V 68 gf)).toInt := congrArg Int32.toInt ((ajV89 68 gf rfl).trans ((ajV81 68 gf rfl).trans ((up2_o hV56 (by decide)).trans ((up2_o hV54 (by decide)).trans (ajV16 68 gf rfl)))))
    have pq95 : (V89 70 gf).toInt = ((V 70 gf)).toInt := congrArg Int32.toInt ((ajV89 70 gf rfl).trans ((ajV81 70 gf rfl).trans ((up2_o hV56 (by decide)).trans ((up2_o hV54 (by decide)).trans (ajV16 70 gf rfl)))))
    have pq96 : (V89 71 gf).toInt = ((V 71 gf)).toInt := congrArg Int32.toInt ((ajV89 71 gf rfl).trans ((ajV81 71 gf rfl).trans ((up2_o hV56 (by decide)).trans ((up2_o hV54 (by decide)).trans (ajV16 71 gf rfl)))))
    have pq97 : (V89 75 gf).toInt = ((V 75 gf)).toInt := congrArg Int32.toInt ((ajV89 75 gf rfl).trans ((ajV81 75 gf rfl).trans ((up2_o hV56 (by decide)).trans ((up2_o hV54 (by decide)).trans (ajV16 75 gf rfl)))))
    have pq98 : (V89 76 gf).toInt = ((V 76 gf)).toInt := congrArg Int32.toInt ((ajV89 76 gf rfl).trans ((ajV81 76 gf rfl).trans ((up2_o hV56 (by decide)).trans ((up2_o hV54 (by decide)).trans (ajV16 76 gf rfl)))))
    have pq99 : (V89 80 gf).toInt = ((V 80 gf)).toInt := congrArg Int32.toInt ((ajV89 80 gf rfl).trans ((ajV81 80 gf rfl).trans ((up2_o hV56 (by decide)).trans ((up2_o hV54 (by decide)).trans (ajV16 80 gf rfl)))))
    have pq100 : (V89 84 gf).toInt = ((V 84 gf)).toInt := congrArg Int32.toInt ((ajV89 84 gf rfl).trans ((ajV81 84 gf rfl).trans ((up2_o hV56 (by decide)).trans ((up2_o hV54 (by decide)).trans (ajV16 84 gf rfl)))))
    have pq101 : (V89 5 8).toInt = z53.toInt := congrArg Int32.toInt ((ajV89 5 8 rfl).trans ((ajV81 5 8 rfl).trans ((up2_o hV56 (by decide)).trans (up2_s hV54))))
    have pq102 : (V89 5 9).toInt = ((V81 5 9)).toInt := congrArg Int32.toInt (ajV89 5 9 rfl)
    have pq103 : (V89 3 13).toInt = ((V 3 13)).toInt := congrArg Int32.toInt ((ajV89 3 13 rfl).trans ((ajV81 3 13 rfl).trans ((up2_o hV56 (by decide)).trans ((up2_o hV54 (by decide)).trans (ajV16 3 13 rfl)))))
    have pq104 : (V89 43 (5 * b + 2)).toInt = ((V 43 (5 * b + 2))).toInt := congrArg Int32.toInt ((ajV89 43 (5 * b + 2) rfl).trans ((ajV81 43 (5 * b + 2) rfl).trans ((up2_o hV56 (by decide)).trans ((up2_o hV54 (by decide)).trans (ajV16 43 (5 * b + 2) rfl)))))
    have pq105 : (V89 42 b).toInt = ((V 42 b)).toInt := congrArg Int32.toInt ((ajV89 42 b rfl).trans ((ajV81 42 b rfl).trans ((up2_o hV56 (by decide)).trans ((up2_o hV54 (by decide)).trans (ajV16 42 b rfl)))))
    have pq106 : (V89 41 b).toInt = ((V 41 b)).toInt := congrArg Int32.toInt ((ajV89 41 b rfl).trans ((ajV81 41 b rfl).trans ((up2_o hV56 (by decide)).trans ((up2_o hV54 (by decide)).trans (ajV16 41 b rfl)))))
    have rp107 : MJ V89 Z b := MP.lv mp75 me92 (by (first | exact om_5ac7632c8ef3 gd pq84 t88 | omega)) (fun _ => trivial)
    exact W.vret hx hb hr (fun t ht hW => ⟨⟨(V89, L), rfl, ⟨hMV89, agV89, rfl, rp107⟩, by rw [ht]; exact hP, va_K.moved hW.alike hK, hD⟩, hS.F ht⟩) hS.2.2 dX5_finish_53
abbrev r_x_abandon2 : Room := { frames := 1, cells := 0, slots := 0, locals := 22 }
abbrev q_x_abandon2 (D : va_G) (ks : KS) (ad : Nat → Nat) (kk : Nat → ClassId) (V : Vf) (L : Lf) (Z : XZ) (b : Nat) (gf : Nat) (A : Nat → Prop) : Array Value → State → Outcome → State → Prop := va_Qv (fun (u : Vf × Lf) => rgd bX u.1 ∧ agr [(5, 6)] [24, 25, 28] V u.1 ∧ u.2 = L ∧ (MJ u.1 Z b)) (fun u t => gq D A (xw ad kk u.1 u.2 Z) (xty kk Z) t) A
set_option maxHeartbeats 4000000 in
set_option maxRecDepth 100000 in
theorem x_abandon2 (l : Launch) (D : va_G) (ks : KS) (sz : Nat) (ad : Nat → Nat) (kk : Nat → ClassId) (V : Vf) (L : Lf) (Z : XZ) (b : Nat) (gf : Nat) (hMV : rgd bX V) (hb2 : b < 2) (hgf : gf < Z.nf) (mo : MO V Z b gf False False False) (gd : (gf : Int) + 1 = (V 5 6).toInt) (gk : (V 67 gf).toInt = 1)  : Met l yX5_abandon (Cond.code yX5_abandon cX5_abandon 4 none :: GW) r_x_abandon2 (va_Pc [.ref (ad 5), .ref (Z.fa gf)] (gp D ks (xw ad kk V L Z) (xty kk Z) sz)) (q_x_abandon2 D ks ad kk V L Z  b gf (va_A (xw ad kk V L Z) sz)) 0 0 (va_A (xw ad kk V L Z) sz) := by
  refine g_met (q_x_abandon2 D ks ad kk V L Z  b gf) (by decide) (Nat.le_of_ble_eq_true rfl) ?_
  intro p e s m below meth c A ls H locs hx hb hr hml hown hg hlocks hin hnw hgk hP hK hD hS hA hl
  have hown : s.vm.findClass RX5 = some m.cls := hown
  have hl : lv_has ls 4 [(0, .ref (ad 5)), (1, .ref (Z.fa gf))] := hl
  have hP : va_P D vwCl (xw ad kk V L Z) H := hP
  have hD : va_D A (xw ad kk V L Z) := hD
  have hK : va_K D vwCl (xty kk Z) s := hK
  have agV : agr [(5, 6)] [24, 25, 28] V V := agr.rf
  have r1 : 0 ≤ ((V 5 6)).toInt ∧ ((V 5 6)).toInt ≤ 400 := hMV 5 6
  have kdp := i_clamp (x := V 5 6) rfl (by (first | exact om_c66f1b494bd9 gd | omega))
  have hdn : (gf : Int) + 1 ≤ (Z.nf : Int) := by (first | exact om_29efded833ec hgf | omega)
  have mup := MO.up mo
  have msz := mup.1
  have mbk := mup.2.2.2.1
  obtain ⟨xk, fk⟩ := MO.fk mo
  have r2 : (-1) ≤ ((V 71 gf)).toInt ∧ ((V 71 gf)).toInt ≤ 23 := hMV 71 gf
  have r3 : 0 ≤ ((V 75 gf)).toInt ∧ ((V 75 gf)).toInt ≤ 12 := hMV 75 gf
  have r4 : 0 ≤ ((V 80 gf)).toInt ∧ ((V 80 gf)).toInt ≤ 300 := hMV 80 gf
  have r5 : 0 ≤ ((V 84 gf)).toInt ∧ ((V 84 gf)).toInt ≤ 2147483647 := hMV 84 gf
  have r6 : 0 ≤ ((V 5 8)).toInt ∧ ((V 5 8)).toInt ≤ 300 := hMV 5 8
  have r7 : 0 ≤ ((V 5 9)).toInt ∧ ((V 5 9)).toInt ≤ 3 := hMV 5 9
  have r8 : 0 ≤ ((V 3 13)).toInt ∧ ((V 3 13)).toInt ≤ 300 := hMV 3 13
  have r9 : 0 ≤ ((V 43 (5 * b + 2))).toInt ∧ ((V 43 (5 * b + 2))).toInt ≤ ((xcap (5 * b + 2) : Nat) : Int) := hMV 43 (5 * b + 2)
  have r10 : xcap (5 * b + 2) = 24 := xcap_2
  have r11 : 0 ≤ ((V 41 b)).toInt ∧ ((V 41 b)).toInt ≤ 12 := hMV 41 b
  have r12 : 0 ≤ ((V 42 b)).toInt ∧ ((V 42 b)).toInt ≤ 8200 := hMV 42 b
  have fc := fk.1 (by omega)
  have fo := fk.2.1 (by omega) (by omega)
  have fi := fk.2.2.2.2.1 (by omega)
  refine lv_aload_n hx hb dX5_abandon_0 rfl (lv_at hl 0 rfl) ?_
  refine va_get (D := D) (ci := 5) (v := .ref (ad 3)) (fs := (xfMachine ad V L Z)) (C := RX5) (T := TX5) (N := 15) hx hb hg inX5 hown hK hP 5 xgMachine rfl 0 (by decide) (hg _ w667) (fun _ h9 => h9) rfl dX5_abandon_1 ?_
  refine lv_aload_n hx hb dX5_abandon_4 rfl (lv_at hl 1 rfl) ?_
  refine va_getN (D := D) (ci := 4) (v := .int (V 70 gf)) (fs := (xfFrame V gf)) (C := RX4) (T := TX4) (N := 19) hx hb hg inX4 hown hK hP (336 + gf) (xgFrame hgf) rfl 3 (by decide) (hnw.use 1192 n1192 rfl) (fun _ h9 => h9) rfl dX5_abandon_5 ?_
  refine gA_void (gA_runV (As := [.int (V 70 gf)]) (rest := []) (ci := 8) (q0 := 3) hx hb hml hown hg hP hD hK hS hA hnw hgk (x_dropObject2 l D ks H.size ad kk V L Z (V 70 gf) hMV (by first | omega | ((try (have i_mo := Imp.go mo (by omega))); omega))) w1336 w1337 w1338 w164 w1339 rfl xgStock hdV_yX8_dropObject ⟨Nat.le_of_ble_eq_true rfl, Nat.le_of_ble_eq_true rfl⟩ rfl hl.1 rfl (Nat.le_of_ble_eq_true rfl) dX5_abandon_8 ⟨Nat.le_of_ble_eq_true rfl, Nat.le_of_ble_eq_true rfl⟩) hP hD hK hS hA (fun u14 H locs w15 hP hD hK hS => ?_)
  obtain ⟨V17, L18⟩ := u14
  obtain ⟨hMV17, ajV17, axL18, t16⟩ := w15
  have axL18 : L = L18 := Eq.symm axL18
  subst axL18
  have hP : va_P D vwCl (xw ad kk V17 L Z) H := hP
  have hD : va_D A (xw ad kk V17 L Z) := hD
  have hMV17 : rgd bX V17 := hMV17
  have ajV17 : agr [] [25, 28] V V17 := ajV17
  have agV17 : agr [(5, 6)] [24, 25, 28] V V17 := agV.tr ajV17 (by decide) (by decide)
  have t16 : ∀ n, ME V V17 n := t16
  refine lv_aload_n hx hb dX5_abandon_11 rfl (lv_at hl 0 rfl) ?_
  refine va_get (D := D) (ci := 5) (v := .int (V17 5 12)) (fs := (xfMachine ad V17 L Z)) (C := RX5) (T := TX5) (N := 15) hx hb hg inX5 hown hK hP 5 xgMachine rfl 12 (by decide) (hg _ w679) (fun _ h9 => h9) rfl dX5_abandon_12 ?_
  refine g_top (v := (V 5 12)) (ajV17 5 12 rfl) ?_
  refine lv_bipush (v := 12) hx hb dX5_abandon_15 (by decide) ?_
  refine lv_icmp_eq (tgt := 38) hx hb dX5_abandon_17 (by decide) (fun c19 => ?_) (fun c19 => ?_)
  · skip
    have f20 : ((V 5 12)).toInt = 12 := b_eq rfl (by decide) c19
    refine lv_iconst (v := 1) hx hb dX5_abandon_38 (by decide) ?_
    refine lv_goto (tgt := 43) hx hb dX5_abandon_39 (by decide) ?_
    refine lv_istore_n (lv' := [(2, .int 1), (0, .ref (ad 5)), (1, .ref (Z.fa gf))]) hx hb dX5_abandon_43 rfl hl (by decide) rfl (fun ls hl => ?_)
    refine lv_aload_n hx hb dX5_abandon_44 rfl (lv_at hl 1 rfl) ?_
    refine va_get (D := D) (ci := 5) (v := .ref (ad (38 + Int32.toNatClampNeg (V17 5 5)))) (fs := (xfMachine ad V17 L Z)) (C := RX5) (T := TX5) (N := 15) hx hb hg inX5 hown hK hP 5 xgMachine rfl 5 (by decide) (hg _ w672) (fun _ h9 => h9) rfl dX5_abandon_45 ?_
    have pq21 : (V17 5 5).toInt = ((V 5 5)).toInt := congrArg Int32.toInt (ajV17 5 5 rfl)
    have r22 : 0 ≤ ((V 5 5)).toInt ∧ ((V 5 5)).toInt ≤ 1 := hMV 5 5
    refine g_topv (v := .ref (ad (38 + b))) (rfP (by first | omega | ((try (have i_mo := Imp.go mo (by omega))); omega))) ?_
    refine va_getN (D := D) (ci := 0) (v := .ref (ad (64 + b))) (fs := (xfBook ad V17 b)) (C := RX0) (T := TX0) (N := 13) hx hb hg inX0 hown hK hP (38 + b) (xgBook hb2) rfl 7 (by decide) (hnw.use 618 n618 rfl) (fun _ h9 => h9) rfl dX5_abandon_48 ?_
    refine lv_aload_n hx hb dX5_abandon_51 rfl (lv_at hl 2 rfl) ?_
    refine va_getN (D := D) (ci := 4) (v := .int (V17 71 gf)) (fs := (xfFrame V17 gf)) (C := RX4) (T := TX4) (N := 19) hx hb hg inX4 hown hK hP (336 + gf) (xgFrame hgf) rfl 4 (by decide) (hnw.use 1193 n1193 rfl) (fun _ h9 => h9) rfl dX5_abandon_52 ?_
    refine g_top (v := (V 71 gf)) (ajV17 71 gf rfl) ?_
    have il23 : b < 2 := by first | exact om_f940a4667dd6 hb2 | first | omega | ((try (have i_mo := Imp.go mo (by omega))); omega)
    refine va_aldq (D := D) (i := (V 71 gf)) hx hb hK hP (64 + b) (57 + b) (xgcomps il23) (xtcomps il23) (i_in (a := ((V 71 gf)).toInt) rfl (by first | omega | ((try (have i_mo := Imp.go mo (by omega))); omega))) dX5_abandon_55 ?_
    have kc24 := i_clamp (x := (V 71 gf)) rfl (by first | omega | ((try (have i_mo := Imp.go mo (by omega))); omega))
    refine g_topv (v := .ref (ad (72 + (24 * b + (Int32.toNatClampNeg (V 71 gf)))))) (congrArg va_rf (if_pos (by first | omega | ((try (have i_mo := Imp.go mo (by omega))); omega)))) ?_
    have il25 : (24 * b + (Int32.toNatClampNeg (V 71 gf))) < 48 := by first | exact om_31a61188bc78 hb2 r2.2 kc24 | first | omega | ((try (have i_mo := Imp.go mo (by omega))); omega)
    refine va_getN (D := D) (ci := 3) (v := .int (V17 51 (24 * b + (Int32.toNatClampNeg (V 71 gf))))) (fs := (xfComp ad V17 (24 * b + (Int32.toNatClampNeg (V 71 gf))))) (C := RX3) (T := TX3) (N := 13) hx hb hg inX3 hown hK hP (72 + (24 * b + (Int32.toNatClampNeg (V 71 gf)))) (xgComp il25) rfl 6 (by decide) (hnw.use 522 n522 rfl) (fun _ h9 => h9) rfl dX5_abandon_56 ?_
    refine g_top (v := (V 51 (24 * b + (Int32.toNatClampNeg (V 71 gf))))) (ajV17 51 (24 * b + (Int32.toNatClampNeg (V 71 gf))) rfl) ?_
    have r26 : 0 ≤ ((V 51 (24 * b + (Int32.toNatClampNeg (V 71 gf))))).toInt ∧ ((V 51 (24 * b + (Int32.toNatClampNeg (V 71 gf))))).toInt ≤ 3 := hMV 51 (24 * b + (Int32.toNatClampNeg (V 71 gf)))
    refine lv_iconst (v := 3) hx hb dX5_abandon_59 (by decide) ?_
    refine lv_icmp_eq (tgt := 67) hx hb dX5_abandon_60 (by decide) (fun c27 => ?_) (fun c27 => ?_)
    · skip
      have f28 : ((V 51 (24 * b + (Int32.toNatClampNeg (V 71 gf))))).toInt = 3 := b_eq rfl (by decide) c27
      refine lv_iconst (v := 0) hx hb dX5_abandon_67 (by decide) ?_
      refine lv_istore_n (lv' := [(3, .int 0), (2, .int 1), (0, .ref (ad 5)), (1, .ref (Z.fa gf))]) hx hb dX5_abandon_68 rfl hl (by decide) rfl (fun ls hl => ?_)
      refine lv_aload_n hx hb dX5_abandon_69 rfl (lv_at hl 2 rfl) ?_
      refine va_get (D := D) (ci := 5) (v := .int (V17 5 9)) (fs := (xfMachine ad V17 L Z)) (C := RX5) (T := TX5) (N := 15) hx hb hg inX5 hown hK hP 5 xgMachine rfl 9 (by decide) (hg _ w676) (fun _ h9 => h9) rfl dX5_abandon_70 ?_
      refine g_top (v := (V 5 9)) (ajV17 5 9 rfl) ?_
      refine lv_iconst (v := 2) hx hb dX5_abandon_73 (by decide) ?_
      refine lv_icmp_ne (tgt := 100) hx hb dX5_abandon_74 (by decide) (fun c29 => ?_) (fun c29 => ?_)
      · skip
        have f30 : ((V 5 9)).toInt ≠ 2 := b_neq rfl (by decide) c29
        refine lv_aload_n hx hb dX5_abandon_100 rfl (lv_at hl 2 rfl) ?_
        have pq31 : (V17 5 6).toInt = ((V 5 6)).toInt := congrArg Int32.toInt (ajV17 5 6 rfl)
        refine gA_void (gA_runV (As := []) (rest := []) (ci := 5) (q0 := 5) hx hb hml hown hg hP hD hK hS hA hnw hgk (x_leave l D ks H.size ad kk V17 L Z  hMV17 (show 1 ≤ (V17 5 6).toInt from by first | exact om_0cac171fa40c gd pq31 | first | omega | ((try (have i_mo := Imp.go mo (by omega))); omega))) w1308 w1310 w50 w171 w1311 rfl xgMachine hdV_yX5_leave ⟨Nat.le_of_ble_eq_true rfl, Nat.le_of_ble_eq_true rfl⟩ rfl hl.1 rfl (Nat.le_of_ble_eq_true rfl) dX5_abandon_101 ⟨Nat.le_of_ble_eq_true rfl, Nat.le_of_ble_eq_true rfl⟩) hP hD hK hS hA (fun u33 H locs w34 hP hD hK hS => ?_)
        obtain ⟨V36, L37⟩ := u33
        obtain ⟨hMV36, ajV36, axL37, t35⟩ := w34
        have axL37 : L = L37 := Eq.symm axL37
        subst axL37
        have hP : va_P D vwCl (xw ad kk V36 L Z) H := hP
        have hD : va_D A (xw ad kk V36 L Z) := hD
        have hMV36 : rgd bX V36 := hMV36
        have ajV36 : agr [(5, 6)] [] V17 V36 := ajV36
        have agV36 : agr [(5, 6)] [24, 25, 28] V V36 := agV17.tr ajV36 (by decide) (by decide)
        have t35 : (V36 5 6).toInt = (V17 5 6).toInt - 1 := t35
        have r38 : 0 ≤ ((V36 5 6)).toInt ∧ ((V36 5 6)).toInt ≤ 400 := hMV36 5 6
        have me39 : ME V V36 gf := (ME.tr (ME.tr ME.rf (t16 _)) (ME.ag ajV36 (by decide)))
        have pq40 : (V36 67 gf).toInt = ((V 67 gf)).toInt := congrArg Int32.toInt ((ajV36 67 gf rfl).trans (ajV17 67 gf rfl))
        have pq41 : (V36 68 gf).toInt = ((V 68 gf)).toInt := congrArg Int32.toInt ((ajV36 68 gf rfl).trans (ajV17 68 gf rfl))
        have pq42 : (V36 70 gf).toInt = ((V 70 gf)).toInt := congrArg Int32.toInt ((ajV36 70 gf rfl).trans (ajV17 70 gf rfl))
        have pq43 : (V36 71 gf).toInt = ((V 71 gf)).toInt := congrArg Int32.toInt ((ajV36 71 gf rfl).trans (ajV17 71 gf rfl))
        have pq44 : (V36 75 gf).toInt = ((V 75 gf)).toInt := congrArg Int32.toInt ((ajV36 75 gf rfl).trans (ajV17 75 gf rfl))
        have pq45 : (V36 76 gf).toInt = ((V 76 gf)).toInt := congrArg Int32.toInt ((ajV36 76 gf rfl).trans (ajV17 76 gf rfl))
        have pq46 : (V36 80 gf).toInt = ((V 80 gf)).toInt := congrArg Int32.toInt ((ajV36 80 gf rfl).trans (ajV17 80 gf rfl))
        have pq47 : (V36 84 gf).toInt = ((V 84 gf)).toInt := congrArg Int32.toInt ((ajV36 84 gf rfl).trans (ajV17 84 gf rfl))
        have pq48 : (V36 5 8).toInt = ((V 5 8)).toInt := congrArg Int32.toInt ((ajV36 5 8 rfl).trans (ajV17 5 8 rfl))
        have pq49 : (V36 5 9).toInt = ((V 5 9)).toInt := congrArg Int32.toInt ((ajV36 5 9 rfl).trans (ajV17 5 9 rfl))
        have pq50 : (V36 3 13).toInt = ((V 3 13)).toInt := congrArg Int32.toInt ((ajV36 3 13 rfl).trans (ajV17 3 13 rfl))
        have pq51 : (V36 43 (5 * b + 2)).toInt = ((V 43 (5 * b + 2))).toInt := congrArg Int32.toInt ((ajV36 43 (5 * b + 2) rfl).trans (ajV17 43 (5 * b + 2) rfl))
        have pq52 : (V36 42 b).toInt = ((V 42 b)).toInt := congrArg Int32.toInt ((ajV36 42 b rfl).trans (ajV17 42 b rfl))
        have pq53 : (V36 41 b).toInt = ((V 41 b)).toInt := congrArg Int32.toInt ((ajV36 41 b rfl).trans (ajV17 41 b rfl))
        have rp54 : MJ V36 Z b := MP.lv (MO.mp mo) me39 (by (first | exact om_5ac7632c8ef3 gd pq31 t35 | omega)) (fun _ => Or.inl (by omega))
        exact W.vret hx hb hr (fun t ht hW => ⟨⟨(V36, L), rfl, ⟨hMV36, agV36, rfl, rp54⟩, by rw [ht]; exact hP, va_K.moved hW.alike hK, hD⟩, hS.F ht⟩) hS.2.2 dX5_abandon_104
      · skip
        have f55 : ((V 5 9)).toInt = 2 := b_eq rfl (by decide) c29
        refine lv_iload_n hx hb dX5_abandon_77 rfl (lv_at hl 0 rfl) ?_
        refine lv_if_eq (tgt := 100) hx hb dX5_abandon_78 (by decide) (fun _ => ?_) (fun q => absurd (by decide) q)
        refine lv_aload_n hx hb dX5_abandon_100 rfl (lv_at hl 2 rfl) ?_
        have pq56 : (V17 5 6).toInt = ((V 5 6)).toInt := congrArg Int32.toInt (ajV17 5 6 rfl)
        refine gA_void (gA_runV (As := []) (rest := []) (ci := 5) (q0 := 5) hx hb hml hown hg hP hD hK hS hA hnw hgk (x_leave l D ks H.size ad kk V17 L Z  hMV17 (show 1 ≤ (V17 5 6).toInt from by first | exact om_0cac171fa40c gd pq56 | first | omega | ((try (have i_mo := Imp.go mo (by omega))); omega))) w1308 w1310 w50 w171 w1311 rfl xgMachine hdV_yX5_leave ⟨Nat.le_of_ble_eq_true rfl, Nat.le_of_ble_eq_true rfl⟩ rfl hl.1 rfl (Nat.le_of_ble_eq_true rfl) dX5_abandon_101 ⟨Nat.le_of_ble_eq_true rfl, Nat.le_of_ble_eq_true rfl⟩) hP hD hK hS hA (fun u58 H locs w59 hP hD hK hS => ?_)
        obtain ⟨V61, L62⟩ := u58
        obtain ⟨hMV61, ajV61, axL62, t60⟩ := w59
        have axL62 : L = L62 := Eq.symm axL62
        subst axL62
        have hP : va_P D vwCl (xw ad kk V61 L Z) H := hP
        have hD : va_D A (xw ad kk V61 L Z) := hD
        have hMV61 : rgd bX V61 := hMV61
        have ajV61 : agr [(5, 6)] [] V17 V61 := ajV61
        have agV61 : agr [(5, 6)] [24, 25, 28] V V61 := agV17.tr ajV61 (by decide) (by decide)
        have t60 : (V61 5 6).toInt = (V17 5 6).toInt - 1 := t60
        have r63 : 0 ≤ ((V61 5 6)).toInt ∧ ((V61 5 6)).toInt ≤ 400 := hMV61 5 6
        have me64 : ME V V61 gf := (ME.tr (ME.tr ME.rf (t16 _)) (ME.ag ajV61 (by decide)))
        have pq65 : (V61 67 gf).toInt = ((V 67 gf)).toInt := congrArg Int32.toInt ((ajV61 67 gf rfl).trans (ajV17 67 gf rfl))
        have pq66 : (V61 68 gf).toInt = ((V 68 gf)).toInt := congrArg Int32.toInt ((ajV61 68 gf rfl).trans (ajV17 68 gf rfl))
        have pq67 : (V61 70 gf).toInt = ((V 70 gf)).toInt := congrArg Int32.toInt ((ajV61 70 gf rfl).trans (ajV17 70 gf rfl))
        have pq68 : (V61 71 gf).toInt = ((V 71 gf)).toInt := congrArg Int32.toInt ((ajV61 71 gf rfl).trans (ajV17 71 gf rfl))
        have pq69 : (V61 75 gf).toInt = ((V 75 gf)).toInt := congrArg Int32.toInt ((ajV61 75 gf rfl).trans (ajV17 75 gf rfl))
        have pq70 : (V61 76 gf).toInt = ((V 76 gf)).toInt := congrArg Int32.toInt ((ajV61 76 gf rfl).trans (ajV17 76 gf rfl))
        have pq71 : (V61 80 gf).toInt = ((V 80 gf)).toInt := congrArg Int32.toInt ((ajV61 80 gf rfl).trans (ajV17 80 gf rfl))
        have pq72 : (V61 84 gf).toInt = ((V 84 gf)).toInt := congrArg Int32.toInt ((ajV61 84 gf rfl).trans (ajV17 84 gf rfl))
        have pq73 : (V61 5 8).toInt = ((V 5 8)).toInt := congrArg Int32.toInt ((ajV61 5 8 rfl).trans (ajV17 5 8 rfl))
        have pq74 : (V61 5 9).toInt = ((V 5 9)).toInt := congrArg Int32.toInt ((ajV61 5 9 rfl).trans (ajV17 5 9 rfl))
        have pq75 : (V61 3 13).toInt = ((V 3 13)).toInt := congrArg Int32.toInt ((ajV61 3 13 rfl).trans (ajV17 3 13 rfl))
        have pq76 : (V61 43 (5 * b + 2)).toInt = ((V 43 (5 * b + 2))).toInt := congrArg Int32.toInt ((ajV61 43 (5 * b + 2) rfl).trans (ajV17 43 (5 * b + 2) rfl))
        have pq77 : (V61 42 b).toInt = ((V 42 b)).toInt := congrArg Int32.toInt ((ajV61 42 b rfl).trans (ajV17 42 b rfl))
        have pq78 : (V61 41 b).toInt = ((V 41 b)).toInt := congrArg Int32.toInt ((ajV61 41 b rfl).trans (ajV17 41 b rfl))
        have rp79 : MJ V61 Z b := MP.lv (MO.mp mo) me64 (by (first | exact om_5ac7632c8ef3 gd pq56 t60 | omega)) (fun _ => Or.inl (by omega))
        exact W.vret hx hb hr (fun t ht hW => ⟨⟨(V61, L), rfl, ⟨hMV61, agV61, rfl, rp79⟩, by rw [ht]; exact hP, va_K.moved hW.alike hK, hD⟩, hS.F ht⟩) hS.2.2 dX5_abandon_104
    · skip
      have f80 : ((V 51 (24 * b + (Int32.toNatClampNeg (V 71 gf))))).toInt ≠ 3 := b_neq rfl (by decide) c27
      refine lv_iconst (v := 1) hx hb dX5_abandon_63 (by decide) ?_
      refine lv_goto (tgt := 68) hx hb dX5_abandon_64 (by decide) ?_
      refine lv_istore_n (lv' := [(3, .int 1), (2, .int 1), (0, .ref (ad 5)), (1, .ref (Z.fa gf))]) hx hb dX5_abandon_68 rfl hl (by decide) rfl (fun ls hl => ?_)
      refine lv_aload_n hx hb dX5_abandon_69 rfl (lv_at hl 2 rfl) ?_
      refine va_get (D := D) (ci := 5) (v := .int (V17 5 9)) (fs := (xfMachine ad V17 L Z)) (C := RX5) (T := TX5) (N := 15) hx hb hg inX5 hown hK hP 5 xgMachine rfl 9 (by decide) (hg _ w676) (fun _ h9 => h9) rfl dX5_abandon_70 ?_
      refine g_top (v := (V 5 9)) (ajV17 5 9 rfl) ?_
      refine lv_iconst (v := 2) hx hb dX5_abandon_73 (by decide) ?_
      refine lv_icmp_ne (tgt := 100) hx hb dX5_abandon_74 (by decide) (fun c81 => ?_) (fun c81 => ?_)
      · skip
        have f82 : ((V 5 9)).toInt ≠ 2 := b_neq rfl (by decide) c81
        refine lv_aload_n hx hb dX5_abandon_100 rfl (lv_at hl 2 rfl) ?_
        have pq83 : (V17 5 6).toInt = ((V 5 6)).toInt := congrArg Int32.toInt (ajV17 5 6 rfl)
        refine gA_void (gA_runV (As := []) (rest := []) (ci := 5) (q0 := 5) hx hb hml hown hg hP hD hK hS hA hnw hgk (x_leave l D ks H.size ad kk V17 L Z  hMV17 (show 1 ≤ (V17 5 6).toInt from by first | exact om_0cac171fa40c gd pq83 | first | omega | ((try (have i_mo := Imp.go mo (by omega))); omega))) w1308 w1310 w50 w171 w1311 rfl xgMachine hdV_yX5_leave ⟨Nat.le_of_ble_eq_true rfl, Nat.le_of_ble_eq_true rfl⟩ rfl hl.1 rfl (Nat.le_of_ble_eq_true rfl) dX5_abandon_101 ⟨Nat.le_of_ble_eq_true rfl, Nat.le_of_ble_eq_true rfl⟩) hP hD hK hS hA (fun u85 H locs w86 hP hD hK hS => ?_)
        obtain ⟨V88, L89⟩ := u85
        obtain ⟨hMV88, ajV88, axL89, t87⟩ := w86
        have axL89 : L = L89 := Eq.symm axL89
        subst axL89
        have hP : va_P D vwCl (xw ad kk V88 L Z) H := hP
        have hD : va_D A (xw ad kk V88 L Z) := hD
        have hMV88 : rgd bX V88 := hMV88
        have ajV88 : agr [(5, 6)] [] V17 V88 := ajV88
        have agV88 : agr [(5, 6)] [24, 25, 28] V V88 := agV17.tr ajV88 (by decide) (by decide)
        have t87 : (V88 5 6).toInt = (V17 5 6).toInt - 1 := t87
        have r90 : 0 ≤ ((V88 5 6)).toInt ∧ ((V88 5 6)).toInt ≤ 400 := hMV88 5 6
        have me91 : ME V V88 gf := (ME.tr (ME.tr ME.rf (t16 _)) (ME.ag ajV88 (by decide)))
        have pq92 : (V88 67 gf).toInt = ((V 67 gf)).toInt := congrArg Int32.toInt ((ajV88 67 gf rfl).trans (ajV17 67 gf rfl))
        have pq93 : (V88 68 gf).toInt = ((V 68 gf)).toInt := congrArg Int32.toInt ((ajV88 68 gf rfl).trans (ajV17 68 gf rfl))
        have pq94 : (V88 70 gf).toInt = ((V 70 gf)).toInt := congrArg Int32.toInt ((ajV88 70 gf rfl).trans (ajV17 70 gf rfl))
        have pq95 : (V88 71 gf).toInt = ((V 71 gf)).toInt := congrArg Int32.toInt ((ajV88 71 gf rfl).trans (ajV17 71 gf rfl))
        have pq96 : (V88 75 gf).toInt = ((V 75 gf)).toInt := congrArg Int32.toInt ((ajV88 75 gf rfl).trans (ajV17 75 gf rfl))
        have pq97 : (V88 76 gf).toInt = ((V 76 gf)).toInt := congrArg Int32.toInt ((ajV88 76 gf rfl).trans (ajV17 76 gf rfl))
        have pq98 : (V88 80 gf).toInt = ((V 80 gf)).toInt := congrArg Int32.toInt ((ajV88 80 gf rfl).trans (ajV17 80 gf rfl))
        have pq99 : (V88 84 gf).toInt = ((V 84 gf)).toInt := congrArg Int32.toInt ((ajV88 84 gf rfl).trans (ajV17 84 gf rfl))
        have pq100 : (V88 5 8).toInt = ((V 5 8)).toInt := congrArg Int32.toInt ((ajV88 5 8 rfl).trans (ajV17 5 8 rfl))
        have pq101 : (V88 5 9).toInt = ((V 5 9)).toInt := congrArg Int32.toInt ((ajV88 5 9 rfl).trans (ajV17 5 9 rfl))
        have pq102 : (V88 3 13).toInt = ((V 3 13)).toInt := congrArg Int32.toInt ((ajV88 3 13 rfl).trans (ajV17 3 13 rfl))
        have pq103 : (V88 43 (5 * b + 2)).toInt = ((V 43 (5 * b + 2))).toInt := congrArg Int32.toInt ((ajV88 43 (5 * b + 2) rfl).trans (ajV17 43 (5 * b + 2) rfl))
        have pq104 : (V88 42 b).toInt = ((V 42 b)).toInt := congrArg Int32.toInt ((ajV88 42 b rfl).trans (ajV17 42 b rfl))
        have pq105 : (V88 41 b).toInt = ((V 41 b)).toInt := congrArg Int32.toInt ((ajV88 41 b rfl).trans (ajV17 41 b rfl))
        have rp106 : MJ V88 Z b := MP.lv (MO.mp mo) me91 (by (first | exact om_5ac7632c8ef3 gd pq83 t87 | omega)) (fun _ => Or.inl (by omega))
        exact W.vret hx hb hr (fun t ht hW => ⟨⟨(V88, L), rfl, ⟨hMV88, agV88, rfl, rp106⟩, by rw [ht]; exact hP, va_K.moved hW.alike hK, hD⟩, hS.F ht⟩) hS.2.2 dX5_abandon_104
      · skip
        have f107 : ((V 5 9)).toInt = 2 := b_eq rfl (by decide) c81
        refine lv_iload_n hx hb dX5_abandon_77 rfl (lv_at hl 0 rfl) ?_
        refine lv_if_eq (tgt := 100) hx hb dX5_abandon_78 (by decide) (fun q => absurd q (by decide)) (fun _ => ?_)
        refine lv_iload_n hx hb dX5_abandon_81 rfl (lv_at hl 1 rfl) ?_
        refine lv_if_ne (tgt := 100) hx hb dX5_abandon_82 (by decide) (fun _ => ?_) (fun q => absurd q (by decide))
        refine lv_aload_n hx hb dX5_abandon_100 rfl (lv_at hl 2 rfl) ?_
        have pq108 : (V17 5 6).toInt = ((V 5 6)).toInt := congrArg Int32.toInt (ajV17 5 6 rfl)
        refine gA_void (gA_runV (As := []) (rest := []) (ci := 5) (q0 := 5) hx hb hml hown hg hP hD hK hS hA hnw hgk (x_leave l D ks H.size ad kk V17 L Z  hMV17 (show 1 ≤ (V17 5 6).toInt from by first | exact om_0cac171fa40c gd pq108 | first | omega | ((try (have i_mo := Imp.go mo (by omega))); omega))) w1308 w1310 w50 w171 w1311 rfl xgMachine hdV_yX5_leave ⟨Nat.le_of_ble_eq_true rfl, Nat.le_of_ble_eq_true rfl⟩ rfl hl.1 rfl (Nat.le_of_ble_eq_true rfl) dX5_abandon_101 ⟨Nat.le_of_ble_eq_true rfl, Nat.le_of_ble_eq_true rfl⟩) hP hD hK hS hA (fun u110 H locs w111 hP hD hK hS => ?_)
        obtain ⟨V113, L114⟩ := u110
        obtain ⟨hMV113, ajV113, axL114, t112⟩ := w111
        have axL114 : L = L114 := Eq.symm axL114
        subst axL114
        have hP : va_P D vwCl (xw ad kk V113 L Z) H := hP
        have hD : va_D A (xw ad kk V113 L Z) := hD
        have hMV113 : rgd bX V113 := hMV113
        have ajV113 : agr [(5, 6)] [] V17 V113 := ajV113
        have agV113 : agr [(5, 6)] [24, 25, 28] V V113 := agV17.tr ajV113 (by decide) (by decide)
        have t112 : (V113 5 6).toInt = (V17 5 6).toInt - 1 := t112
        have r115 : 0 ≤ ((V113 5 6)).toInt ∧ ((V113 5 6)).toInt ≤ 400 := hMV113 5 6
        have me116 : ME V V113 gf := (ME.tr (ME.tr ME.rf (t16 _)) (ME.ag ajV113 (by decide)))
        have pq117 : (V113 67 gf).toInt = ((V 67 gf)).toInt := congrArg Int32.toInt ((ajV113 67 gf rfl).trans (ajV17 67 gf rfl))
        have pq118 : (V113 68 gf).toInt = ((V 68 gf)).toInt := congrArg Int32.toInt ((ajV113 68 gf rfl).trans (ajV17 68 gf rfl))
        have pq119 : (V113 70 gf).toInt = ((V 70 gf)).toInt := congrArg Int32.toInt ((ajV113 70 gf rfl).trans (ajV17 70 gf rfl))
        have pq120 : (V113 71 gf).toInt = ((V 71 gf)).toInt := congrArg Int32.toInt ((ajV113 71 gf rfl).trans (ajV17 71 gf rfl))
        have pq121 : (V113 75 gf).toInt = ((V 75 gf)).toInt := congrArg Int32.toInt ((ajV113 75 gf rfl).trans (ajV17 75 gf rfl))
        have pq122 : (V113 76 gf).toInt = ((V 76 gf)).toInt := congrArg Int32.toInt ((ajV113 76 gf rfl).trans (ajV17 76 gf rfl))
        have pq123 : (V113 80 gf).toInt = ((V 80 gf)).toInt := congrArg Int32.toInt ((ajV113 80 gf rfl).trans (ajV17 80 gf rfl))
        have pq124 : (V113 84 gf).toInt = ((V 84 gf)).toInt := congrArg Int32.toInt ((ajV113 84 gf rfl).trans (ajV17 84 gf rfl))
        have pq125 : (V113 5 8).toInt = ((V 5 8)).toInt := congrArg Int32.toInt ((ajV113 5 8 rfl).trans (ajV17 5 8 rfl))
        have pq126 : (V113 5 9).toInt = ((V 5 9)).toInt := congrArg Int32.toInt ((ajV113 5 9 rfl).trans (ajV17 5 9 rfl))
        have pq127 : (V113 3 13).toInt = ((V 3 13)).toInt := congrArg Int32.toInt ((ajV113 3 13 rfl).trans (ajV17 3 13 rfl))
        have pq128 : (V113 43 (5 * b + 2)).toInt = ((V 43 (5 * b + 2))).toInt := congrArg Int32.toInt ((ajV113 43 (5 * b + 2) rfl).trans (ajV17 43 (5 * b + 2) rfl))
        have pq129 : (V113 42 b).toInt = ((V 42 b)).toInt := congrArg Int32.toInt ((ajV113 42 b rfl).trans (ajV17 42 b rfl))
        have pq130 : (V113 41 b).toInt = ((V 41 b)).toInt := congrArg Int32.toInt ((ajV113 41 b rfl).trans (ajV17 41 b rfl))
        have rp131 : MJ V113 Z b := MP.lv (MO.mp mo) me116 (by (first | exact om_5ac7632c8ef3 gd pq108 t112 | omega)) (fun _ => Or.inl (by omega))
        exact W.vret hx hb hr (fun t ht hW => ⟨⟨(V113, L), rfl, ⟨hMV113, agV113, rfl, rp131⟩, by rw [ht]; exact hP, va_K.moved hW.alike hK, hD⟩, hS.F ht⟩) hS.2.2 dX5_abandon_104
  · skip
    have f132 : ((V 5 12)).toInt ≠ 12 := b_neq rfl (by decide) c19
    refine lv_aload_n hx hb dX5_abandon_20 rfl (lv_at hl 0 rfl) ?_
    refine va_get (D := D) (ci := 5) (v := .int (V17 5 12)) (fs := (xfMachine ad V17 L Z)) (C := RX5) (T := TX5) (N := 15) hx hb hg inX5 hown hK hP 5 xgMachine rfl 12 (by decide) (hg _ w679) (fun _ h9 => h9) rfl dX5_abandon_21 ?_
    refine g_top (v := (V 5 12)) (ajV17 5 12 rfl) ?_
    refine lv_bipush (v := 13) hx hb dX5_abandon_24 (by decide) ?_
    refine lv_icmp_eq (tgt := 38) hx hb dX5_abandon_26 (by decide) (fun c133 => ?_) (fun c133 => ?_)
    · skip
      have f134 : ((V 5 12)).toInt = 13 := b_eq rfl (by decide) c133
      refine lv_iconst (v := 1) hx hb dX5_abandon_38 (by decide) ?_
      refine lv_goto (tgt := 43) hx hb dX5_abandon_39 (by decide) ?_
      refine lv_istore_n (lv' := [(2, .int 1), (0, .ref (ad 5)), (1, .ref (Z.fa gf))]) hx hb dX5_abandon_43 rfl hl (by decide) rfl (fun ls hl => ?_)
      refine lv_aload_n hx hb dX5_abandon_44 rfl (lv_at hl 1 rfl) ?_
      refine va_get (D := D) (ci := 5) (v := .ref (ad (38 + Int32.toNatClampNeg (V17 5 5)))) (fs := (xfMachine ad V17 L Z)) (C := RX5) (T := TX5) (N := 15) hx hb hg inX5 hown hK hP 5 xgMachine rfl 5 (by decide) (hg _ w672) (fun _ h9 => h9) rfl dX5_abandon_45 ?_
      have pq135 : (V17 5 5).toInt = ((V 5 5)).toInt := congrArg Int32.toInt (ajV17 5 5 rfl)
      have r136 : 0 ≤ ((V 5 5)).toInt ∧ ((V 5 5)).toInt ≤ 1 := hMV 5 5
      refine g_topv (v := .ref (ad (38 + b))) (rfP (by first | omega | ((try (have i_mo := Imp.go mo (by omega))); omega))) ?_
      refine va_getN (D := D) (ci := 0) (v := .ref (ad (64 + b))) (fs := (xfBook ad V17 b)) (C := RX0) (T := TX0) (N := 13) hx hb hg inX0 hown hK hP (38 + b) (xgBook hb2) rfl 7 (by decide) (hnw.use 618 n618 rfl) (fun _ h9 => h9) rfl dX5_abandon_48 ?_
      refine lv_aload_n hx hb dX5_abandon_51 rfl (lv_at hl 2 rfl) ?_
      refine va_getN (D := D) (ci := 4) (v := .int (V17 71 gf)) (fs := (xfFrame V17 gf)) (C := RX4) (T := TX4) (N := 19) hx hb hg inX4 hown hK hP (336 + gf) (xgFrame hgf) rfl 4 (by decide) (hnw.use 1193 n1193 rfl) (fun _ h9 => h9) rfl dX5_abandon_52 ?_
      refine g_top (v := (V 71 gf)) (ajV17 71 gf rfl) ?_
      have il137 : b < 2 := by first | exact om_f940a4667dd6 hb2 | first | omega | ((try (have i_mo := Imp.go mo (by omega))); omega)
      refine va_aldq (D := D) (i := (V 71 gf)) hx hb hK hP (64 + b) (57 + b) (xgcomps il137) (xtcomps il137) (i_in (a := ((V 71 gf)).toInt) rfl (by first | omega | ((try (have i_mo := Imp.go mo (by omega))); omega))) dX5_abandon_55 ?_
      have kc138 := i_clamp (x := (V 71 gf)) rfl (by first | omega | ((try (have i_mo := Imp.go mo (by omega))); omega))
      refine g_topv (v := .ref (ad (72 + (24 * b + (Int32.toNatClampNeg (V 71 gf)))))) (congrArg va_rf (if_pos (by first | omega | ((try (have i_mo := Imp.go mo (by omega))); omega)))) ?_
      have il139 : (24 * b + (Int32.toNatClampNeg (V 71 gf))) < 48 := by first | exact om_31a61188bc78 hb2 r2.2 kc138 | first | omega | ((try (have i_mo := Imp.go mo (by omega))); omega)
      refine va_getN (D := D) (ci := 3) (v := .int (V17 51 (24 * b + (Int32.toNatClampNeg (V 71 gf))))) (fs := (xfComp ad V17 (24 * b + (Int32.toNatClampNeg (V 71 gf))))) (C := RX3) (T := TX3) (N := 13) hx hb hg inX3 hown hK hP (72 + (24 * b + (Int32.toNatClampNeg (V 71 gf)))) (xgComp il139) rfl 6 (by decide) (hnw.use 522 n522 rfl) (fun _ h9 => h9) rfl dX5_abandon_56 ?_
      refine g_top (v := (V 51 (24 * b + (Int32.toNatClampNeg (V 71 gf))))) (ajV17 51 (24 * b + (Int32.toNatClampNeg (V 71 gf))) rfl) ?_
      have r140 : 0 ≤ ((V 51 (24 * b + (Int32.toNatClampNeg (V 71 gf))))).toInt ∧ ((V 51 (24 * b + (Int32.toNatClampNeg (V 71 gf))))).toInt ≤ 3 := hMV 51 (24 * b + (Int32.toNatClampNeg (V 71 gf)))
      refine lv_iconst (v := 3) hx hb dX5_abandon_59 (by decide) ?_
      refine lv_icmp_eq (tgt := 67) hx hb dX5_abandon_60 (by decide) (fun c141 => ?_) (fun c141 => ?_)
      · skip
        have f142 : ((V 51 (24 * b + (Int32.toNatClampNeg (V 71 gf))))).toInt = 3 := b_eq rfl (by decide) c141
        refine lv_iconst (v := 0) hx hb dX5_abandon_67 (by decide) ?_
        refine lv_istore_n (lv' := [(3, .int 0), (2, .int 1), (0, .ref (ad 5)), (1, .ref (Z.fa gf))]) hx hb dX5_abandon_68 rfl hl (by decide) rfl (fun ls hl => ?_)
        refine lv_aload_n hx hb dX5_abandon_69 rfl (lv_at hl 2 rfl) ?_
        refine va_get (D := D) (ci := 5) (v := .int (V17 5 9)) (fs := (xfMachine ad V17 L Z)) (C := RX5) (T := TX5) (N := 15) hx hb hg inX5 hown hK hP 5 xgMachine rfl 9 (by decide) (hg _ w676) (fun _ h9 => h9) rfl dX5_abandon_70 ?_
        refine g_top (v := (V 5 9)) (ajV17 5 9 rfl) ?_
        refine lv_iconst (v := 2) hx hb dX5_abandon_73 (by decide) ?_
        refine lv_icmp_ne (tgt := 100) hx hb dX5_abandon_74 (by decide) (fun c143 => ?_) (fun c143 => ?_)
        · skip
          have f144 : ((V 5 9)).toInt ≠ 2 := b_neq rfl (by decide) c143
          refine lv_aload_n hx hb dX5_abandon_100 rfl (lv_at hl 2 rfl) ?_
          have pq145 : (V17 5 6).toInt = ((V 5 6)).toInt := congrArg Int32.toInt (ajV17 5 6 rfl)
          refine gA_void (gA_runV (As := []) (rest := []) (ci := 5) (q0 := 5) hx hb hml hown hg hP hD hK hS hA hnw hgk (x_leave l D ks H.size ad kk V17 L Z  hMV17 (show 1 ≤ (V17 5 6).toInt from by first | exact om_0cac171fa40c gd pq145 | first | omega | ((try (have i_mo := Imp.go mo (by omega))); omega))) w1308 w1310 w50 w171 w1311 rfl xgMachine hdV_yX5_leave ⟨Nat.le_of_ble_eq_true rfl, Nat.le_of_ble_eq_true rfl⟩ rfl hl.1 rfl (Nat.le_of_ble_eq_true rfl) dX5_abandon_101 ⟨Nat.le_of_ble_eq_true rfl, Nat.le_of_ble_eq_true rfl⟩) hP hD hK hS hA (fun u147 H locs w148 hP hD hK hS => ?_)
          obtain ⟨V150, L151⟩ := u147
          obtain ⟨hMV150, ajV150, axL151, t149⟩ := w148
          have axL151 : L = L151 := Eq.symm axL151
          subst axL151
          have hP : va_P D vwCl (xw ad kk V150 L Z) H := hP
          have hD : va_D A (xw ad kk V150 L Z) := hD
          have hMV150 : rgd bX V150 := hMV150
          have ajV150 : agr [(5, 6)] [] V17 V150 := ajV150
          have agV150 : agr [(5, 6)] [24, 25, 28] V V150 := agV17.tr ajV150 (by decide) (by decide)
          have t149 : (V150 5 6).toInt = (V17 5 6).toInt - 1 := t149
          have r152 : 0 ≤ ((V150 5 6)).toInt ∧ ((V150 5 6)).toInt ≤ 400 := hMV150 5 6
          have me153 : ME V V150 gf := (ME.tr (ME.tr ME.rf (t16 _)) (ME.ag ajV150 (by decide)))
          have pq154 : (V150 67 gf).toInt = ((V 67 gf)).toInt := congrArg Int32.toInt ((ajV150 67 gf rfl).trans (ajV17 67 gf rfl))
          have pq155 : (V150 68 gf).toInt = ((V 68 gf)).toInt := congrArg Int32.toInt ((ajV150 68 gf rfl).trans (ajV17 68 gf rfl))
          have pq156 : (V150 70 gf).toInt = ((V 70 gf)).toInt := congrArg Int32.toInt ((ajV150 70 gf rfl).trans (ajV17 70 gf rfl))
          have pq157 : (V150 71 gf).toInt = ((V 71 gf)).toInt := congrArg Int32.toInt ((ajV150 71 gf rfl).trans (ajV17 71 gf rfl))
          have pq158 : (V150 75 gf).toInt = ((V 75 gf)).toInt := congrArg Int32.toInt ((ajV150 75 gf rfl).trans (ajV17 75 gf rfl))
          have pq159 : (V150 76 gf).toInt = ((V 76 gf)).toInt := congrArg Int32.toInt ((ajV150 76 gf rfl).trans (ajV17 76 gf rfl))
          have pq160 : (V150 80 gf).toInt = ((V 80 gf)).toInt := congrArg Int32.toInt ((ajV150 80 gf rfl).trans (ajV17 80 gf rfl))
          have pq161 : (V150 84 gf).toInt = ((V 84 gf)).toInt := congrArg Int32.toInt ((ajV150 84 gf rfl).trans (ajV17 84 gf rfl))
          have pq162 : (V150 5 8).toInt = ((V 5 8)).toInt := congrArg Int32.toInt ((ajV150 5 8 rfl).trans (ajV17 5 8 rfl))
          have pq163 : (V150 5 9).toInt = ((V 5 9)).toInt := congrArg Int32.toInt ((ajV150 5 9 rfl).trans (ajV17 5 9 rfl))
          have pq164 : (V150 3 13).toInt = ((V 3 13)).toInt := congrArg Int32.toInt ((ajV150 3 13 rfl).trans (ajV17 3 13 rfl))
          have pq165 : (V150 43 (5 * b + 2)).toInt = ((V 43 (5 * b + 2))).toInt := congrArg Int32.toInt ((ajV150 43 (5 * b + 2) rfl).trans (ajV17 43 (5 * b + 2) rfl))
          have pq166 : (V150 42 b).toInt = ((V 42 b)).toInt := congrArg Int32.toInt ((ajV150 42 b rfl).trans (ajV17 42 b rfl))
          have pq167 : (V150 41 b).toInt = ((V 41 b)).toInt := congrArg Int32.toInt ((ajV150 41 b rfl).trans (ajV17 41 b rfl))
          have rp168 : MJ V150 Z b := MP.lv (MO.mp mo) me153 (by (first | exact om_5ac7632c8ef3 gd pq145 t149 | omega)) (fun _ => Or.inl (by omega))
          exact W.vret hx hb hr (fun t ht hW => ⟨⟨(V150, L), rfl, ⟨hMV150, agV150, rfl, rp168⟩, by rw [ht]; exact hP, va_K.moved hW.alike hK, hD⟩, hS.F ht⟩) hS.2.2 dX5_abandon_104
        · skip
          have f169 : ((V 5 9)).toInt = 2 := b_eq rfl (by decide) c143
          refine lv_iload_n hx hb dX5_abandon_77 rfl (lv_at hl 0 rfl) ?_
          refine lv_if_eq (tgt := 100) hx hb dX5_abandon_78 (by decide) (fun _ => ?_) (fun q => absurd (by decide) q)
          refine lv_aload_n hx hb dX5_abandon_100 rfl (lv_at hl 2 rfl) ?_
          have pq170 : (V17 5 6).toInt = ((V 5 6)).toInt := congrArg Int32.toInt (ajV17 5 6 rfl)
          refine gA_void (gA_runV (As := []) (rest := []) (ci := 5) (q0 := 5) hx hb hml hown hg hP hD hK hS hA hnw hgk (x_leave l D ks H.size ad kk V17 L Z  hMV17 (show 1 ≤ (V17 5 6).toInt from by first | exact om_0cac171fa40c gd pq170 | first | omega | ((try (have i_mo := Imp.go mo (by omega))); omega))) w1308 w1310 w50 w171 w1311 rfl xgMachine hdV_yX5_leave ⟨Nat.le_of_ble_eq_true rfl, Nat.le_of_ble_eq_true rfl⟩ rfl hl.1 rfl (Nat.le_of_ble_eq_true rfl) dX5_abandon_101 ⟨Nat.le_of_ble_eq_true rfl, Nat.le_of_ble_eq_true rfl⟩) hP hD hK hS hA (fun u172 H locs w173 hP hD hK hS => ?_)
          obtain ⟨V175, L176⟩ := u172
          obtain ⟨hMV175, ajV175, axL176, t174⟩ := w173
          have axL176 : L = L176 := Eq.symm axL176
          subst axL176
          have hP : va_P D vwCl (xw ad kk V175 L Z) H := hP
          have hD : va_D A (xw ad kk V175 L Z) := hD
          have hMV175 : rgd bX V175 := hMV175
          have ajV175 : agr [(5, 6)] [] V17 V175 := ajV175
          have agV175 : agr [(5, 6)] [24, 25, 28] V V175 := agV17.tr ajV175 (by decide) (by decide)
          have t174 : (V175 5 6).toInt = (V17 5 6).toInt - 1 := t174
          have r177 : 0 ≤ ((V175 5 6)).toInt ∧ ((V175 5 6)).toInt ≤ 400 := hMV175 5 6
          have me178 : ME V V175 gf := (ME.tr (ME.tr ME.rf (t16 _)) (ME.ag ajV175 (by decide)))
          have pq179 : (V175 67 gf).toInt = ((V 67 gf)).toInt := congrArg Int32.toInt ((ajV175 67 gf rfl).trans (ajV17 67 gf rfl))
          have pq180 : (V175 68 gf).toInt = ((V 68 gf)).toInt := congrArg Int32.toInt ((ajV175 68 gf rfl).trans (ajV17 68 gf rfl))
          have pq181 : (V175 70 gf).toInt = ((V 70 gf)).toInt := congrArg Int32.toInt ((ajV175 70 gf rfl).trans (ajV17 70 gf rfl))
          have pq182 : (V175 71 gf).toInt = ((V 71 gf)).toInt := congrArg Int32.toInt ((ajV175 71 gf rfl).trans (ajV17 71 gf rfl))
          have pq183 : (V175 75 gf).toInt = ((V 75 gf)).toInt := congrArg Int32.toInt ((ajV175 75 gf rfl).trans (ajV17 75 gf rfl))
          have pq184 : (V175 76 gf).toInt = ((V 76 gf)).toInt := congrArg Int32.toInt ((ajV175 76 gf rfl).trans (ajV17 76 gf rfl))
          have pq185 : (V175 80 gf).toInt = ((V 80 gf)).toInt := congrArg Int32.toInt ((ajV175 80 gf rfl).trans (ajV17 80 gf rfl))
          have pq186 : (V175 84 gf).toInt = ((V 84 gf)).toInt := congrArg Int32.toInt ((ajV175 84 gf rfl).trans (ajV17 84 gf rfl))
          have pq187 : (V175 5 8).toInt = ((V 5 8)).toInt := congrArg Int32.toInt ((ajV175 5 8 rfl).trans (ajV17 5 8 rfl))
          have pq188 : (V175 5 9).toInt = ((V 5 9)).toInt := congrArg Int32.toInt ((ajV175 5 9 rfl).trans (ajV17 5 9 rfl))
          have pq189 : (V175 3 13).toInt = ((V 3 13)).toInt := congrArg Int32.toInt ((ajV175 3 13 rfl).trans (ajV17 3 13 rfl))
          have pq190 : (V175 43 (5 * b + 2)).toInt = ((V 43 (5 * b + 2))).toInt := congrArg Int32.toInt ((ajV175 43 (5 * b + 2) rfl).trans (ajV17 43 (5 * b + 2) rfl))
          have pq191 : (V175 42 b).toInt = ((V 42 b)).toInt := congrArg Int32.toInt ((ajV175 42 b rfl).trans (ajV17 42 b rfl))
          have pq192 : (V175 41 b).toInt = ((V 41 b)).toInt := congrArg Int32.toInt ((ajV175 41 b rfl).trans (ajV17 41 b rfl))
          have rp193 : MJ V175 Z b := MP.lv (MO.mp mo) me178 (by (first | exact om_5ac7632c8ef3 gd pq170 t174 | omega)) (fun _ => Or.inl (by omega))
          exact W.vret hx hb hr (fun t ht hW => ⟨⟨(V175, L), rfl, ⟨hMV175, agV175, rfl, rp193⟩, by rw [ht]; exact hP, va_K.moved hW.alike hK, hD⟩, hS.F ht⟩) hS.2.2 dX5_abandon_104
      · skip
        have f194 : ((V 51 (24 * b + (Int32.toNatClampNeg (V 71 gf))))).toInt ≠ 3 := b_neq rfl (by decide) c141
        refine lv_iconst (v := 1) hx hb dX5_abandon_63 (by decide) ?_
        refine lv_goto (tgt := 68) hx hb dX5_abandon_64 (by decide) ?_
        refine lv_istore_n (lv' := [(3, .int 1), (2, .int 1), (0, .ref (ad 5)), (1, .ref (Z.fa gf))]) hx hb dX5_abandon_68 rfl hl (by decide) rfl (fun ls hl => ?_)
        refine lv_aload_n hx hb dX5_abandon_69 rfl (lv_at hl 2 rfl) ?_
        refine va_get (D := D) (ci := 5) (v := .int (V17 5 9)) (fs := (xfMachine ad V17 L Z)) (C := RX5) (T := TX5) (N := 15) hx hb hg inX5 hown hK hP 5 xgMachine rfl 9 (by decide) (hg _ w676) (fun _ h9 => h9) rfl dX5_abandon_70 ?_
        refine g_top (v := (V 5 9)) (ajV17 5 9 rfl) ?_
        refine lv_iconst (v := 2) hx hb dX5_abandon_73 (by decide) ?_
        refine lv_icmp_ne (tgt := 100) hx hb dX5_abandon_74 (by decide) (fun c195 => ?_) (fun c195 => ?_)
        · skip
          have f196 : ((V 5 9)).toInt ≠ 2 := b_neq rfl (by decide) c195
          refine lv_aload_n hx hb dX5_abandon_100 rfl (lv_at hl 2 rfl) ?_
          have pq197 : (V17 5 6).toInt = ((V 5 6)).toInt := congrArg Int32.toInt (ajV17 5 6 rfl)
          refine gA_void (gA_runV (As := []) (rest := []) (ci := 5) (q0 := 5) hx hb hml hown hg hP hD hK hS hA hnw hgk (x_leave l D ks H.size ad kk V17 L Z  hMV17 (show 1 ≤ (V17 5 6).toInt from by first | exact om_0cac171fa40c gd pq197 | first | omega | ((try (have i_mo := Imp.go mo (by omega))); omega))) w1308 w1310 w50 w171 w1311 rfl xgMachine hdV_yX5_leave ⟨Nat.le_of_ble_eq_true rfl, Nat.le_of_ble_eq_true rfl⟩ rfl hl.1 rfl (Nat.le_of_ble_eq_true rfl) dX5_abandon_101 ⟨Nat.le_of_ble_eq_true rfl, Nat.le_of_ble_eq_true rfl⟩) hP hD hK hS hA (fun u199 H locs w200 hP hD hK hS => ?_)
          obtain ⟨V202, L203⟩ := u199
          obtain ⟨hMV202, ajV202, axL203, t201⟩ := w200
          have axL203 : L = L203 := Eq.symm axL203
          subst axL203
          have hP : va_P D vwCl (xw ad kk V202 L Z) H := hP
          have hD : va_D A (xw ad kk V202 L Z) := hD
          have hMV202 : rgd bX V202 := hMV202
          have ajV202 : agr [(5, 6)] [] V17 V202 := ajV202
          have agV202 : agr [(5, 6)] [24, 25, 28] V V202 := agV17.tr ajV202 (by decide) (by decide)
          have t201 : (V202 5 6).toInt = (V17 5 6).toInt - 1 := t201
          have r204 : 0 ≤ ((V202 5 6)).toInt ∧ ((V202 5 6)).toInt ≤ 400 := hMV202 5 6
          have me205 : ME V V202 gf := (ME.tr (ME.tr ME.rf (t16 _)) (ME.ag ajV202 (by decide)))
          have pq206 : (V202 67 gf).toInt = ((V 67 gf)).toInt := congrArg Int32.toInt ((ajV202 67 gf rfl).trans (ajV17 67 gf rfl))
          have pq207 : (V202 68 gf).toInt = ((V 68 gf)).toInt := congrArg Int32.toInt ((ajV202 68 gf rfl).trans (ajV17 68 gf rfl))
          have pq208 : (V202 70 gf).toInt = ((V 70 gf)).toInt := congrArg Int32.toInt ((ajV202 70 gf rfl).trans (ajV17 70 gf rfl))
          have pq209 : (V202 71 gf).toInt = ((V 71 gf)).toInt := congrArg Int32.toInt ((ajV202 71 gf rfl).trans (ajV17 71 gf rfl))
          have pq210 : (V202 75 gf).toInt = ((V 75 gf)).toInt := congrArg Int32.toInt ((ajV202 75 gf rfl).trans (ajV17 75 gf rfl))
          have pq211 : (V202 76 gf).toInt = ((V 76 gf)).toInt := congrArg Int32.toInt ((ajV202 76 gf rfl).trans (ajV17 76 gf rfl))
          have pq212 : (V202 80 gf).toInt = ((V 80 gf)).toInt := congrArg Int32.toInt ((ajV202 80 gf rfl).trans (ajV17 80 gf rfl))
          have pq213 : (V202 84 gf).toInt = ((V 84 gf)).toInt := congrArg Int32.toInt ((ajV202 84 gf rfl).trans (ajV17 84 gf rfl))
          have pq214 : (V202 5 8).toInt = ((V 5 8)).toInt := congrArg Int32.toInt ((ajV202 5 8 rfl).trans (ajV17 5 8 rfl))
          have pq215 : (V202 5 9).toInt = ((V 5 9)).toInt := congrArg Int32.toInt ((ajV202 5 9 rfl).trans (ajV17 5 9 rfl))
          have pq216 : (V202 3 13).toInt = ((V 3 13)).toInt := congrArg Int32.toInt ((ajV202 3 13 rfl).trans (ajV17 3 13 rfl))
          have pq217 : (V202 43 (5 * b + 2)).toInt = ((V 43 (5 * b + 2))).toInt := congrArg Int32.toInt ((ajV202 43 (5 * b + 2) rfl).trans (ajV17 43 (5 * b + 2) rfl))
          have pq218 : (V202 42 b).toInt = ((V 42 b)).toInt := congrArg Int32.toInt ((ajV202 42 b rfl).trans (ajV17 42 b rfl))
          have pq219 : (V202 41 b).toInt = ((V 41 b)).toInt := congrArg Int32.toInt ((ajV202 41 b rfl).trans (ajV17 41 b rfl))
          have rp220 : MJ V202 Z b := MP.lv (MO.mp mo) me205 (by (first | exact om_5ac7632c8ef3 gd pq197 t201 | omega)) (fun _ => Or.inl (by omega))
          exact W.vret hx hb hr (fun t ht hW => ⟨⟨(V202, L), rfl, ⟨hMV202, agV202, rfl, rp220⟩, by rw [ht]; exact hP, va_K.moved hW.alike hK, hD⟩, hS.F ht⟩) hS.2.2 dX5_abandon_104
        · skip
          have f221 : ((V 5 9)).toInt = 2 := b_eq rfl (by decide) c195
          refine lv_iload_n hx hb dX5_abandon_77 rfl (lv_at hl 0 rfl) ?_
          refine lv_if_eq (tgt := 100) hx hb dX5_abandon_78 (by decide) (fun q => absurd q (by decide)) (fun _ => ?_)
          refine lv_iload_n hx hb dX5_abandon_81 rfl (lv_at hl 1 rfl) ?_
          refine lv_if_ne (tgt := 100) hx hb dX5_abandon_82 (by decide) (fun _ => ?_) (fun q => absurd q (by decide))
          refine lv_aload_n hx hb dX5_abandon_100 rfl (lv_at hl 2 rfl) ?_
          have pq222 : (V17 5 6).toInt = ((V 5 6)).toInt := congrArg Int32.toInt (ajV17 5 6 rfl)
          refine gA_void (gA_runV (As := []) (rest := []) (ci := 5) (q0 := 5) hx hb hml hown hg hP hD hK hS hA hnw hgk (x_leave l D ks H.size ad kk V17 L Z  hMV17 (show 1 ≤ (V17 5 6).toInt from by first | exact om_0cac171fa40c gd pq222 | first | omega | ((try (have i_mo := Imp.go mo (by omega))); omega))) w1308 w1310 w50 w171 w1311 rfl xgMachine hdV_yX5_leave ⟨Nat.le_of_ble_eq_true rfl, Nat.le_of_ble_eq_true rfl⟩ rfl hl.1 rfl (Nat.le_of_ble_eq_true rfl) dX5_abandon_101 ⟨Nat.le_of_ble_eq_true rfl, Nat.le_of_ble_eq_true rfl⟩) hP hD hK hS hA (fun u224 H locs w225 hP hD hK hS => ?_)
          obtain ⟨V227, L228⟩ := u224
          obtain ⟨hMV227, ajV227, axL228, t226⟩ := w225
          have axL228 : L = L228 := Eq.symm axL228
          subst axL228
          have hP : va_P D vwCl (xw ad kk V227 L Z) H := hP
          have hD : va_D A (xw ad kk V227 L Z) := hD
          have hMV227 : rgd bX V227 := hMV227
          have ajV227 : agr [(5, 6)] [] V17 V227 := ajV227
          have agV227 : agr [(5, 6)] [24, 25, 28] V V227 := agV17.tr ajV227 (by decide) (by decide)
          have t226 : (V227 5 6).toInt = (V17 5 6).toInt - 1 := t226
          have r229 : 0 ≤ ((V227 5 6)).toInt ∧ ((V227 5 6)).toInt ≤ 400 := hMV227 5 6
          have me230 : ME V V227 gf := (ME.tr (ME.tr ME.rf (t16 _)) (ME.ag ajV227 (by decide)))
          have pq231 : (V227 67 gf).toInt = ((V 67 gf)).toInt := congrArg Int32.toInt ((ajV227 67 gf rfl).trans (ajV17 67 gf rfl))
          have pq232 : (V227 68 gf).toInt = ((V 68 gf)).toInt := congrArg Int32.toInt ((ajV227 68 gf rfl).trans (ajV17 68 gf rfl))
          have pq233 : (V227 70 gf).toInt = ((V 70 gf)).toInt := congrArg Int32.toInt ((ajV227 70 gf rfl).trans (ajV17 70 gf rfl))
          have pq234 : (V227 71 gf).toInt = ((V 71 gf)).toInt := congrArg Int32.toInt ((ajV227 71 gf rfl).trans (ajV17 71 gf rfl))
          have pq235 : (V227 75 gf).toInt = ((V 75 gf)).toInt := congrArg Int32.toInt ((ajV227 75 gf rfl).trans (ajV17 75 gf rfl))
          have pq236 : (V227 76 gf).toInt = ((V 76 gf)).toInt := congrArg Int32.toInt ((ajV227 76 gf rfl).trans (ajV17 76 gf rfl))
          have pq237 : (V227 80 gf).toInt = ((V 80 gf)).toInt := congrArg Int32.toInt ((ajV227 80 gf rfl).trans (ajV17 80 gf rfl))
          have pq238 : (V227 84 gf).toInt = ((V 84 gf)).toInt := congrArg Int32.toInt ((ajV227 84 gf rfl).trans (ajV17 84 gf rfl))
          have pq239 : (V227 5 8).toInt = ((V 5 8)).toInt := congrArg Int32.toInt ((ajV227 5 8 rfl).trans (ajV17 5 8 rfl))
          have pq240 : (V227 5 9).toInt = ((V 5 9)).toInt := congrArg Int32.toInt ((ajV227 5 9 rfl).trans (ajV17 5 9 rfl))
          have pq241 : (V227 3 13).toInt = ((V 3 13)).toInt := congrArg Int32.toInt ((ajV227 3 13 rfl).trans (ajV17 3 13 rfl))
          have pq242 : (V227 43 (5 * b + 2)).toInt = ((V 43 (5 * b + 2))).toInt := congrArg Int32.toInt ((ajV227 43 (5 * b + 2) rfl).trans (ajV17 43 (5 * b + 2) rfl))
          have pq243 : (V227 42 b).toInt = ((V 42 b)).toInt := congrArg Int32.toInt ((ajV227 42 b rfl).trans (ajV17 42 b rfl))
          have pq244 : (V227 41 b).toInt = ((V 41 b)).toInt := congrArg Int32.toInt ((ajV227 41 b rfl).trans (ajV17 41 b rfl))
          have rp245 : MJ V227 Z b := MP.lv (MO.mp mo) me230 (by (first | exact om_5ac7632c8ef3 gd pq222 t226 | omega)) (fun _ => Or.inl (by omega))
          exact W.vret hx hb hr (fun t ht hW => ⟨⟨(V227, L), rfl, ⟨hMV227, agV227, rfl, rp245⟩, by rw [ht]; exact hP, va_K.moved hW.alike hK, hD⟩, hS.F ht⟩) hS.2.2 dX5_abandon_104
    · skip
      have f246 : ((V 5 12)).toInt ≠ 13 := b_neq rfl (by decide) c133
      refine lv_aload_n hx hb dX5_abandon_29 rfl (lv_at hl 0 rfl) ?_
      refine va_get (D := D) (ci := 5) (v := .int (V17 5 12)) (fs := (xfMachine ad V17 L Z)) (C := RX5) (T := TX5) (N := 15) hx hb hg inX5 hown hK hP 5 xgMachine rfl 12 (by decide) (hg _ w679) (fun _ h9 => h9) rfl dX5_abandon_30 ?_
      refine g_top (v := (V 5 12)) (ajV17 5 12 rfl) ?_
      refine lv_bipush (v := 16) hx hb dX5_abandon_33 (by decide) ?_
      refine lv_icmp_ne (tgt := 42) hx hb dX5_abandon_35 (by decide) (fun c247 => ?_) (fun c247 => ?_)
      · skip
        have f248 : ((V 5 12)).toInt ≠ 16 := b_neq rfl (by decide) c247
        refine lv_iconst (v := 0) hx hb dX5_abandon_42 (by decide) ?_
        refine lv_istore_n (lv' := [(2, .int 0), (0, .ref (ad 5)), (1, .ref (Z.fa gf))]) hx hb dX5_abandon_43 rfl hl (by decide) rfl (fun ls hl => ?_)
        refine lv_aload_n hx hb dX5_abandon_44 rfl (lv_at hl 1 rfl) ?_
        refine va_get (D := D) (ci := 5) (v := .ref (ad (38 + Int32.toNatClampNeg (V17 5 5)))) (fs := (xfMachine ad V17 L Z)) (C := RX5) (T := TX5) (N := 15) hx hb hg inX5 hown hK hP 5 xgMachine rfl 5 (by decide) (hg _ w672) (fun _ h9 => h9) rfl dX5_abandon_45 ?_
        have pq249 : (V17 5 5).toInt = ((V 5 5)).toInt := congrArg Int32.toInt (ajV17 5 5 rfl)
        have r250 : 0 ≤ ((V 5 5)).toInt ∧ ((V 5 5)).toInt ≤ 1 := hMV 5 5
        refine g_topv (v := .ref (ad (38 + b))) (rfP (by first | omega | ((try (have i_mo := Imp.go mo (by omega))); omega))) ?_
        refine va_getN (D := D) (ci := 0) (v := .ref (ad (64 + b))) (fs := (xfBook ad V17 b)) (C := RX0) (T := TX0) (N := 13) hx hb hg inX0 hown hK hP (38 + b) (xgBook hb2) rfl 7 (by decide) (hnw.use 618 n618 rfl) (fun _ h9 => h9) rfl dX5_abandon_48 ?_
        refine lv_aload_n hx hb dX5_abandon_51 rfl (lv_at hl 2 rfl) ?_
        refine va_getN (D := D) (ci := 4) (v := .int (V17 71 gf)) (fs := (xfFrame V17 gf)) (C := RX4) (T := TX4) (N := 19) hx hb hg inX4 hown hK hP (336 + gf) (xgFrame hgf) rfl 4 (by decide) (hnw.use 1193 n1193 rfl) (fun _ h9 => h9) rfl dX5_abandon_52 ?_
        refine g_top (v := (V 71 gf)) (ajV17 71 gf rfl) ?_
        have il251 : b < 2 := by first | exact om_f940a4667dd6 hb2 | first | omega | ((try (have i_mo := Imp.go mo (by omega))); omega)
        refine va_aldq (D := D) (i := (V 71 gf)) hx hb hK hP (64 + b) (57 + b) (xgcomps il251) (xtcomps il251) (i_in (a := ((V 71 gf)).toInt) rfl (by first | omega | ((try (have i_mo := Imp.go mo (by omega))); omega))) dX5_abandon_55 ?_
        have kc252 := i_clamp (x := (V 71 gf)) rfl (by first | omega | ((try (have i_mo := Imp.go mo (by omega))); omega))
        refine g_topv (v := .ref (ad (72 + (24 * b + (Int32.toNatClampNeg (V 71 gf)))))) (congrArg va_rf (if_pos (by first | omega | ((try (have i_mo := Imp.go mo (by omega))); omega)))) ?_
        have il253 : (24 * b + (Int32.toNatClampNeg (V 71 gf))) < 48 := by first | exact om_31a61188bc78 hb2 r2.2 kc252 | first | omega | ((try (have i_mo := Imp.go mo (by omega))); omega)
        refine va_getN (D := D) (ci := 3) (v := .int (V17 51 (24 * b + (Int32.toNatClampNeg (V 71 gf))))) (fs := (xfComp ad V17 (24 * b + (Int32.toNatClampNeg (V 71 gf))))) (C := RX3) (T := TX3) (N := 13) hx hb hg inX3 hown hK hP (72 + (24 * b + (Int32.toNatClampNeg (V 71 gf)))) (xgComp il253) rfl 6 (by decide) (hnw.use 522 n522 rfl) (fun _ h9 => h9) rfl dX5_abandon_56 ?_
        refine g_top (v := (V 51 (24 * b + (Int32.toNatClampNeg (V 71 gf))))) (ajV17 51 (24 * b + (Int32.toNatClampNeg (V 71 gf))) rfl) ?_
        have r254 : 0 ≤ ((V 51 (24 * b + (Int32.toNatClampNeg (V 71 gf))))).toInt ∧ ((V 51 (24 * b + (Int32.toNatClampNeg (V 71 gf))))).toInt ≤ 3 := hMV 51 (24 * b + (Int32.toNatClampNeg (V 71 gf)))
        refine lv_iconst (v := 3) hx hb dX5_abandon_59 (by decide) ?_
        refine lv_icmp_eq (tgt := 67) hx hb dX5_abandon_60 (by decide) (fun c255 => ?_) (fun c255 => ?_)
        · skip
          have f256 : ((V 51 (24 * b + (Int32.toNatClampNeg (V 71 gf))))).toInt = 3 := b_eq rfl (by decide) c255
          refine lv_iconst (v := 0) hx hb dX5_abandon_67 (by decide) ?_
          refine lv_istore_n (lv' := [(3, .int 0), (2, .int 0), (0, .ref (ad 5)), (1, .ref (Z.fa gf))]) hx hb dX5_abandon_68 rfl hl (by decide) rfl (fun ls hl => ?_)
          refine lv_aload_n hx hb dX5_abandon_69 rfl (lv_at hl 2 rfl) ?_
          refine va_get (D := D) (ci := 5) (v := .int (V17 5 9)) (fs := (xfMachine ad V17 L Z)) (C := RX5) (T := TX5) (N := 15) hx hb hg inX5 hown hK hP 5 xgMachine rfl 9 (by decide) (hg _ w676) (fun _ h9 => h9) rfl dX5_abandon_70 ?_
          refine g_top (v := (V 5 9)) (ajV17 5 9 rfl) ?_
          refine lv_iconst (v := 2) hx hb dX5_abandon_73 (by decide) ?_
          refine lv_icmp_ne (tgt := 100) hx hb dX5_abandon_74 (by decide) (fun c257 => ?_) (fun c257 => ?_)
          · skip
            have f258 : ((V 5 9)).toInt ≠ 2 := b_neq rfl (by decide) c257
            refine lv_aload_n hx hb dX5_abandon_100 rfl (lv_at hl 2 rfl) ?_
            have pq259 : (V17 5 6).toInt = ((V 5 6)).toInt := congrArg Int32.toInt (ajV17 5 6 rfl)
            refine gA_void (gA_runV (As := []) (rest := []) (ci := 5) (q0 := 5) hx hb hml hown hg hP hD hK hS hA hnw hgk (x_leave l D ks H.size ad kk V17 L Z  hMV17 (show 1 ≤ (V17 5 6).toInt from by first | exact om_0cac171fa40c gd pq259 | first | omega | ((try (have i_mo := Imp.go mo (by omega))); omega))) w1308 w1310 w50 w171 w1311 rfl xgMachine hdV_yX5_leave ⟨Nat.le_of_ble_eq_true rfl, Nat.le_of_ble_eq_true rfl⟩ rfl hl.1 rfl (Nat.le_of_ble_eq_true rfl) dX5_abandon_101 ⟨Nat.le_of_ble_eq_true rfl, Nat.le_of_ble_eq_true rfl⟩) hP hD hK hS hA (fun u261 H locs w262 hP hD hK hS => ?_)
            obtain ⟨V264, L265⟩ := u261
            obtain ⟨hMV264, ajV264, axL265, t263⟩ := w262
            have axL265 : L = L265 := Eq.symm axL265
            subst axL265
            have hP : va_P D vwCl (xw ad kk V264 L Z) H := hP
            have hD : va_D A (xw ad kk V264 L Z) := hD
            have hMV264 : rgd bX V264 := hMV264
            have ajV264 : agr [(5, 6)] [] V17 V264 := ajV264
            have agV264 : agr [(5, 6)] [24, 25, 28] V V264 := agV17.tr ajV264 (by decide) (by decide)
            have t263 : (V264 5 6).toInt = (V17 5 6).toInt - 1 := t263
            have r266 : 0 ≤ ((V264 5 6)).toInt ∧ ((V264 5 6)).toInt ≤ 400 := hMV264 5 6
            have me267 : ME V V264 gf := (ME.tr (ME.tr ME.rf (t16 _)) (ME.ag ajV264 (by decide)))
            have pq268 : (V264 67 gf).toInt = ((V 67 gf)).toInt := congrArg Int32.toInt ((ajV264 67 gf rfl).trans (ajV17 67 gf rfl))
            have pq269 : (V264 68 gf).toInt = ((V 68 gf)).toInt := congrArg Int32.toInt ((ajV264 68 gf rfl).trans (ajV17 68 gf rfl))
            have pq270 : (V264 70 gf).toInt = ((V 70 gf)).toInt := congrArg Int32.toInt ((ajV264 70 gf rfl).trans (ajV17 70 gf rfl))
            have pq271 : (V264 71 gf).toInt = ((V 71 gf)).toInt := congrArg Int32.toInt ((ajV264 71 gf rfl).trans (ajV17 71 gf rfl))
            have pq272 : (V264 75 gf).toInt = ((V 75 gf)).toInt := congrArg Int32.toInt ((ajV264 75 gf rfl).trans (ajV17 75 gf rfl))
            have pq273 : (V264 76 gf).toInt = ((V 76 gf)).toInt := congrArg Int32.toInt ((ajV264 76 gf rfl).trans (ajV17 76 gf rfl))
            have pq274 : (V264 80 gf).toInt = ((V 80 gf)).toInt := congrArg Int32.toInt ((ajV264 80 gf rfl).trans (ajV17 80 gf rfl))
            have pq275 : (V264 84 gf).toInt = ((V 84 gf)).toInt := congrArg Int32.toInt ((ajV264 84 gf rfl).trans (ajV17 84 gf rfl))
            have pq276 : (V264 5 8).toInt = ((V 5 8)).toInt := congrArg Int32.toInt ((ajV264 5 8 rfl).trans (ajV17 5 8 rfl))
            have pq277 : (V264 5 9).toInt = ((V 5 9)).toInt := congrArg Int32.toInt ((ajV264 5 9 rfl).trans (ajV17 5 9 rfl))
            have pq278 : (V264 3 13).toInt = ((V 3 13)).toInt := congrArg Int32.toInt ((ajV264 3 13 rfl).trans (ajV17 3 13 rfl))
            have pq279 : (V264 43 (5 * b + 2)).toInt = ((V 43 (5 * b + 2))).toInt := congrArg Int32.toInt ((ajV264 43 (5 * b + 2) rfl).trans (ajV17 43 (5 * b + 2) rfl))
            have pq280 : (V264 42 b).toInt = ((V 42 b)).toInt := congrArg Int32.toInt ((ajV264 42 b rfl).trans (ajV17 42 b rfl))
            have pq281 : (V264 41 b).toInt = ((V 41 b)).toInt := congrArg Int32.toInt ((ajV264 41 b rfl).trans (ajV17 41 b rfl))
            have rp282 : MJ V264 Z b := MP.lv (MO.mp mo) me267 (by (first | exact om_5ac7632c8ef3 gd pq259 t263 | omega)) (fun _ => Or.inl (by omega))
            exact W.vret hx hb hr (fun t ht hW => ⟨⟨(V264, L), rfl, ⟨hMV264, agV264, rfl, rp282⟩, by rw [ht]; exact hP, va_K.moved hW.alike hK, hD⟩, hS.F ht⟩) hS.2.2 dX5_abandon_104
          · skip
            have f283 : ((V 5 9)).toInt = 2 := b_eq rfl (by decide) c257
            refine lv_iload_n hx hb dX5_abandon_77 rfl (lv_at hl 0 rfl) ?_
            refine lv_if_eq (tgt := 100) hx hb dX5_abandon_78 (by decide) (fun _ => ?_) (fun q => absurd (by decide) q)
            refine lv_aload_n hx hb dX5_abandon_100 rfl (lv_at hl 2 rfl) ?_
            have pq284 : (V17 5 6).toInt = ((V 5 6)).toInt := congrArg Int32.toInt (ajV17 5 6 rfl)
            refine gA_void (gA_runV (As := []) (rest := []) (ci := 5) (q0 := 5) hx hb hml hown hg hP hD hK hS hA hnw hgk (x_leave l D ks H.size ad kk V17 L Z  hMV17 (show 1 ≤ (V17 5 6).toInt from by first | exact om_0cac171fa40c gd pq284 | first | omega | ((try (have i_mo := Imp.go mo (by omega))); omega))) w1308 w1310 w50 w171 w1311 rfl xgMachine hdV_yX5_leave ⟨Nat.le_of_ble_eq_true rfl, Nat.le_of_ble_eq_true rfl⟩ rfl hl.1 rfl (Nat.le_of_ble_eq_true rfl) dX5_abandon_101 ⟨Nat.le_of_ble_eq_true rfl, Nat.le_of_ble_eq_true rfl⟩) hP hD hK hS hA (fun u286 H locs w287 hP hD hK hS => ?_)
            obtain ⟨V289, L290⟩ := u286
            obtain ⟨hMV289, ajV289, axL290, t288⟩ := w287
            have axL290 : L = L290 := Eq.symm axL290
            subst axL290
            have hP : va_P D vwCl (xw ad kk V289 L Z) H := hP
            have hD : va_D A (xw ad kk V289 L Z) := hD
            have hMV289 : rgd bX V289 := hMV289
            have ajV289 : agr [(5, 6)] [] V17 V289 := ajV289
            have agV289 : agr [(5, 6)] [24, 25, 28] V V289 := agV17.tr ajV289 (by decide) (by decide)
            have t288 : (V289 5 6).toInt = (V17 5 6).toInt - 1 := t288
            have r291 : 0 ≤ ((V289 5 6)).toInt ∧ ((V289 5 6)).toInt ≤ 400 := hMV289 5 6
            have me292 : ME V V289 gf := (ME.tr (ME.tr ME.rf (t16 _)) (ME.ag ajV289 (by decide)))
            have pq293 : (V289 67 gf).toInt = ((V 67 gf)).toInt := congrArg Int32.toInt ((ajV289 67 gf rfl).trans (ajV17 67 gf rfl))
            have pq294 : (V289 68 gf).toInt = ((V 68 gf)).toInt := congrArg Int32.toInt ((ajV289 68 gf rfl).trans (ajV17 68 gf rfl))
            have pq295 : (V289 70 gf).toInt = ((V 70 gf)).toInt := congrArg Int32.toInt ((ajV289 70 gf rfl).trans (ajV17 70 gf rfl))
            have pq296 : (V289 71 gf).toInt = ((V 71 gf)).toInt := congrArg Int32.toInt ((ajV289 71 gf rfl).trans (ajV17 71 gf rfl))
            have pq297 : (V289 75 gf).toInt = ((V 75 gf)).toInt := congrArg Int32.toInt ((ajV289 75 gf rfl).trans (ajV17 75 gf rfl))
            have pq298 : (V289 76 gf).toInt = ((V 76 gf)).toInt := congrArg Int32.toInt ((ajV289 76 gf rfl).trans (ajV17 76 gf rfl))
            have pq299 : (V289 80 gf).toInt = ((V 80 gf)).toInt := congrArg Int32.toInt ((ajV289 80 gf rfl).trans (ajV17 80 gf rfl))
            have pq300 : (V289 84 gf).toInt = ((V 84 gf)).toInt := congrArg Int32.toInt ((ajV289 84 gf rfl).trans (ajV17 84 gf rfl))
            have pq301 : (V289 5 8).toInt = ((V 5 8)).toInt := congrArg Int32.toInt ((ajV289 5 8 rfl).trans (ajV17 5 8 rfl))
            have pq302 : (V289 5 9).toInt = ((V 5 9)).toInt := congrArg Int32.toInt ((ajV289 5 9 rfl).trans (ajV17 5 9 rfl))
            have pq303 : (V289 3 13).toInt = ((V 3 13)).toInt := congrArg Int32.toInt ((ajV289 3 13 rfl).trans (ajV17 3 13 rfl))
            have pq304 : (V289 43 (5 * b + 2)).toInt = ((V 43 (5 * b + 2))).toInt := congrArg Int32.toInt ((ajV289 43 (5 * b + 2) rfl).trans (ajV17 43 (5 * b + 2) rfl))
            have pq305 : (V289 42 b).toInt = ((V 42 b)).toInt := congrArg Int32.toInt ((ajV289 42 b rfl).trans (ajV17 42 b rfl))
            have pq306 : (V289 41 b).toInt = ((V 41 b)).toInt := congrArg Int32.toInt ((ajV289 41 b rfl).trans (ajV17 41 b rfl))
            have rp307 : MJ V289 Z b := MP.lv (MO.mp mo) me292 (by (first | exact om_5ac7632c8ef3 gd pq284 t288 | omega)) (fun _ => Or.inl (by omega))
            exact W.vret hx hb hr (fun t ht hW => ⟨⟨(V289, L), rfl, ⟨hMV289, agV289, rfl, rp307⟩, by rw [ht]; exact hP, va_K.moved hW.alike hK, hD⟩, hS.F ht⟩) hS.2.2 dX5_abandon_104
        · skip
          have f308 : ((V 51 (24 * b + (Int32.toNatClampNeg (V 71 gf))))).toInt ≠ 3 := b_neq rfl (by decide) c255
          refine lv_iconst (v := 1) hx hb dX5_abandon_63 (by decide) ?_
          refine lv_goto (tgt := 68) hx hb dX5_abandon_64 (by decide) ?_
          refine lv_istore_n (lv' := [(3, .int 1), (2, .int 0), (0, .ref (ad 5)), (1, .ref (Z.fa gf))]) hx hb dX5_abandon_68 rfl hl (by decide) rfl (fun ls hl => ?_)
          refine lv_aload_n hx hb dX5_abandon_69 rfl (lv_at hl 2 rfl) ?_
          refine va_get (D := D) (ci := 5) (v := .int (V17 5 9)) (fs := (xfMachine ad V17 L Z)) (C := RX5) (T := TX5) (N := 15) hx hb hg inX5 hown hK hP 5 xgMachine rfl 9 (by decide) (hg _ w676) (fun _ h9 => h9) rfl dX5_abandon_70 ?_
          refine g_top (v := (V 5 9)) (ajV17 5 9 rfl) ?_
          refine lv_iconst (v := 2) hx hb dX5_abandon_73 (by decide) ?_
          refine lv_icmp_ne (tgt := 100) hx hb dX5_abandon_74 (by decide) (fun c309 => ?_) (fun c309 => ?_)
          · skip
            have f310 : ((V 5 9)).toInt ≠ 2 := b_neq rfl (by decide) c309
            refine lv_aload_n hx hb dX5_abandon_100 rfl (lv_at hl 2 rfl) ?_
            have pq311 : (V17 5 6).toInt = ((V 5 6)).toInt := congrArg Int32.toInt (ajV17 5 6 rfl)
            refine gA_void (gA_runV (As := []) (rest := []) (ci := 5) (q0 := 5) hx hb hml hown hg hP hD hK hS hA hnw hgk (x_leave l D ks H.size ad kk V17 L Z  hMV17 (show 1 ≤ (V17 5 6).toInt from by first | exact om_0cac171fa40c gd pq311 | first | omega | ((try (have i_mo := Imp.go mo (by omega))); omega))) w1308 w1310 w50 w171 w1311 rfl xgMachine hdV_yX5_leave ⟨Nat.le_of_ble_eq_true rfl, Nat.le_of_ble_eq_true rfl⟩ rfl hl.1 rfl (Nat.le_of_ble_eq_true rfl) dX5_abandon_101 ⟨Nat.le_of_ble_eq_true rfl, Nat.le_of_ble_eq_true rfl⟩) hP hD hK hS hA (fun u313 H locs w314 hP hD hK hS => ?_)
            obtain ⟨V316, L317⟩ := u313
            obtain ⟨hMV316, ajV316, axL317, t315⟩ := w314
            have axL317 : L = L317 := Eq.symm axL317
            subst axL317
            have hP : va_P D vwCl (xw ad kk V316 L Z) H := hP
            have hD : va_D A (xw ad kk V316 L Z) := hD
            have hMV316 : rgd bX V316 := hMV316
            have ajV316 : agr [(5, 6)] [] V17 V316 := ajV316
            have agV316 : agr [(5, 6)] [24, 25, 28] V V316 := agV17.tr ajV316 (by decide) (by decide)
            have t315 : (V316 5 6).toInt = (V17 5 6).toInt - 1 := t315
            have r318 : 0 ≤ ((V316 5 6)).toInt ∧ ((V316 5 6)).toInt ≤ 400 := hMV316 5 6
            have me319 : ME V V316 gf := (ME.tr (ME.tr ME.rf (t16 _)) (ME.ag ajV316 (by decide)))
            have pq320 : (V316 67 gf).toInt = ((V 67 gf)).toInt := congrArg Int32.toInt ((ajV316 67 gf rfl).trans (ajV17 67 gf rfl))
            have pq321 : (V316 68 gf).toInt = ((V 68 gf)).toInt := congrArg Int32.toInt ((ajV316 68 gf rfl).trans (ajV17 68 gf rfl))
            have pq322 : (V316 70 gf).toInt = ((V 70 gf)).toInt := congrArg Int32.toInt ((ajV316 70 gf rfl).trans (ajV17 70 gf rfl))
            have pq323 : (V316 71 gf).toInt = ((V 71 gf)).toInt := congrArg Int32.toInt ((ajV316 71 gf rfl).trans (ajV17 71 gf rfl))
            have pq324 : (V316 75 gf).toInt = ((V 75 gf)).toInt := congrArg Int32.toInt ((ajV316 75 gf rfl).trans (ajV17 75 gf rfl))
            have pq325 : (V316 76 gf).toInt = ((V 76 gf)).toInt := congrArg Int32.toInt ((ajV316 76 gf rfl).trans (ajV17 76 gf rfl))
            have pq326 : (V316 80 gf).toInt = ((V 80 gf)).toInt := congrArg Int32.toInt ((ajV316 80 gf rfl).trans (ajV17 80 gf rfl))
            have pq327 : (V316 84 gf).toInt = ((V 84 gf)).toInt := congrArg Int32.toInt ((ajV316 84 gf rfl).trans (ajV17 84 gf rfl))
            have pq328 : (V316 5 8).toInt = ((V 5 8)).toInt := congrArg Int32.toInt ((ajV316 5 8 rfl).trans (ajV17 5 8 rfl))
            have pq329 : (V316 5 9).toInt = ((V 5 9)).toInt := congrArg Int32.toInt ((ajV316 5 9 rfl).trans (ajV17 5 9 rfl))
            have pq330 : (V316 3 13).toInt = ((V 3 13)).toInt := congrArg Int32.toInt ((ajV316 3 13 rfl).trans (ajV17 3 13 rfl))
            have pq331 : (V316 43 (5 * b + 2)).toInt = ((V 43 (5 * b + 2))).toInt := congrArg Int32.toInt ((ajV316 43 (5 * b + 2) rfl).trans (ajV17 43 (5 * b + 2) rfl))
            have pq332 : (V316 42 b).toInt = ((V 42 b)).toInt := congrArg Int32.toInt ((ajV316 42 b rfl).trans (ajV17 42 b rfl))
            have pq333 : (V316 41 b).toInt = ((V 41 b)).toInt := congrArg Int32.toInt ((ajV316 41 b rfl).trans (ajV17 41 b rfl))
            have rp334 : MJ V316 Z b := MP.lv (MO.mp mo) me319 (by (first | exact om_5ac7632c8ef3 gd pq311 t315 | omega)) (fun _ => Or.inl (by omega))
            exact W.vret hx hb hr (fun t ht hW => ⟨⟨(V316, L), rfl, ⟨hMV316, agV316, rfl, rp334⟩, by rw [ht]; exact hP, va_K.moved hW.alike hK, hD⟩, hS.F ht⟩) hS.2.2 dX5_abandon_104
          · skip
            have f335 : ((V 5 9)).toInt = 2 := b_eq rfl (by decide) c309
            refine lv_iload_n hx hb dX5_abandon_77 rfl (lv_at hl 0 rfl) ?_
            refine lv_if_eq (tgt := 100) hx hb dX5_abandon_78 (by decide) (fun q => absurd q (by decide)) (fun _ => ?_)
            refine lv_iload_n hx hb dX5_abandon_81 rfl (lv_at hl 1 rfl) ?_
            refine lv_if_ne (tgt := 100) hx hb dX5_abandon_82 (by decide) (fun q => absurd rfl q) (fun _ => ?_)
            refine lv_aload_n hx hb dX5_abandon_85 rfl (lv_at hl 2 rfl) ?_
            refine va_get (D := D) (ci := 5) (v := .ref (ad 3)) (fs := (xfMachine ad V17 L Z)) (C := RX5) (T := TX5) (N := 15) hx hb hg inX5 hown hK hP 5 xgMachine rfl 0 (by decide) (hg _ w667) (fun _ h9 => h9) rfl dX5_abandon_86 ?_
            refine lv_aload_n hx hb dX5_abandon_89 rfl (lv_at hl 3 rfl) ?_
            refine va_getN (D := D) (ci := 4) (v := .int (V17 72 gf)) (fs := (xfFrame V17 gf)) (C := RX4) (T := TX4) (N := 19) hx hb hg inX4 hown hK hP (336 + gf) (xgFrame hgf) rfl 5 (by decide) (hnw.use 1194 n1194 rfl) (fun _ h9 => h9) rfl dX5_abandon_90 ?_
            refine g_top (v := (V 72 gf)) (ajV17 72 gf rfl) ?_
            have r336 : 0 ≤ ((V 72 gf)).toInt ∧ ((V 72 gf)).toInt ≤ 39 := hMV 72 gf
            refine lv_aload_n hx hb dX5_abandon_93 rfl (lv_at hl 3 rfl) ?_
            refine va_getN (D := D) (ci := 4) (v := .int (V17 71 gf)) (fs := (xfFrame V17 gf)) (C := RX4) (T := TX4) (N := 19) hx hb hg inX4 hown hK hP (336 + gf) (xgFrame hgf) rfl 4 (by decide) (hnw.use 1193 n1193 rfl) (fun _ h9 => h9) rfl dX5_abandon_94 ?_
            refine g_top (v := (V 71 gf)) (ajV17 71 gf rfl) ?_
            refine gA_void (gA_runV (As := [.int (V 72 gf), .int (V 71 gf)]) (rest := []) (ci := 8) (q0 := 3) hx hb hml hown hg hP hD hK hS hA hnw hgk (x_spoil l D ks H.size ad kk V17 L Z (V 72 gf) (V 71 gf) hMV17 (by first | exact om_13ba01c174fe r336.1 r336.2 | first | omega | ((try (have i_mo := Imp.go mo (by omega))); omega))) w1340 w1341 w1342 w164 w1343 rfl xgStock hdV_yX8_spoil ⟨Nat.le_of_ble_eq_true rfl, Nat.le_of_ble_eq_true rfl⟩ rfl hl.1 rfl (Nat.le_of_ble_eq_true rfl) dX5_abandon_97 ⟨Nat.le_of_ble_eq_true rfl, Nat.le_of_ble_eq_true rfl⟩) hP hD hK hS hA (fun u338 H locs w339 hP hD hK hS => ?_)
            obtain ⟨V340, L341⟩ := u338
            obtain ⟨hMV340, ajV340, axL341⟩ := w339
            have axL341 : L = L341 := Eq.symm axL341
            subst axL341
            have hP : va_P D vwCl (xw ad kk V340 L Z) H := hP
            have hD : va_D A (xw ad kk V340 L Z) := hD
            have hMV340 : rgd bX V340 := hMV340
            have ajV340 : agr [] [24] V17 V340 := ajV340
            have agV340 : agr [(5, 6)] [24, 25, 28] V V340 := agV17.tr ajV340 (by decide) (by decide)
            refine lv_aload_n hx hb dX5_abandon_100 rfl (lv_at hl 2 rfl) ?_
            have pq342 : (V340 5 6).toInt = ((V 5 6)).toInt := congrArg Int32.toInt ((ajV340 5 6 rfl).trans (ajV17 5 6 rfl))
            refine gA_void (gA_runV (As := []) (rest := []) (ci := 5) (q0 := 5) hx hb hml hown hg hP hD hK hS hA hnw hgk (x_leave l D ks H.size ad kk V340 L Z  hMV340 (show 1 ≤ (V340 5 6).toInt from by first | exact om_0cac171fa40c gd pq342 | first | omega | ((try (have i_mo := Imp.go mo (by omega))); omega))) w1308 w1310 w50 w171 w1311 rfl xgMachine hdV_yX5_leave ⟨Nat.le_of_ble_eq_true rfl, Nat.le_of_ble_eq_true rfl⟩ rfl hl.1 rfl (Nat.le_of_ble_eq_true rfl) dX5_abandon_101 ⟨Nat.le_of_ble_eq_true rfl, Nat.le_of_ble_eq_true rfl⟩) hP hD hK hS hA (fun u344 H locs w345 hP hD hK hS => ?_)
            obtain ⟨V347, L348⟩ := u344
            obtain ⟨hMV347, ajV347, axL348, t346⟩ := w345
            have axL348 : L = L348 := Eq.symm axL348
            subst axL348
            have hP : va_P D vwCl (xw ad kk V347 L Z) H := hP
            have hD : va_D A (xw ad kk V347 L Z) := hD
            have hMV347 : rgd bX V347 := hMV347
            have ajV347 : agr [(5, 6)] [] V340 V347 := ajV347
            have agV347 : agr [(5, 6)] [24, 25, 28] V V347 := agV340.tr ajV347 (by decide) (by decide)
            have t346 : (V347 5 6).toInt = (V340 5 6).toInt - 1 := t346
            have r349 : 0 ≤ ((V347 5 6)).toInt ∧ ((V347 5 6)).toInt ≤ 400 := hMV347 5 6
            have me350 : ME V V347 gf := (ME.tr (ME.tr (ME.tr ME.rf (t16 _)) (ME.ag ajV340 (by decide))) (ME.ag ajV347 (by decide)))
            have pq351 : (V347 67 gf).toInt = ((V 67 gf)).toInt := congrArg Int32.toInt ((ajV347 67 gf rfl).trans ((ajV340 67 gf rfl).trans (ajV17 67 gf rfl)))
            have pq352 : (V347 68 gf).toInt = ((V 68 gf)).toInt := congrArg Int32.toInt ((ajV347 68 gf rfl).trans ((ajV340 68 gf rfl).trans (ajV17 68 gf rfl)))
            have pq353 : (V347 70 gf).toInt = ((V 70 gf)).toInt := congrArg Int32.toInt ((ajV347 70 gf rfl).trans ((ajV340 70 gf rfl).trans (ajV17 70 gf rfl)))
            have pq354 : (V347 71 gf).toInt = ((V 71 gf)).toInt := congrArg Int32.toInt ((ajV347 71 gf rfl).trans ((ajV340 71 gf rfl).trans (ajV17 71 gf rfl)))
            have pq355 : (V347 75 gf).toInt = ((V 75 gf)).toInt := congrArg Int32.toInt ((ajV347 75 gf rfl).trans ((ajV340 75 gf rfl).trans (ajV17 75 gf rfl)))
            have pq356 : (V347 76 gf).toInt = ((V 76 gf)).toInt := congrArg Int32.toInt ((ajV347 76 gf rfl).trans ((ajV340 76 gf rfl).trans (ajV17 76 gf rfl)))
            have pq357 : (V347 80 gf).toInt = ((V 80 gf)).toInt := congrArg Int32.toInt ((ajV347 80 gf rfl).trans ((ajV340 80 gf rfl).trans (ajV17 80 gf rfl)))
            have pq358 : (V347 84 gf).toInt = ((V 84 gf)).toInt := congrArg Int32.toInt ((ajV347 84 gf rfl).trans ((ajV340 84 gf rfl).trans (ajV17 84 gf rfl)))
            have pq359 : (V347 5 8).toInt = ((V 5 8)).toInt := congrArg Int32.toInt ((ajV347 5 8 rfl).trans ((ajV340 5 8 rfl).trans (ajV17 5 8 rfl)))
            have pq360 : (V347 5 9).toInt = ((V 5 9)).toInt := congrArg Int32.toInt ((ajV347 5 9 rfl).trans ((ajV340 5 9 rfl).trans (ajV17 5 9 rfl)))
            have pq361 : (V347 3 13).toInt = ((V 3 13)).toInt := congrArg Int32.toInt ((ajV347 3 13 rfl).trans ((ajV340 3 13 rfl).trans (ajV17 3 13 rfl)))
            have pq362 : (V347 43 (5 * b + 2)).toInt = ((V 43 (5 * b + 2))).toInt := congrArg Int32.toInt ((ajV347 43 (5 * b + 2) rfl).trans ((ajV340 43 (5 * b + 2) rfl).trans (ajV17 43 (5 * b + 2) rfl)))
            have pq363 : (V347 42 b).toInt = ((V 42 b)).toInt := congrArg Int32.toInt ((ajV347 42 b rfl).trans ((ajV340 42 b rfl).trans (ajV17 42 b rfl)))
            have pq364 : (V347 41 b).toInt = ((V 41 b)).toInt := congrArg Int32.toInt ((ajV347 41 b rfl).trans ((ajV340 41 b rfl).trans (ajV17 41 b rfl)))
            have rp365 : MJ V347 Z b := MP.lv (MO.mp mo) me350 (by (first | exact om_5ac7632c8ef3 gd pq342 t346 | omega)) (fun _ => Or.inl (by omega))
            exact W.vret hx hb hr (fun t ht hW => ⟨⟨(V347, L), rfl, ⟨hMV347, agV347, rfl, rp365⟩, by rw [ht]; exact hP, va_K.moved hW.alike hK, hD⟩, hS.F ht⟩) hS.2.2 dX5_abandon_104
      · skip
        have f366 : ((V 5 12)).toInt = 16 := b_eq rfl (by decide) c247
        refine lv_iconst (v := 1) hx hb dX5_abandon_38 (by decide) ?_
        refine lv_goto (tgt := 43) hx hb dX5_abandon_39 (by decide) ?_
        refine lv_istore_n (lv' := [(2, .int 1), (0, .ref (ad 5)), (1, .ref (Z.fa gf))]) hx hb dX5_abandon_43 rfl hl (by decide) rfl (fun ls hl => ?_)
        refine lv_aload_n hx hb dX5_abandon_44 rfl (lv_at hl 1 rfl) ?_
        refine va_get (D := D) (ci := 5) (v := .ref (ad (38 + Int32.toNatClampNeg (V17 5 5)))) (fs := (xfMachine ad V17 L Z)) (C := RX5) (T := TX5) (N := 15) hx hb hg inX5 hown hK hP 5 xgMachine rfl 5 (by decide) (hg _ w672) (fun _ h9 => h9) rfl dX5_abandon_45 ?_
        have pq367 : (V17 5 5).toInt = ((V 5 5)).toInt := congrArg Int32.toInt (ajV17 5 5 rfl)
        have r368 : 0 ≤ ((V 5 5)).toInt ∧ ((V 5 5)).toInt ≤ 1 := hMV 5 5
        refine g_topv (v := .ref (ad (38 + b))) (rfP (by first | omega | ((try (have i_mo := Imp.go mo (by omega))); omega))) ?_
        refine va_getN (D := D) (ci := 0) (v := .ref (ad (64 + b))) (fs := (xfBook ad V17 b)) (C := RX0) (T := TX0) (N := 13) hx hb hg inX0 hown hK hP (38 + b) (xgBook hb2) rfl 7 (by decide) (hnw.use 618 n618 rfl) (fun _ h9 => h9) rfl dX5_abandon_48 ?_
        refine lv_aload_n hx hb dX5_abandon_51 rfl (lv_at hl 2 rfl) ?_
        refine va_getN (D := D) (ci := 4) (v := .int (V17 71 gf)) (fs := (xfFrame V17 gf)) (C := RX4) (T := TX4) (N := 19) hx hb hg inX4 hown hK hP (336 + gf) (xgFrame hgf) rfl 4 (by decide) (hnw.use 1193 n1193 rfl) (fun _ h9 => h9) rfl dX5_abandon_52 ?_
        refine g_top (v := (V 71 gf)) (ajV17 71 gf rfl) ?_
        have il369 : b < 2 := by first | exact om_f940a4667dd6 hb2 | first | omega | ((try (have i_mo := Imp.go mo (by omega))); omega)
        refine va_aldq (D := D) (i := (V 71 gf)) hx hb hK hP (64 + b) (57 + b) (xgcomps il369) (xtcomps il369) (i_in (a := ((V 71 gf)).toInt) rfl (by first | omega | ((try (have i_mo := Imp.go mo (by omega))); omega))) dX5_abandon_55 ?_
        have kc370 := i_clamp (x := (V 71 gf)) rfl (by first | omega | ((try (have i_mo := Imp.go mo (by omega))); omega))
        refine g_topv (v := .ref (ad (72 + (24 * b + (Int32.toNatClampNeg (V 71 gf)))))) (congrArg va_rf (if_pos (by first | omega | ((try (have i_mo := Imp.go mo (by omega))); omega)))) ?_
        have il371 : (24 * b + (Int32.toNatClampNeg (V 71 gf))) < 48 := by first | exact om_31a61188bc78 hb2 r2.2 kc370 | first | omega | ((try (have i_mo := Imp.go mo (by omega))); omega)
        refine va_getN (D := D) (ci := 3) (v := .int (V17 51 (24 * b + (Int32.toNatClampNeg (V 71 gf))))) (fs := (xfComp ad V17 (24 * b + (Int32.toNatClampNeg (V 71 gf))))) (C := RX3) (T := TX3) (N := 13) hx hb hg inX3 hown hK hP (72 + (24 * b + (Int32.toNatClampNeg (V 71 gf)))) (xgComp il371) rfl 6 (by decide) (hnw.use 522 n522 rfl) (fun _ h9 => h9) rfl dX5_abandon_56 ?_
        refine g_top (v := (V 51 (24 * b + (Int32.toNatClampNeg (V 71 gf))))) (ajV17 51 (24 * b + (Int32.toNatClampNeg (V 71 gf))) rfl) ?_
        have r372 : 0 ≤ ((V 51 (24 * b + (Int32.toNatClampNeg (V 71 gf))))).toInt ∧ ((V 51 (24 * b + (Int32.toNatClampNeg (V 71 gf))))).toInt ≤ 3 := hMV 51 (24 * b + (Int32.toNatClampNeg (V 71 gf)))
        refine lv_iconst (v := 3) hx hb dX5_abandon_59 (by decide) ?_
        refine lv_icmp_eq (tgt := 67) hx hb dX5_abandon_60 (by decide) (fun c373 => ?_) (fun c373 => ?_)
        · skip
          have f374 : ((V 51 (24 * b + (Int32.toNatClampNeg (V 71 gf))))).toInt = 3 := b_eq rfl (by decide) c373
          refine lv_iconst (v := 0) hx hb dX5_abandon_67 (by decide) ?_
          refine lv_istore_n (lv' := [(3, .int 0), (2, .int 1), (0, .ref (ad 5)), (1, .ref (Z.fa gf))]) hx hb dX5_abandon_68 rfl hl (by decide) rfl (fun ls hl => ?_)
          refine lv_aload_n hx hb dX5_abandon_69 rfl (lv_at hl 2 rfl) ?_
          refine va_get (D := D) (ci := 5) (v := .int (V17 5 9)) (fs := (xfMachine ad V17 L Z)) (C := RX5) (T := TX5) (N := 15) hx hb hg inX5 hown hK hP 5 xgMachine rfl 9 (by decide) (hg _ w676) (fun _ h9 => h9) rfl dX5_abandon_70 ?_
          refine g_top (v := (V 5 9)) (ajV17 5 9 rfl) ?_
          refine lv_iconst (v := 2) hx hb dX5_abandon_73 (by decide) ?_
          refine lv_icmp_ne (tgt := 100) hx hb dX5_abandon_74 (by decide) (fun c375 => ?_) (fun c375 => ?_)
          · skip
            have f376 : ((V 5 9)).toInt ≠ 2 := b_neq rfl (by decide) c375
            refine lv_aload_n hx hb dX5_abandon_100 rfl (lv_at hl 2 rfl) ?_
            have pq377 : (V17 5 6).toInt = ((V 5 6)).toInt := congrArg Int32.toInt (ajV17 5 6 rfl)
            refine gA_void (gA_runV (As := []) (rest := []) (ci := 5) (q0 := 5) hx hb hml hown hg hP hD hK hS hA hnw hgk (x_leave l D ks H.size ad kk V17 L Z  hMV17 (show 1 ≤ (V17 5 6).toInt from by first | exact om_0cac171fa40c gd pq377 | first | omega | ((try (have i_mo := Imp.go mo (by omega))); omega))) w1308 w1310 w50 w171 w1311 rfl xgMachine hdV_yX5_leave ⟨Nat.le_of_ble_eq_true rfl, Nat.le_of_ble_eq_true rfl⟩ rfl hl.1 rfl (Nat.le_of_ble_eq_true rfl) dX5_abandon_101 ⟨Nat.le_of_ble_eq_true rfl, Nat.le_of_ble_eq_true rfl⟩) hP hD hK hS hA (fun u379 H locs w380 hP hD hK hS => ?_)
            obtain ⟨V382, L383⟩ := u379
            obtain ⟨hMV382, ajV382, axL383, t381⟩ := w380
            have axL383 : L = L383 := Eq.symm axL383
            subst axL383
            have hP : va_P D vwCl (xw ad kk V382 L Z) H := hP
            have hD : va_D A (xw ad kk V382 L Z) := hD
            have hMV382 : rgd bX V382 := hMV382
            have ajV382 : agr [(5, 6)] [] V17 V382 := ajV382
            have agV382 : agr [(5, 6)] [24, 25, 28] V V382 := agV17.tr ajV382 (by decide) (by decide)
            have t381 : (V382 5 6).toInt = (V17 5 6).toInt - 1 := t381
            have r384 : 0 ≤ ((V382 5 6)).toInt ∧ ((V382 5 6)).toInt ≤ 400 := hMV382 5 6
            have me385 : ME V V382 gf := (ME.tr (ME.tr ME.rf (t16 _)) (ME.ag ajV382 (by decide)))
            have pq386 : (V382 67 gf).toInt = ((V 67 gf)).toInt := congrArg Int32.toInt ((ajV382 67 gf rfl).trans (ajV17 67 gf rfl))
            have pq387 : (V382 68 gf).toInt = ((V 68 gf)).toInt := congrArg Int32.toInt ((ajV382 68 gf rfl).trans (ajV17 68 gf rfl))
            have pq388 : (V382 70 gf).toInt = ((V 70 gf)).toInt := congrArg Int32.toInt ((ajV382 70 gf rfl).trans (ajV17 70 gf rfl))
            have pq389 : (V382 71 gf).toInt = ((V 71 gf)).toInt := congrArg Int32.toInt ((ajV382 71 gf rfl).trans (ajV17 71 gf rfl))
            have pq390 : (V382 75 gf).toInt = ((V 75 gf)).toInt := congrArg Int32.toInt ((ajV382 75 gf rfl).trans (ajV17 75 gf rfl))
            have pq391 : (V382 76 gf).toInt = ((V 76 gf)).toInt := congrArg Int32.toInt ((ajV382 76 gf rfl).trans (ajV17 76 gf rfl))
            have pq392 : (V382 80 gf).toInt = ((V 80 gf)).toInt := congrArg Int32.toInt ((ajV382 80 gf rfl).trans (ajV17 80 gf rfl))
            have pq393 : (V382 84 gf).toInt = ((V 84 gf)).toInt := congrArg Int32.toInt ((ajV382 84 gf rfl).trans (ajV17 84 gf rfl))
            have pq394 : (V382 5 8).toInt = ((V 5 8)).toInt := congrArg Int32.toInt ((ajV382 5 8 rfl).trans (ajV17 5 8 rfl))
            have pq395 : (V382 5 9).toInt = ((V 5 9)).toInt := congrArg Int32.toInt ((ajV382 5 9 rfl).trans (ajV17 5 9 rfl))
            have pq396 : (V382 3 13).toInt = ((V 3 13)).toInt := congrArg Int32.toInt ((ajV382 3 13 rfl).trans (ajV17 3 13 rfl))
            have pq397 : (V382 43 (5 * b + 2)).toInt = ((V 43 (5 * b + 2))).toInt := congrArg Int32.toInt ((ajV382 43 (5 * b + 2) rfl).trans (ajV17 43 (5 * b + 2) rfl))
            have pq398 : (V382 42 b).toInt = ((V 42 b)).toInt := congrArg Int32.toInt ((ajV382 42 b rfl).trans (ajV17 42 b rfl))
            have pq399 : (V382 41 b).toInt = ((V 41 b)).toInt := congrArg Int32.toInt ((ajV382 41 b rfl).trans (ajV17 41 b rfl))
            have rp400 : MJ V382 Z b := MP.lv (MO.mp mo) me385 (by (first | exact om_5ac7632c8ef3 gd pq377 t381 | omega)) (fun _ => Or.inl (by omega))
            exact W.vret hx hb hr (fun t ht hW => ⟨⟨(V382, L), rfl, ⟨hMV382, agV382, rfl, rp400⟩, by rw [ht]; exact hP, va_K.moved hW.alike hK, hD⟩, hS.F ht⟩) hS.2.2 dX5_abandon_104
          · skip
            have f401 : ((V 5 9)).toInt = 2 := b_eq rfl (by decide) c375
            refine lv_iload_n hx hb dX5_abandon_77 rfl (lv_at hl 0 rfl) ?_
            refine lv_if_eq (tgt := 100) hx hb dX5_abandon_78 (by decide) (fun _ => ?_) (fun q => absurd (by decide) q)
            refine lv_aload_n hx hb dX5_abandon_100 rfl (lv_at hl 2 rfl) ?_
            have pq402 : (V17 5 6).toInt = ((V 5 6)).toInt := congrArg Int32.toInt (ajV17 5 6 rfl)
            refine gA_void (gA_runV (As := []) (rest := []) (ci := 5) (q0 := 5) hx hb hml hown hg hP hD hK hS hA hnw hgk (x_leave l D ks H.size ad kk V17 L Z  hMV17 (show 1 ≤ (V17 5 6).toInt from by first | exact om_0cac171fa40c gd pq402 | first | omega | ((try (have i_mo := Imp.go mo (by omega))); omega))) w1308 w1310 w50 w171 w1311 rfl xgMachine hdV_yX5_leave ⟨Nat.le_of_ble_eq_true rfl, Nat.le_of_ble_eq_true rfl⟩ rfl hl.1 rfl (Nat.le_of_ble_eq_true rfl) dX5_abandon_101 ⟨Nat.le_of_ble_eq_true rfl, Nat.le_of_ble_eq_true rfl⟩) hP hD hK hS hA (fun u404 H locs w405 hP hD hK hS => ?_)
            obtain ⟨V407, L408⟩ := u404
            obtain ⟨hMV407, ajV407, axL408, t406⟩ := w405
            have axL408 : L = L408 := Eq.symm axL408
            subst axL408
            have hP : va_P D vwCl (xw ad kk V407 L Z) H := hP
            have hD : va_D A (xw ad kk V407 L Z) := hD
            have hMV407 : rgd bX V407 := hMV407
            have ajV407 : agr [(5, 6)] [] V17 V407 := ajV407
            have agV407 : agr [(5, 6)] [24, 25, 28] V V407 := agV17.tr ajV407 (by decide) (by decide)
            have t406 : (V407 5 6).toInt = (V17 5 6).toInt - 1 := t406
            have r409 : 0 ≤ ((V407 5 6)).toInt ∧ ((V407 5 6)).toInt ≤ 400 := hMV407 5 6
            have me410 : ME V V407 gf := (ME.tr (ME.tr ME.rf (t16 _)) (ME.ag ajV407 (by decide)))
            have pq411 : (V407 67 gf).toInt = ((V 67 gf)).toInt := congrArg Int32.toInt ((ajV407 67 gf rfl).trans (ajV17 67 gf rfl))
            have pq412 : (V407 68 gf).toInt = ((V 68 gf)).toInt := congrArg Int32.toInt ((ajV407 68 gf rfl).trans (ajV17 68 gf rfl))
            have pq413 : (V407 70 gf).toInt = ((V 70 gf)).toInt := congrArg Int32.toInt ((ajV407 70 gf rfl).trans (ajV17 70 gf rfl))
            have pq414 : (V407 71 gf).toInt = ((V 71 gf)).toInt := congrArg Int32.toInt ((ajV407 71 gf rfl).trans (ajV17 71 gf rfl))
            have pq415 : (V407 75 gf).toInt = ((V 75 gf)).toInt := congrArg Int32.toInt ((ajV407 75 gf rfl).trans (ajV17 75 gf rfl))
            have pq416 : (V407 76 gf).toInt = ((V 76 gf)).toInt := congrArg Int32.toInt ((ajV407 76 gf rfl).trans (ajV17 76 gf rfl))
            have pq417 : (V407 80 gf).toInt = ((V 80 gf)).toInt := congrArg Int32.toInt ((ajV407 80 gf rfl).trans (ajV17 80 gf rfl))
            have pq418 : (V407 84 gf).toInt = ((V 84 gf)).toInt := congrArg Int32.toInt ((ajV407 84 gf rfl).trans (ajV17 84 gf rfl))
            have pq419 : (V407 5 8).toInt = ((V 5 8)).toInt := congrArg Int32.toInt ((ajV407 5 8 rfl).trans (ajV17 5 8 rfl))
            have pq420 : (V407 5 9).toInt = ((V 5 9)).toInt := congrArg Int32.toInt ((ajV407 5 9 rfl).trans (ajV17 5 9 rfl))
            have pq421 : (V407 3 13).toInt = ((V 3 13)).toInt := congrArg Int32.toInt ((ajV407 3 13 rfl).trans (ajV17 3 13 rfl))
            have pq422 : (V407 43 (5 * b + 2)).toInt = ((V 43 (5 * b + 2))).toInt := congrArg Int32.toInt ((ajV407 43 (5 * b + 2) rfl).trans (ajV17 43 (5 * b + 2) rfl))
            have pq423 : (V407 42 b).toInt = ((V 42 b)).toInt := congrArg Int32.toInt ((ajV407 42 b rfl).trans (ajV17 42 b rfl))
            have pq424 : (V407 41 b).toInt = ((V 41 b)).toInt := congrArg Int32.toInt ((ajV407 41 b rfl).trans (ajV17 41 b rfl))
            have rp425 : MJ V407 Z b := MP.lv (MO.mp mo) me410 (by (first | exact om_5ac7632c8ef3 gd pq402 t406 | omega)) (fun _ => Or.inl (by omega))
            exact W.vret hx hb hr (fun t ht hW => ⟨⟨(V407, L), rfl, ⟨hMV407, agV407, rfl, rp425⟩, by rw [ht]; exact hP, va_K.moved hW.alike hK, hD⟩, hS.F ht⟩) hS.2.2 dX5_abandon_104
        · skip
          have f426 : ((V 51 (24 * b + (Int32.toNatClampNeg (V 71 gf))))).toInt ≠ 3 := b_neq rfl (by decide) c373
          refine lv_iconst (v := 1) hx hb dX5_abandon_63 (by decide) ?_
          refine lv_goto (tgt := 68) hx hb dX5_abandon_64 (by decide) ?_
          refine lv_istore_n (lv' := [(3, .int 1), (2, .int 1), (0, .ref (ad 5)), (1, .ref (Z.fa gf))]) hx hb dX5_abandon_68 rfl hl (by decide) rfl (fun ls hl => ?_)
          refine lv_aload_n hx hb dX5_abandon_69 rfl (lv_at hl 2 rfl) ?_
          refine va_get (D := D) (ci := 5) (v := .int (V17 5 9)) (fs := (xfMachine ad V17 L Z)) (C := RX5) (T := TX5) (N := 15) hx hb hg inX5 hown hK hP 5 xgMachine rfl 9 (by decide) (hg _ w676) (fun _ h9 => h9) rfl dX5_abandon_70 ?_
          refine g_top (v := (V 5 9)) (ajV17 5 9 rfl) ?_
          refine lv_iconst (v := 2) hx hb dX5_abandon_73 (by decide) ?_
          refine lv_icmp_ne (tgt := 100) hx hb dX5_abandon_74 (by decide) (fun c427 => ?_) (fun c427 => ?_)
          · skip
            have f428 : ((V 5 9)).toInt ≠ 2 := b_neq rfl (by decide) c427
            refine lv_aload_n hx hb dX5_abandon_100 rfl (lv_at hl 2 rfl) ?_
            have pq429 : (V17 5 6).toInt = ((V 5 6)).toInt := congrArg Int32.toInt (ajV17 5 6 rfl)
            refine gA_void (gA_runV (As := []) (rest := []) (ci := 5) (q0 := 5) hx hb hml hown hg hP hD hK hS hA hnw hgk (x_leave l D ks H.size ad kk V17 L Z  hMV17 (show 1 ≤ (V17 5 6).toInt from by first | exact om_0cac171fa40c gd pq429 | first | omega | ((try (have i_mo := Imp.go mo (by omega))); omega))) w1308 w1310 w50 w171 w1311 rfl xgMachine hdV_yX5_leave ⟨Nat.le_of_ble_eq_true rfl, Nat.le_of_ble_eq_true rfl⟩ rfl hl.1 rfl (Nat.le_of_ble_eq_true rfl) dX5_abandon_101 ⟨Nat.le_of_ble_eq_true rfl, Nat.le_of_ble_eq_true rfl⟩) hP hD hK hS hA (fun u431 H locs w432 hP hD hK hS => ?_)
            obtain ⟨V434, L435⟩ := u431
            obtain ⟨hMV434, ajV434, axL435, t433⟩ := w432
            have axL435 : L = L435 := Eq.symm axL435
            subst axL435
            have hP : va_P D vwCl (xw ad kk V434 L Z) H := hP
            have hD : va_D A (xw ad kk V434 L Z) := hD
            have hMV434 : rgd bX V434 := hMV434
            have ajV434 : agr [(5, 6)] [] V17 V434 := ajV434
            have agV434 : agr [(5, 6)] [24, 25, 28] V V434 := agV17.tr ajV434 (by decide) (by decide)
            have t433 : (V434 5 6).toInt = (V17 5 6).toInt - 1 := t433
            have r436 : 0 ≤ ((V434 5 6)).toInt ∧ ((V434 5 6)).toInt ≤ 400 := hMV434 5 6
            have me437 : ME V V434 gf := (ME.tr (ME.tr ME.rf (t16 _)) (ME.ag ajV434 (by decide)))
            have pq438 : (V434 67 gf).toInt = ((V 67 gf)).toInt := congrArg Int32.toInt ((ajV434 67 gf rfl).trans (ajV17 67 gf rfl))
            have pq439 : (V434 68 gf).toInt = ((V 68 gf)).toInt := congrArg Int32.toInt ((ajV434 68 gf rfl).trans (ajV17 68 gf rfl))
            have pq440 : (V434 70 gf).toInt = ((V 70 gf)).toInt := congrArg Int32.toInt ((ajV434 70 gf rfl).trans (ajV17 70 gf rfl))
            have pq441 : (V434 71 gf).toInt = ((V 71 gf)).toInt := congrArg Int32.toInt ((ajV434 71 gf rfl).trans (ajV17 71 gf rfl))
            have pq442 : (V434 75 gf).toInt = ((V 75 gf)).toInt := congrArg Int32.toInt ((ajV434 75 gf rfl).trans (ajV17 75 gf rfl))
            have pq443 : (V434 76 gf).toInt = ((V 76 gf)).toInt := congrArg Int32.toInt ((ajV434 76 gf rfl).trans (ajV17 76 gf rfl))
            have pq444 : (V434 80 gf).toInt = ((V 80 gf)).toInt := congrArg Int32.toInt ((ajV434 80 gf rfl).trans (ajV17 80 gf rfl))
            have pq445 : (V434 84 gf).toInt = ((V 84 gf)).toInt := congrArg Int32.toInt ((ajV434 84 gf rfl).trans (ajV17 84 gf rfl))
            have pq446 : (V434 5 8).toInt = ((V 5 8)).toInt := congrArg Int32.toInt ((ajV434 5 8 rfl).trans (ajV17 5 8 rfl))
            have pq447 : (V434 5 9).toInt = ((V 5 9)).toInt := congrArg Int32.toInt ((ajV434 5 9 rfl).trans (ajV17 5 9 rfl))
            have pq448 : (V434 3 13).toInt = ((V 3 13)).toInt := congrArg Int32.toInt ((ajV434 3 13 rfl).trans (ajV17 3 13 rfl))
            have pq449 : (V434 43 (5 * b + 2)).toInt = ((V 43 (5 * b + 2))).toInt := congrArg Int32.toInt ((ajV434 43 (5 * b + 2) rfl).trans (ajV17 43 (5 * b + 2) rfl))
            have pq450 : (V434 42 b).toInt = ((V 42 b)).toInt := congrArg Int32.toInt ((ajV434 42 b rfl).trans (ajV17 42 b rfl))
            have pq451 : (V434 41 b).toInt = ((V 41 b)).toInt := congrArg Int32.toInt ((ajV434 41 b rfl).trans (ajV17 41 b rfl))
            have rp452 : MJ V434 Z b := MP.lv (MO.mp mo) me437 (by (first | exact om_5ac7632c8ef3 gd pq429 t433 | omega)) (fun _ => Or.inl (by omega))
            exact W.vret hx hb hr (fun t ht hW => ⟨⟨(V434, L), rfl, ⟨hMV434, agV434, rfl, rp452⟩, by rw [ht]; exact hP, va_K.moved hW.alike hK, hD⟩, hS.F ht⟩) hS.2.2 dX5_abandon_104
          · skip
            have f453 : ((V 5 9)).toInt = 2 := b_eq rfl (by decide) c427
            refine lv_iload_n hx hb dX5_abandon_77 rfl (lv_at hl 0 rfl) ?_
            refine lv_if_eq (tgt := 100) hx hb dX5_abandon_78 (by decide) (fun q => absurd q (by decide)) (fun _ => ?_)
            refine lv_iload_n hx hb dX5_abandon_81 rfl (lv_at hl 1 rfl) ?_
            refine lv_if_ne (tgt := 100) hx hb dX5_abandon_82 (by decide) (fun _ => ?_) (fun q => absurd q (by decide))
            refine lv_aload_n hx hb dX5_abandon_100 rfl (lv_at hl 2 rfl) ?_
            have pq454 : (V17 5 6).toInt = ((V 5 6)).toInt := congrArg Int32.toInt (ajV17 5 6 rfl)
            refine gA_void (gA_runV (As := []) (rest := []) (ci := 5) (q0 := 5) hx hb hml hown hg hP hD hK hS hA hnw hgk (x_leave l D ks H.size ad kk V17 L Z  hMV17 (show 1 ≤ (V17 5 6).toInt from by first | exact om_0cac171fa40c gd pq454 | first | omega | ((try (have i_mo := Imp.go mo (by omega))); omega))) w1308 w1310 w50 w171 w1311 rfl xgMachine hdV_yX5_leave ⟨Nat.le_of_ble_eq_true rfl, Nat.le_of_ble_eq_true rfl⟩ rfl hl.1 rfl (Nat.le_of_ble_eq_true rfl) dX5_abandon_101 ⟨Nat.le_of_ble_eq_true rfl, Nat.le_of_ble_eq_true rfl⟩) hP hD hK hS hA (fun u456 H locs w457 hP hD hK hS => ?_)
            obtain ⟨V459, L460⟩ := u456
            obtain ⟨hMV459, ajV459, axL460, t458⟩ := w457
            have axL460 : L = L460 := Eq.symm axL460
            subst axL460
            have hP : va_P D vwCl (xw ad kk V459 L Z) H := hP
            have hD : va_D A (xw ad kk V459 L Z) := hD
            have hMV459 : rgd bX V459 := hMV459
            have ajV459 : agr [(5, 6)] [] V17 V459 := ajV459
            have agV459 : agr [(5, 6)] [24, 25, 28] V V459 := agV17.tr ajV459 (by decide) (by decide)
            have t458 : (V459 5 6).toInt = (V17 5 6).toInt - 1 := t458
            have r461 : 0 ≤ ((V459 5 6)).toInt ∧ ((V459 5 6)).toInt ≤ 400 := hMV459 5 6
            have me462 : ME V V459 gf := (ME.tr (ME.tr ME.rf (t16 _)) (ME.ag ajV459 (by decide)))
            have pq463 : (V459 67 gf).toInt = ((V 67 gf)).toInt := congrArg Int32.toInt ((ajV459 67 gf rfl).trans (ajV17 67 gf rfl))
            have pq464 : (V459 68 gf).toInt = ((V 68 gf)).toInt := congrArg Int32.toInt ((ajV459 68 gf rfl).trans (ajV17 68 gf rfl))
            have pq465 : (V459 70 gf).toInt = ((V 70 gf)).toInt := congrArg Int32.toInt ((ajV459 70 gf rfl).trans (ajV17 70 gf rfl))
            have pq466 : (V459 71 gf).toInt = ((V 71 gf)).toInt := congrArg Int32.toInt ((ajV459 71 gf rfl).trans (ajV17 71 gf rfl))
            have pq467 : (V459 75 gf).toInt = ((V 75 gf)).toInt := congrArg Int32.toInt ((ajV459 75 gf rfl).trans (ajV17 75 gf rfl))
            have pq468 : (V459 76 gf).toInt = ((V 76 gf)).toInt := congrArg Int32.toInt ((ajV459 76 gf rfl).trans (ajV17 76 gf rfl))
            have pq469 : (V459 80 gf).toInt = ((V 80 gf)).toInt := congrArg Int32.toInt ((ajV459 80 gf rfl).trans (ajV17 80 gf rfl))
            have pq470 : (V459 84 gf).toInt = ((V 84 gf)).toInt := congrArg Int32.toInt ((ajV459 84 gf rfl).trans (ajV17 84 gf rfl))
            have pq471 : (V459 5 8).toInt = ((V 5 8)).toInt := congrArg Int32.toInt ((ajV459 5 8 rfl).trans (ajV17 5 8 rfl))
            have pq472 : (V459 5 9).toInt = ((V 5 9)).toInt := congrArg Int32.toInt ((ajV459 5 9 rfl).trans (ajV17 5 9 rfl))
            have pq473 : (V459 3 13).toInt = ((V 3 13)).toInt := congrArg Int32.toInt ((ajV459 3 13 rfl).trans (ajV17 3 13 rfl))
            have pq474 : (V459 43 (5 * b + 2)).toInt = ((V 43 (5 * b + 2))).toInt := congrArg Int32.toInt ((ajV459 43 (5 * b + 2) rfl).trans (ajV17 43 (5 * b + 2) rfl))
            have pq475 : (V459 42 b).toInt = ((V 42 b)).toInt := congrArg Int32.toInt ((ajV459 42 b rfl).trans (ajV17 42 b rfl))
            have pq476 : (V459 41 b).toInt = ((V 41 b)).toInt := congrArg Int32.toInt ((ajV459 41 b rfl).trans (ajV17 41 b rfl))
            have rp477 : MJ V459 Z b := MP.lv (MO.mp mo) me462 (by (first | exact om_5ac7632c8ef3 gd pq454 t458 | omega)) (fun _ => Or.inl (by omega))
            exact W.vret hx hb hr (fun t ht hW => ⟨⟨(V459, L), rfl, ⟨hMV459, agV459, rfl, rp477⟩, by rw [ht]; exact hP, va_K.moved hW.alike hK, hD⟩, hS.F ht⟩) hS.2.2 dX5_abandon_104
end
