section
theorem w1439 : Cond.methodLink RX5 353 yX8_joinedTo ∈ GW := gw_k tk9_6 84 (by decide +kernel) rfl
theorem n1201 : lw_tbl[1201]? = some (Cond.fieldLinkNest RX5 356 "WiringHouse$Frame" "sum" "I" "WiringHouse") := la9 (n := 155) (i := 1046) lz9 (la9 (n := 240) (i := 806) ln9_1 (la9 (n := 240) (i := 566) ln9_2 (la9 (n := 240) (i := 326) ln9_3 (la9 (n := 240) (i := 86) ln9_4 (lb9 (i := 86) (by decide +kernel))))))
theorem w1457 : Cond.code yX5_pushCall cX5_pushCall 7 none ∈ GW := gw_k tk9_6 102 (rfl) rfl
theorem w1454 : Cond.methodLink RX5 362 yX5_pushCall ∈ GW := gw_k tk9_6 99 (by decide +kernel) rfl
theorem w1455 : Cond.instanceMethod yX5_pushCall ∈ GW := gw_k tk9_6 100 (by decide +kernel) rfl
theorem w1456 : Cond.selects RX5 yX5_pushCall yX5_pushCall ∈ GW := gw_k tk9_6 101 (by decide +kernel) rfl
theorem hdV_yX5_pushCall : yX5_pushCall.cls = RX5 ∧ yX5_pushCall.cls ≠ "java/lang/invoke/MethodHandle" ∧ yX5_pushCall.cls ≠ "java/lang/invoke/VarHandle" ∧ (parseMethodDescriptor yX5_pushCall.desc).map (fun d => d.parameters.length) = some 5 := by decide +kernel
theorem w1473 : Cond.code yX5_joinLate cX5_joinLate 4 none ∈ GW := gw_k tk9_6 118 (rfl) rfl
theorem w1470 : Cond.methodLink RX5 372 yX5_joinLate ∈ GW := gw_k tk9_6 115 (by decide +kernel) rfl
theorem w1472 : Cond.instanceMethod yX5_joinLate ∈ GW := gw_k tk9_6 117 (by decide +kernel) rfl
theorem w73 : Cond.selects RX5 yX5_joinLate yX5_joinLate ∈ GW := gw_mem 73 (by decide +kernel) rfl
theorem hdV_yX5_joinLate : yX5_joinLate.cls = RX5 ∧ yX5_joinLate.cls ≠ "java/lang/invoke/MethodHandle" ∧ yX5_joinLate.cls ≠ "java/lang/invoke/VarHandle" ∧ (parseMethodDescriptor yX5_joinLate.desc).map (fun d => d.parameters.length) = some 2 := by decide +kernel
theorem w1450 : Cond.code yX0_firstCandidate cX0_firstCandidate 4 (some .int) ∈ GW := gw_k tk9_6 95 (rfl) rfl
theorem w1447 : Cond.methodLink RX5 366 yX0_firstCandidate ∈ GW := gw_k tk9_6 92 (by decide +kernel) rfl
theorem w1448 : Cond.instanceMethod yX0_firstCandidate ∈ GW := gw_k tk9_6 93 (by decide +kernel) rfl
theorem w1449 : Cond.selects RX0 yX0_firstCandidate yX0_firstCandidate ∈ GW := gw_k tk9_6 94 (by decide +kernel) rfl
theorem hdV_yX0_firstCandidate : yX0_firstCandidate.cls = RX0 ∧ yX0_firstCandidate.cls ≠ "java/lang/invoke/MethodHandle" ∧ yX0_firstCandidate.cls ≠ "java/lang/invoke/VarHandle" ∧ (parseMethodDescriptor yX0_firstCandidate.desc).map (fun d => d.parameters.length) = some 2 := by decide +kernel
theorem w1179 : Cond.code yX5_pushRoot cX5_pushRoot 5 none ∈ GW := gw_k tk9_5 64 (rfl) rfl
theorem w1453 : Cond.methodLink RX5 369 yX5_pushRoot ∈ GW := gw_k tk9_6 98 (by decide +kernel) rfl
theorem w1177 : Cond.instanceMethod yX5_pushRoot ∈ GW := gw_k tk9_5 62 (by decide +kernel) rfl
theorem w1178 : Cond.selects RX5 yX5_pushRoot yX5_pushRoot ∈ GW := gw_k tk9_5 63 (by decide +kernel) rfl
theorem hdV_yX5_pushRoot : yX5_pushRoot.cls = RX5 ∧ yX5_pushRoot.cls ≠ "java/lang/invoke/MethodHandle" ∧ yX5_pushRoot.cls ≠ "java/lang/invoke/VarHandle" ∧ (parseMethodDescriptor yX5_pushRoot.desc).map (fun d => d.parameters.length) = some 3 := by decide +kernel
theorem w1446 : Cond.code yX5_getLate cX5_getLate 3 none ∈ GW := gw_k tk9_6 91 (rfl) rfl
theorem w1443 : Cond.methodLink RX5 359 yX5_getLate ∈ GW := gw_k tk9_6 88 (by decide +kernel) rfl
theorem w1445 : Cond.instanceMethod yX5_getLate ∈ GW := gw_k tk9_6 90 (by decide +kernel) rfl
theorem w69 : Cond.selects RX5 yX5_getLate yX5_getLate ∈ GW := gw_mem 69 (by decide +kernel) rfl
theorem hdV_yX5_getLate : yX5_getLate.cls = RX5 ∧ yX5_getLate.cls ≠ "java/lang/invoke/MethodHandle" ∧ yX5_getLate.cls ≠ "java/lang/invoke/VarHandle" ∧ (parseMethodDescriptor yX5_getLate.desc).map (fun d => d.parameters.length) = some 1 := by decide +kernel
theorem w1477 : Cond.code yX5_work cX5_work 6 none ∈ GW := gw_k tk9_6 122 (rfl) rfl
theorem w1474 : Cond.methodLink RX5 317 yX5_work ∈ GW := gw_k tk9_6 119 (by decide +kernel) rfl
theorem w1476 : Cond.instanceMethod yX5_work ∈ GW := gw_k tk9_6 121 (by decide +kernel) rfl
theorem w74 : Cond.selects RX5 yX5_work yX5_work ∈ GW := gw_mem 74 (by decide +kernel) rfl
theorem hdV_yX5_work : yX5_work.cls = RX5 ∧ yX5_work.cls ≠ "java/lang/invoke/MethodHandle" ∧ yX5_work.cls ≠ "java/lang/invoke/VarHandle" ∧ (parseMethodDescriptor yX5_work.desc).map (fun d => d.parameters.length) = some 1 := by decide +kernel
theorem w1465 : Cond.code yX5_takesAnswer cX5_takesAnswer 3 (some .boolean) ∈ GW := gw_k tk9_6 110 (rfl) rfl
theorem w1462 : Cond.methodLink RX5 313 yX5_takesAnswer ∈ GW := gw_k tk9_6 107 (by decide +kernel) rfl
theorem w1464 : Cond.instanceMethod yX5_takesAnswer ∈ GW := gw_k tk9_6 109 (by decide +kernel) rfl
theorem w71 : Cond.selects RX5 yX5_takesAnswer yX5_takesAnswer ∈ GW := gw_mem 71 (by decide +kernel) rfl
theorem hdV_yX5_takesAnswer : yX5_takesAnswer.cls = RX5 ∧ yX5_takesAnswer.cls ≠ "java/lang/invoke/MethodHandle" ∧ yX5_takesAnswer.cls ≠ "java/lang/invoke/VarHandle" ∧ (parseMethodDescriptor yX5_takesAnswer.desc).map (fun d => d.parameters.length) = some 1 := by decide +kernel
theorem w1438 : Cond.code yX5_callNeed cX5_callNeed 4 none ∈ GW := gw_k tk9_6 83 (rfl) rfl
theorem w1435 : Cond.methodLink RX5 307 yX5_callNeed ∈ GW := gw_k tk9_6 80 (by decide +kernel) rfl
theorem w1437 : Cond.instanceMethod yX5_callNeed ∈ GW := gw_k tk9_6 82 (by decide +kernel) rfl
theorem w68 : Cond.selects RX5 yX5_callNeed yX5_callNeed ∈ GW := gw_mem 68 (by decide +kernel) rfl
theorem hdV_yX5_callNeed : yX5_callNeed.cls = RX5 ∧ yX5_callNeed.cls ≠ "java/lang/invoke/MethodHandle" ∧ yX5_callNeed.cls ≠ "java/lang/invoke/VarHandle" ∧ (parseMethodDescriptor yX5_callNeed.desc).map (fun d => d.parameters.length) = some 1 := by decide +kernel
theorem dk9_dX5_joinLate_0_0 : dOk cX5_joinLate [(0, .aload_n 0, 1), (1, .getfield 24, 3), (4, .getfield 178, 3), (7, .aload_n 0, 1), (8, .getfield 28, 3), (11, .iload_n 2, 1), (12, .invokevirtual 126, 3), (15, .aaload, 1), (16, .getfield 182, 3), (19, .iconst 3, 1), (20, .if_icmp .ne 7, 3), (27, .iconst 0, 1), (28, .istore_n 3, 1), (29, .iload_n 3, 1), (30, .ifCond .eq 39, 3), (69, .return_, 1), (23, .iconst 1, 1), (24, .goto 4, 3), (33, .aload_n 0, 1), (34, .getfield 28, 3), (37, .aload_n 1, 1), (38, .getfield 100, 3), (41, .aload_n 1, 1), (42, .getfield 109, 3)] = true ∧ dOk cX5_joinLate [(45, .iconst 0, 1), (46, .invokevirtual 353, 3), (49, .iconst (-1), 1), (50, .if_icmp .ne 19, 3), (53, .aload_n 0, 1), (54, .getfield 28, 3), (57, .aload_n 1, 1), (58, .getfield 100, 3), (61, .aload_n 1, 1), (62, .getfield 109, 3), (65, .iload_n 2, 1), (66, .invokevirtual 221, 3)] = true := by decide +kernel
theorem dX5_joinLate_0 : decode cX5_joinLate 0 = .ok (.aload_n 0, 1) := dr9 dk9_dX5_joinLate_0_0.1 0 (0, .aload_n 0, 1) rfl
theorem dX5_joinLate_1 : decode cX5_joinLate 1 = .ok (.getfield 24, 3) := dr9 dk9_dX5_joinLate_0_0.1 1 (1, .getfield 24, 3) rfl
theorem dX5_joinLate_4 : decode cX5_joinLate 4 = .ok (.getfield 178, 3) := dr9 dk9_dX5_joinLate_0_0.1 2 (4, .getfield 178, 3) rfl
theorem dX5_joinLate_7 : decode cX5_joinLate 7 = .ok (.aload_n 0, 1) := dr9 dk9_dX5_joinLate_0_0.1 3 (7, .aload_n 0, 1) rfl
theorem dX5_joinLate_8 : decode cX5_joinLate 8 = .ok (.getfield 28, 3) := dr9 dk9_dX5_joinLate_0_0.1 4 (8, .getfield 28, 3) rfl
theorem dX5_joinLate_11 : decode cX5_joinLate 11 = .ok (.iload_n 2, 1) := dr9 dk9_dX5_joinLate_0_0.1 5 (11, .iload_n 2, 1) rfl
theorem dX5_joinLate_12 : decode cX5_joinLate 12 = .ok (.invokevirtual 126, 3) := dr9 dk9_dX5_joinLate_0_0.1 6 (12, .invokevirtual 126, 3) rfl
theorem dX5_joinLate_15 : decode cX5_joinLate 15 = .ok (.aaload, 1) := dr9 dk9_dX5_joinLate_0_0.1 7 (15, .aaload, 1) rfl
theorem dX5_joinLate_16 : decode cX5_joinLate 16 = .ok (.getfield 182, 3) := dr9 dk9_dX5_joinLate_0_0.1 8 (16, .getfield 182, 3) rfl
theorem dX5_joinLate_19 : decode cX5_joinLate 19 = .ok (.iconst 3, 1) := dr9 dk9_dX5_joinLate_0_0.1 9 (19, .iconst 3, 1) rfl
theorem dX5_joinLate_20 : decode cX5_joinLate 20 = .ok (.if_icmp .ne 7, 3) := dr9 dk9_dX5_joinLate_0_0.1 10 (20, .if_icmp .ne 7, 3) rfl
theorem dX5_joinLate_27 : decode cX5_joinLate 27 = .ok (.iconst 0, 1) := dr9 dk9_dX5_joinLate_0_0.1 11 (27, .iconst 0, 1) rfl
theorem dX5_joinLate_28 : decode cX5_joinLate 28 = .ok (.istore_n 3, 1) := dr9 dk9_dX5_joinLate_0_0.1 12 (28, .istore_n 3, 1) rfl
theorem dX5_joinLate_29 : decode cX5_joinLate 29 = .ok (.iload_n 3, 1) := dr9 dk9_dX5_joinLate_0_0.1 13 (29, .iload_n 3, 1) rfl
theorem dX5_joinLate_30 : decode cX5_joinLate 30 = .ok (.ifCond .eq 39, 3) := dr9 dk9_dX5_joinLate_0_0.1 14 (30, .ifCond .eq 39, 3) rfl
theorem dX5_joinLate_69 : decode cX5_joinLate 69 = .ok (.return_, 1) := dr9 dk9_dX5_joinLate_0_0.1 15 (69, .return_, 1) rfl
theorem dX5_joinLate_23 : decode cX5_joinLate 23 = .ok (.iconst 1, 1) := dr9 dk9_dX5_joinLate_0_0.1 16 (23, .iconst 1, 1) rfl
theorem dX5_joinLate_24 : decode cX5_joinLate 24 = .ok (.goto 4, 3) := dr9 dk9_dX5_joinLate_0_0.1 17 (24, .goto 4, 3) rfl
theorem dX5_joinLate_33 : decode cX5_joinLate 33 = .ok (.aload_n 0, 1) := dr9 dk9_dX5_joinLate_0_0.1 18 (33, .aload_n 0, 1) rfl
theorem dX5_joinLate_34 : decode cX5_joinLate 34 = .ok (.getfield 28, 3) := dr9 dk9_dX5_joinLate_0_0.1 19 (34, .getfield 28, 3) rfl
theorem dX5_joinLate_37 : decode cX5_joinLate 37 = .ok (.aload_n 1, 1) := dr9 dk9_dX5_joinLate_0_0.1 20 (37, .aload_n 1, 1) rfl
theorem dX5_joinLate_38 : decode cX5_joinLate 38 = .ok (.getfield 100, 3) := dr9 dk9_dX5_joinLate_0_0.1 21 (38, .getfield 100, 3) rfl
theorem dX5_joinLate_41 : decode cX5_joinLate 41 = .ok (.aload_n 1, 1) := dr9 dk9_dX5_joinLate_0_0.1 22 (41, .aload_n 1, 1) rfl
theorem dX5_joinLate_42 : decode cX5_joinLate 42 = .ok (.getfield 109, 3) := dr9 dk9_dX5_joinLate_0_0.1 23 (42, .getfield 109, 3) rfl
theorem dX5_joinLate_45 : decode cX5_joinLate 45 = .ok (.iconst 0, 1) := dr9 dk9_dX5_joinLate_0_0.2 0 (45, .iconst 0, 1) rfl
theorem dX5_joinLate_46 : decode cX5_joinLate 46 = .ok (.invokevirtual 353, 3) := dr9 dk9_dX5_joinLate_0_0.2 1 (46, .invokevirtual 353, 3) rfl
theorem dX5_joinLate_49 : decode cX5_joinLate 49 = .ok (.iconst (-1), 1) := dr9 dk9_dX5_joinLate_0_0.2 2 (49, .iconst (-1), 1) rfl
theorem dX5_joinLate_50 : decode cX5_joinLate 50 = .ok (.if_icmp .ne 19, 3) := dr9 dk9_dX5_joinLate_0_0.2 3 (50, .if_icmp .ne 19, 3) rfl
theorem dX5_joinLate_53 : decode cX5_joinLate 53 = .ok (.aload_n 0, 1) := dr9 dk9_dX5_joinLate_0_0.2 4 (53, .aload_n 0, 1) rfl
theorem dX5_joinLate_54 : decode cX5_joinLate 54 = .ok (.getfield 28, 3) := dr9 dk9_dX5_joinLate_0_0.2 5 (54, .getfield 28, 3) rfl
theorem dX5_joinLate_57 : decode cX5_joinLate 57 = .ok (.aload_n 1, 1) := dr9 dk9_dX5_joinLate_0_0.2 6 (57, .aload_n 1, 1) rfl
theorem dX5_joinLate_58 : decode cX5_joinLate 58 = .ok (.getfield 100, 3) := dr9 dk9_dX5_joinLate_0_0.2 7 (58, .getfield 100, 3) rfl
theorem dX5_joinLate_61 : decode cX5_joinLate 61 = .ok (.aload_n 1, 1) := dr9 dk9_dX5_joinLate_0_0.2 8 (61, .aload_n 1, 1) rfl
theorem dX5_joinLate_62 : decode cX5_joinLate 62 = .ok (.getfield 109, 3) := dr9 dk9_dX5_joinLate_0_0.2 9 (62, .getfield 109, 3) rfl
theorem dX5_joinLate_65 : decode cX5_joinLate 65 = .ok (.iload_n 2, 1) := dr9 dk9_dX5_joinLate_0_0.2 10 (65, .iload_n 2, 1) rfl
theorem dX5_joinLate_66 : decode cX5_joinLate 66 = .ok (.invokevirtual 221, 3) := dr9 dk9_dX5_joinLate_0_0.2 11 (66, .invokevirtual 221, 3) rfl
theorem dk9_dX5_takesAnswer_0_0 : dOk cX5_takesAnswer [(0, .aload_n 1, 1), (1, .getfield 94, 3), (4, .iconst 1, 1), (5, .if_icmp .ne 13, 3), (18, .aload_n 1, 1), (19, .getfield 94, 3), (22, .bipush 7, 2), (24, .if_icmp .ne 45, 3), (69, .aload_n 1, 1), (70, .dup, 1), (71, .getfield 356, 3), (74, .aload_n 0, 1), (75, .getfield 67, 3), (78, .iadd, 1), (79, .putfield 356, 3), (82, .aload_n 0, 1), (83, .getfield 28, 3), (86, .aload_n 1, 1), (87, .getfield 100, 3), (90, .aload_n 1, 1), (91, .getfield 109, 3), (94, .aload_n 1, 1), (95, .getfield 112, 3), (98, .invokevirtual 353, 3)] = true ∧ dOk cX5_takesAnswer [(101, .istore_n 2, 1), (102, .iload_n 2, 1), (103, .iconst (-1), 1), (104, .if_icmp .ne 13, 3), (117, .aload_n 1, 1), (118, .dup, 1), (119, .getfield 112, 3), (122, .iconst 1, 1), (123, .iadd, 1), (124, .putfield 112, 3), (127, .aload_n 0, 1), (128, .iload_n 2, 1), (129, .aload_n 1, 1), (130, .getfield 106, 3), (133, .aload_n 1, 1), (134, .getfield 347, 3), (137, .aload_n 1, 1), (138, .getfield 350, 3), (141, .aload_n 1, 1), (142, .getfield 97, 3), (145, .iconst 1, 1), (146, .iadd, 1), (147, .invokevirtual 362, 3), (150, .iconst 0, 1)] = true ∧ dOk cX5_takesAnswer [(151, .ireturn, 1), (107, .aload_n 0, 1), (108, .aload_n 1, 1), (109, .getfield 356, 3), (112, .invokevirtual 338, 3), (115, .iconst 1, 1), (116, .ireturn, 1), (27, .aload_n 0, 1), (28, .aload_n 1, 1), (29, .aload_n 0, 1), (30, .getfield 67, 3), (33, .invokevirtual 372, 3), (36, .aload_n 1, 1), (37, .iconst 1, 1), (38, .putfield 94, 3), (41, .aload_n 0, 1), (42, .aload_n 0, 1), (43, .getfield 67, 3), (46, .aload_n 1, 1), (47, .getfield 106, 3), (50, .aload_n 1, 1), (51, .getfield 347, 3), (54, .aload_n 1, 1), (55, .getfield 350, 3)] = true ∧ dOk cX5_takesAnswer [(58, .aload_n 1, 1), (59, .getfield 97, 3), (62, .iconst 1, 1), (63, .iadd, 1), (64, .invokevirtual 362, 3), (67, .iconst 0, 1), (68, .ireturn, 1), (8, .aload_n 0, 1), (9, .aload_n 0, 1), (10, .getfield 67, 3), (13, .invokevirtual 338, 3), (16, .iconst 1, 1), (17, .ireturn, 1)] = true := by decide +kernel
theorem dX5_takesAnswer_0 : decode cX5_takesAnswer 0 = .ok (.aload_n 1, 1) := dr9 dk9_dX5_takesAnswer_0_0.1 0 (0, .aload_n 1, 1) rfl
theorem dX5_takesAnswer_1 : decode cX5_takesAnswer 1 = .ok (.getfield 94, 3) := dr9 dk9_dX5_takesAnswer_0_0.1 1 (1, .getfield 94, 3) rfl
theorem dX5_takesAnswer_4 : decode cX5_takesAnswer 4 = .ok (.iconst 1, 1) := dr9 dk9_dX5_takesAnswer_0_0.1 2 (4, .iconst 1, 1) rfl
theorem dX5_takesAnswer_5 : decode cX5_takesAnswer 5 = .ok (.if_icmp .ne 13, 3) := dr9 dk9_dX5_takesAnswer_0_0.1 3 (5, .if_icmp .ne 13, 3) rfl
theorem dX5_takesAnswer_18 : decode cX5_takesAnswer 18 = .ok (.aload_n 1, 1) := dr9 dk9_dX5_takesAnswer_0_0.1 4 (18, .aload_n 1, 1) rfl
theorem dX5_takesAnswer_19 : decode cX5_takesAnswer 19 = .ok (.getfield 94, 3) := dr9 dk9_dX5_takesAnswer_0_0.1 5 (19, .getfield 94, 3) rfl
theorem dX5_takesAnswer_22 : decode cX5_takesAnswer 22 = .ok (.bipush 7, 2) := dr9 dk9_dX5_takesAnswer_0_0.1 6 (22, .bipush 7, 2) rfl
theorem dX5_takesAnswer_24 : decode cX5_takesAnswer 24 = .ok (.if_icmp .ne 45, 3) := dr9 dk9_dX5_takesAnswer_0_0.1 7 (24, .if_icmp .ne 45, 3) rfl
theorem dX5_takesAnswer_69 : decode cX5_takesAnswer 69 = .ok (.aload_n 1, 1) := dr9 dk9_dX5_takesAnswer_0_0.1 8 (69, .aload_n 1, 1) rfl
theorem dX5_takesAnswer_70 : decode cX5_takesAnswer 70 = .ok (.dup, 1) := dr9 dk9_dX5_takesAnswer_0_0.1 9 (70, .dup, 1) rfl
theorem dX5_takesAnswer_71 : decode cX5_takesAnswer 71 = .ok (.getfield 356, 3) := dr9 dk9_dX5_takesAnswer_0_0.1 10 (71, .getfield 356, 3) rfl
theorem dX5_takesAnswer_74 : decode cX5_takesAnswer 74 = .ok (.aload_n 0, 1) := dr9 dk9_dX5_takesAnswer_0_0.1 11 (74, .aload_n 0, 1) rfl
theorem dX5_takesAnswer_75 : decode cX5_takesAnswer 75 = .ok (.getfield 67, 3) := dr9 dk9_dX5_takesAnswer_0_0.1 12 (75, .getfield 67, 3) rfl
theorem dX5_takesAnswer_78 : decode cX5_takesAnswer 78 = .ok (.iadd, 1) := dr9 dk9_dX5_takesAnswer_0_0.1 13 (78, .iadd, 1) rfl
theorem dX5_takesAnswer_79 : decode cX5_takesAnswer 79 = .ok (.putfield 356, 3) := dr9 dk9_dX5_takesAnswer_0_0.1 14 (79, .putfield 356, 3) rfl
theorem dX5_takesAnswer_82 : decode cX5_takesAnswer 82 = .ok (.aload_n 0, 1) := dr9 dk9_dX5_takesAnswer_0_0.1 15 (82, .aload_n 0, 1) rfl
theorem dX5_takesAnswer_83 : decode cX5_takesAnswer 83 = .ok (.getfield 28, 3) := dr9 dk9_dX5_takesAnswer_0_0.1 16 (83, .getfield 28, 3) rfl
theorem dX5_takesAnswer_86 : decode cX5_takesAnswer 86 = .ok (.aload_n 1, 1) := dr9 dk9_dX5_takesAnswer_0_0.1 17 (86, .aload_n 1, 1) rfl
theorem dX5_takesAnswer_87 : decode cX5_takesAnswer 87 = .ok (.getfield 100, 3) := dr9 dk9_dX5_takesAnswer_0_0.1 18 (87, .getfield 100, 3) rfl
theorem dX5_takesAnswer_90 : decode cX5_takesAnswer 90 = .ok (.aload_n 1, 1) := dr9 dk9_dX5_takesAnswer_0_0.1 19 (90, .aload_n 1, 1) rfl
theorem dX5_takesAnswer_91 : decode cX5_takesAnswer 91 = .ok (.getfield 109, 3) := dr9 dk9_dX5_takesAnswer_0_0.1 20 (91, .getfield 109, 3) rfl
theorem dX5_takesAnswer_94 : decode cX5_takesAnswer 94 = .ok (.aload_n 1, 1) := dr9 dk9_dX5_takesAnswer_0_0.1 21 (94, .aload_n 1, 1) rfl
theorem dX5_takesAnswer_95 : decode cX5_takesAnswer 95 = .ok (.getfield 112, 3) := dr9 dk9_dX5_takesAnswer_0_0.1 22 (95, .getfield 112, 3) rfl
theorem dX5_takesAnswer_98 : decode cX5_takesAnswer 98 = .ok (.invokevirtual 353, 3) := dr9 dk9_dX5_takesAnswer_0_0.1 23 (98, .invokevirtual 353, 3) rfl
theorem dX5_takesAnswer_101 : decode cX5_takesAnswer 101 = .ok (.istore_n 2, 1) := dr9 dk9_dX5_takesAnswer_0_0.2.1 0 (101, .istore_n 2, 1) rfl
theorem dX5_takesAnswer_102 : decode cX5_takesAnswer 102 = .ok (.iload_n 2, 1) := dr9 dk9_dX5_takesAnswer_0_0.2.1 1 (102, .iload_n 2, 1) rfl
theorem dX5_takesAnswer_103 : decode cX5_takesAnswer 103 = .ok (.iconst (-1), 1) := dr9 dk9_dX5_takesAnswer_0_0.2.1 2 (103, .iconst (-1), 1) rfl
theorem dX5_takesAnswer_104 : decode cX5_takesAnswer 104 = .ok (.if_icmp .ne 13, 3) := dr9 dk9_dX5_takesAnswer_0_0.2.1 3 (104, .if_icmp .ne 13, 3) rfl
theorem dX5_takesAnswer_117 : decode cX5_takesAnswer 117 = .ok (.aload_n 1, 1) := dr9 dk9_dX5_takesAnswer_0_0.2.1 4 (117, .aload_n 1, 1) rfl
theorem dX5_takesAnswer_118 : decode cX5_takesAnswer 118 = .ok (.dup, 1) := dr9 dk9_dX5_takesAnswer_0_0.2.1 5 (118, .dup, 1) rfl
theorem dX5_takesAnswer_119 : decode cX5_takesAnswer 119 = .ok (.getfield 112, 3) := dr9 dk9_dX5_takesAnswer_0_0.2.1 6 (119, .getfield 112, 3) rfl
theorem dX5_takesAnswer_122 : decode cX5_takesAnswer 122 = .ok (.iconst 1, 1) := dr9 dk9_dX5_takesAnswer_0_0.2.1 7 (122, .iconst 1, 1) rfl
theorem dX5_takesAnswer_123 : decode cX5_takesAnswer 123 = .ok (.iadd, 1) := dr9 dk9_dX5_takesAnswer_0_0.2.1 8 (123, .iadd, 1) rfl
theorem dX5_takesAnswer_124 : decode cX5_takesAnswer 124 = .ok (.putfield 112, 3) := dr9 dk9_dX5_takesAnswer_0_0.2.1 9 (124, .putfield 112, 3) rfl
theorem dX5_takesAnswer_127 : decode cX5_takesAnswer 127 = .ok (.aload_n 0, 1) := dr9 dk9_dX5_takesAnswer_0_0.2.1 10 (127, .aload_n 0, 1) rfl
theorem dX5_takesAnswer_128 : decode cX5_takesAnswer 128 = .ok (.iload_n 2, 1) := dr9 dk9_dX5_takesAnswer_0_0.2.1 11 (128, .iload_n 2, 1) rfl
theorem dX5_takesAnswer_129 : decode cX5_takesAnswer 129 = .ok (.aload_n 1, 1) := dr9 dk9_dX5_takesAnswer_0_0.2.1 12 (129, .aload_n 1, 1) rfl
theorem dX5_takesAnswer_130 : decode cX5_takesAnswer 130 = .ok (.getfield 106, 3) := dr9 dk9_dX5_takesAnswer_0_0.2.1 13 (130, .getfield 106, 3) rfl
theorem dX5_takesAnswer_133 : decode cX5_takesAnswer 133 = .ok (.aload_n 1, 1) := dr9 dk9_dX5_takesAnswer_0_0.2.1 14 (133, .aload_n 1, 1) rfl
theorem dX5_takesAnswer_134 : decode cX5_takesAnswer 134 = .ok (.getfield 347, 3) := dr9 dk9_dX5_takesAnswer_0_0.2.1 15 (134, .getfield 347, 3) rfl
theorem dX5_takesAnswer_137 : decode cX5_takesAnswer 137 = .ok (.aload_n 1, 1) := dr9 dk9_dX5_takesAnswer_0_0.2.1 16 (137, .aload_n 1, 1) rfl
theorem dX5_takesAnswer_138 : decode cX5_takesAnswer 138 = .ok (.getfield 350, 3) := dr9 dk9_dX5_takesAnswer_0_0.2.1 17 (138, .getfield 350, 3) rfl
theorem dX5_takesAnswer_141 : decode cX5_takesAnswer 141 = .ok (.aload_n 1, 1) := dr9 dk9_dX5_takesAnswer_0_0.2.1 18 (141, .aload_n 1, 1) rfl
theorem dX5_takesAnswer_142 : decode cX5_takesAnswer 142 = .ok (.getfield 97, 3) := dr9 dk9_dX5_takesAnswer_0_0.2.1 19 (142, .getfield 97, 3) rfl
theorem dX5_takesAnswer_145 : decode cX5_takesAnswer 145 = .ok (.iconst 1, 1) := dr9 dk9_dX5_takesAnswer_0_0.2.1 20 (145, .iconst 1, 1) rfl
theorem dX5_takesAnswer_146 : decode cX5_takesAnswer 146 = .ok (.iadd, 1) := dr9 dk9_dX5_takesAnswer_0_0.2.1 21 (146, .iadd, 1) rfl
theorem dX5_takesAnswer_147 : decode cX5_takesAnswer 147 = .ok (.invokevirtual 362, 3) := dr9 dk9_dX5_takesAnswer_0_0.2.1 22 (147, .invokevirtual 362, 3) rfl
theorem dX5_takesAnswer_150 : decode cX5_takesAnswer 150 = .ok (.iconst 0, 1) := dr9 dk9_dX5_takesAnswer_0_0.2.1 23 (150, .iconst 0, 1) rfl
theorem dX5_takesAnswer_151 : decode cX5_takesAnswer 151 = .ok (.ireturn, 1) := dr9 dk9_dX5_takesAnswer_0_0.2.2.1 0 (151, .ireturn, 1) rfl
theorem dX5_takesAnswer_107 : decode cX5_takesAnswer 107 = .ok (.aload_n 0, 1) := dr9 dk9_dX5_takesAnswer_0_0.2.2.1 1 (107, .aload_n 0, 1) rfl
theorem dX5_takesAnswer_108 : decode cX5_takesAnswer 108 = .ok (.aload_n 1, 1) := dr9 dk9_dX5_takesAnswer_0_0.2.2.1 2 (108, .aload_n 1, 1) rfl
theorem dX5_takesAnswer_109 : decode cX5_takesAnswer 109 = .ok (.getfield 356, 3) := dr9 dk9_dX5_takesAnswer_0_0.2.2.1 3 (109, .getfield 356, 3) rfl
theorem dX5_takesAnswer_112 : decode cX5_takesAnswer 112 = .ok (.invokevirtual 338, 3) := dr9 dk9_dX5_takesAnswer_0_0.2.2.1 4 (112, .invokevirtual 338, 3) rfl
theorem dX5_takesAnswer_115 : decode cX5_takesAnswer 115 = .ok (.iconst 1, 1) := dr9 dk9_dX5_takesAnswer_0_0.2.2.1 5 (115, .iconst 1, 1) rfl
theorem dX5_takesAnswer_116 : decode cX5_takesAnswer 116 = .ok (.ireturn, 1) := dr9 dk9_dX5_takesAnswer_0_0.2.2.1 6 (116, .ireturn, 1) rfl
theorem dX5_takesAnswer_27 : decode cX5_takesAnswer 27 = .ok (.aload_n 0, 1) := dr9 dk9_dX5_takesAnswer_0_0.2.2.1 7 (27, .aload_n 0, 1) rfl
theorem dX5_takesAnswer_28 : decode cX5_takesAnswer 28 = .ok (.aload_n 1, 1) := dr9 dk9_dX5_takesAnswer_0_0.2.2.1 8 (28, .aload_n 1, 1) rfl
theorem dX5_takesAnswer_29 : decode cX5_takesAnswer 29 = .ok (.aload_n 0, 1) := dr9 dk9_dX5_takesAnswer_0_0.2.2.1 9 (29, .aload_n 0, 1) rfl
theorem dX5_takesAnswer_30 : decode cX5_takesAnswer 30 = .ok (.getfield 67, 3) := dr9 dk9_dX5_takesAnswer_0_0.2.2.1 10 (30, .getfield 67, 3) rfl
theorem dX5_takesAnswer_33 : decode cX5_takesAnswer 33 = .ok (.invokevirtual 372, 3) := dr9 dk9_dX5_takesAnswer_0_0.2.2.1 11 (33, .invokevirtual 372, 3) rfl
theorem dX5_takesAnswer_36 : decode cX5_takesAnswer 36 = .ok (.aload_n 1, 1) := dr9 dk9_dX5_takesAnswer_0_0.2.2.1 12 (36, .aload_n 1, 1) rfl
theorem dX5_takesAnswer_37 : decode cX5_takesAnswer 37 = .ok (.iconst 1, 1) := dr9 dk9_dX5_takesAnswer_0_0.2.2.1 13 (37, .iconst 1, 1) rfl
theorem dX5_takesAnswer_38 : decode cX5_takesAnswer 38 = .ok (.putfield 94, 3) := dr9 dk9_dX5_takesAnswer_0_0.2.2.1 14 (38, .putfield 94, 3) rfl
theorem dX5_takesAnswer_41 : decode cX5_takesAnswer 41 = .ok (.aload_n 0, 1) := dr9 dk9_dX5_takesAnswer_0_0.2.2.1 15 (41, .aload_n 0, 1) rfl
theorem dX5_takesAnswer_42 : decode cX5_takesAnswer 42 = .ok (.aload_n 0, 1) := dr9 dk9_dX5_takesAnswer_0_0.2.2.1 16 (42, .aload_n 0, 1) rfl
theorem dX5_takesAnswer_43 : decode cX5_takesAnswer 43 = .ok (.getfield 67, 3) := dr9 dk9_dX5_takesAnswer_0_0.2.2.1 17 (43, .getfield 67, 3) rfl
theorem dX5_takesAnswer_46 : decode cX5_takesAnswer 46 = .ok (.aload_n 1, 1) := dr9 dk9_dX5_takesAnswer_0_0.2.2.1 18 (46, .aload_n 1, 1) rfl
theorem dX5_takesAnswer_47 : decode cX5_takesAnswer 47 = .ok (.getfield 106, 3) := dr9 dk9_dX5_takesAnswer_0_0.2.2.1 19 (47, .getfield 106, 3) rfl
theorem dX5_takesAnswer_50 : decode cX5_takesAnswer 50 = .ok (.aload_n 1, 1) := dr9 dk9_dX5_takesAnswer_0_0.2.2.1 20 (50, .aload_n 1, 1) rfl
theorem dX5_takesAnswer_51 : decode cX5_takesAnswer 51 = .ok (.getfield 347, 3) := dr9 dk9_dX5_takesAnswer_0_0.2.2.1 21 (51, .getfield 347, 3) rfl
theorem dX5_takesAnswer_54 : decode cX5_takesAnswer 54 = .ok (.aload_n 1, 1) := dr9 dk9_dX5_takesAnswer_0_0.2.2.1 22 (54, .aload_n 1, 1) rfl
theorem dX5_takesAnswer_55 : decode cX5_takesAnswer 55 = .ok (.getfield 350, 3) := dr9 dk9_dX5_takesAnswer_0_0.2.2.1 23 (55, .getfield 350, 3) rfl
theorem dX5_takesAnswer_58 : decode cX5_takesAnswer 58 = .ok (.aload_n 1, 1) := dr9 dk9_dX5_takesAnswer_0_0.2.2.2 0 (58, .aload_n 1, 1) rfl
theorem dX5_takesAnswer_59 : decode cX5_takesAnswer 59 = .ok (.getfield 97, 3) := dr9 dk9_dX5_takesAnswer_0_0.2.2.2 1 (59, .getfield 97, 3) rfl
theorem dX5_takesAnswer_62 : decode cX5_takesAnswer 62 = .ok (.iconst 1, 1) := dr9 dk9_dX5_takesAnswer_0_0.2.2.2 2 (62, .iconst 1, 1) rfl
theorem dX5_takesAnswer_63 : decode cX5_takesAnswer 63 = .ok (.iadd, 1) := dr9 dk9_dX5_takesAnswer_0_0.2.2.2 3 (63, .iadd, 1) rfl
theorem dX5_takesAnswer_64 : decode cX5_takesAnswer 64 = .ok (.invokevirtual 362, 3) := dr9 dk9_dX5_takesAnswer_0_0.2.2.2 4 (64, .invokevirtual 362, 3) rfl
theorem dX5_takesAnswer_67 : decode cX5_takesAnswer 67 = .ok (.iconst 0, 1) := dr9 dk9_dX5_takesAnswer_0_0.2.2.2 5 (67, .iconst 0, 1) rfl
theorem dX5_takesAnswer_68 : decode cX5_takesAnswer 68 = .ok (.ireturn, 1) := dr9 dk9_dX5_takesAnswer_0_0.2.2.2 6 (68, .ireturn, 1) rfl
theorem dX5_takesAnswer_8 : decode cX5_takesAnswer 8 = .ok (.aload_n 0, 1) := dr9 dk9_dX5_takesAnswer_0_0.2.2.2 7 (8, .aload_n 0, 1) rfl
theorem dX5_takesAnswer_9 : decode cX5_takesAnswer 9 = .ok (.aload_n 0, 1) := dr9 dk9_dX5_takesAnswer_0_0.2.2.2 8 (9, .aload_n 0, 1) rfl
theorem dX5_takesAnswer_10 : decode cX5_takesAnswer 10 = .ok (.getfield 67, 3) := dr9 dk9_dX5_takesAnswer_0_0.2.2.2 9 (10, .getfield 67, 3) rfl
theorem dX5_takesAnswer_13 : decode cX5_takesAnswer 13 = .ok (.invokevirtual 338, 3) := dr9 dk9_dX5_takesAnswer_0_0.2.2.2 10 (13, .invokevirtual 338, 3) rfl
theorem dX5_takesAnswer_16 : decode cX5_takesAnswer 16 = .ok (.iconst 1, 1) := dr9 dk9_dX5_takesAnswer_0_0.2.2.2 11 (16, .iconst 1, 1) rfl
theorem dX5_takesAnswer_17 : decode cX5_takesAnswer 17 = .ok (.ireturn, 1) := dr9 dk9_dX5_takesAnswer_0_0.2.2.2 12 (17, .ireturn, 1) rfl
theorem dk9_dX5_getLate_0_0 : dOk cX5_getLate [(0, .aload_n 1, 1), (1, .getfield 97, 3), (4, .bipush 10, 2), (6, .if_icmp .lt 11, 3), (17, .aload_n 0, 1), (18, .getfield 24, 3), (21, .aload_n 1, 1), (22, .getfield 103, 3), (25, .aload_n 1, 1), (26, .getfield 109, 3), (29, .invokevirtual 366, 3), (32, .istore_n 2, 1), (33, .aload_n 0, 1), (34, .iload_n 2, 1), (35, .aload_n 1, 1), (36, .getfield 106, 3), (39, .aload_n 1, 1), (40, .getfield 97, 3), (43, .iconst 1, 1), (44, .iadd, 1), (45, .invokevirtual 369, 3), (48, .return_, 1), (9, .aload_n 0, 1), (10, .iconst 0, 1)] = true ∧ dOk cX5_getLate [(11, .bipush 13, 2), (13, .invokevirtual 169, 3), (16, .return_, 1)] = true := by decide +kernel
theorem dX5_getLate_0 : decode cX5_getLate 0 = .ok (.aload_n 1, 1) := dr9 dk9_dX5_getLate_0_0.1 0 (0, .aload_n 1, 1) rfl
theorem dX5_getLate_1 : decode cX5_getLate 1 = .ok (.getfield 97, 3) := dr9 dk9_dX5_getLate_0_0.1 1 (1, .getfield 97, 3) rfl
theorem dX5_getLate_4 : decode cX5_getLate 4 = .ok (.bipush 10, 2) := dr9 dk9_dX5_getLate_0_0.1 2 (4, .bipush 10, 2) rfl
theorem dX5_getLate_6 : decode cX5_getLate 6 = .ok (.if_icmp .lt 11, 3) := dr9 dk9_dX5_getLate_0_0.1 3 (6, .if_icmp .lt 11, 3) rfl
theorem dX5_getLate_17 : decode cX5_getLate 17 = .ok (.aload_n 0, 1) := dr9 dk9_dX5_getLate_0_0.1 4 (17, .aload_n 0, 1) rfl
theorem dX5_getLate_18 : decode cX5_getLate 18 = .ok (.getfield 24, 3) := dr9 dk9_dX5_getLate_0_0.1 5 (18, .getfield 24, 3) rfl
theorem dX5_getLate_21 : decode cX5_getLate 21 = .ok (.aload_n 1, 1) := dr9 dk9_dX5_getLate_0_0.1 6 (21, .aload_n 1, 1) rfl
theorem dX5_getLate_22 : decode cX5_getLate 22 = .ok (.getfield 103, 3) := dr9 dk9_dX5_getLate_0_0.1 7 (22, .getfield 103, 3) rfl
theorem dX5_getLate_25 : decode cX5_getLate 25 = .ok (.aload_n 1, 1) := dr9 dk9_dX5_getLate_0_0.1 8 (25, .aload_n 1, 1) rfl
theorem dX5_getLate_26 : decode cX5_getLate 26 = .ok (.getfield 109, 3) := dr9 dk9_dX5_getLate_0_0.1 9 (26, .getfield 109, 3) rfl
theorem dX5_getLate_29 : decode cX5_getLate 29 = .ok (.invokevirtual 366, 3) := dr9 dk9_dX5_getLate_0_0.1 10 (29, .invokevirtual 366, 3) rfl
theorem dX5_getLate_32 : decode cX5_getLate 32 = .ok (.istore_n 2, 1) := dr9 dk9_dX5_getLate_0_0.1 11 (32, .istore_n 2, 1) rfl
theorem dX5_getLate_33 : decode cX5_getLate 33 = .ok (.aload_n 0, 1) := dr9 dk9_dX5_getLate_0_0.1 12 (33, .aload_n 0, 1) rfl
theorem dX5_getLate_34 : decode cX5_getLate 34 = .ok (.iload_n 2, 1) := dr9 dk9_dX5_getLate_0_0.1 13 (34, .iload_n 2, 1) rfl
theorem dX5_getLate_35 : decode cX5_getLate 35 = .ok (.aload_n 1, 1) := dr9 dk9_dX5_getLate_0_0.1 14 (35, .aload_n 1, 1) rfl
theorem dX5_getLate_36 : decode cX5_getLate 36 = .ok (.getfield 106, 3) := dr9 dk9_dX5_getLate_0_0.1 15 (36, .getfield 106, 3) rfl
theorem dX5_getLate_39 : decode cX5_getLate 39 = .ok (.aload_n 1, 1) := dr9 dk9_dX5_getLate_0_0.1 16 (39, .aload_n 1, 1) rfl
theorem dX5_getLate_40 : decode cX5_getLate 40 = .ok (.getfield 97, 3) := dr9 dk9_dX5_getLate_0_0.1 17 (40, .getfield 97, 3) rfl
theorem dX5_getLate_43 : decode cX5_getLate 43 = .ok (.iconst 1, 1) := dr9 dk9_dX5_getLate_0_0.1 18 (43, .iconst 1, 1) rfl
theorem dX5_getLate_44 : decode cX5_getLate 44 = .ok (.iadd, 1) := dr9 dk9_dX5_getLate_0_0.1 19 (44, .iadd, 1) rfl
theorem dX5_getLate_45 : decode cX5_getLate 45 = .ok (.invokevirtual 369, 3) := dr9 dk9_dX5_getLate_0_0.1 20 (45, .invokevirtual 369, 3) rfl
theorem dX5_getLate_48 : decode cX5_getLate 48 = .ok (.return_, 1) := dr9 dk9_dX5_getLate_0_0.1 21 (48, .return_, 1) rfl
theorem dX5_getLate_9 : decode cX5_getLate 9 = .ok (.aload_n 0, 1) := dr9 dk9_dX5_getLate_0_0.1 22 (9, .aload_n 0, 1) rfl
theorem dX5_getLate_10 : decode cX5_getLate 10 = .ok (.iconst 0, 1) := dr9 dk9_dX5_getLate_0_0.1 23 (10, .iconst 0, 1) rfl
theorem dX5_getLate_11 : decode cX5_getLate 11 = .ok (.bipush 13, 2) := dr9 dk9_dX5_getLate_0_0.2 0 (11, .bipush 13, 2) rfl
theorem dX5_getLate_13 : decode cX5_getLate 13 = .ok (.invokevirtual 169, 3) := dr9 dk9_dX5_getLate_0_0.2 1 (13, .invokevirtual 169, 3) rfl
theorem dX5_getLate_16 : decode cX5_getLate 16 = .ok (.return_, 1) := dr9 dk9_dX5_getLate_0_0.2 2 (16, .return_, 1) rfl
theorem dk9_dX5_callNeed_0_0 : dOk cX5_callNeed [(0, .aload_n 0, 1), (1, .getfield 24, 3), (4, .getfield 178, 3), (7, .aload_n 1, 1), (8, .getfield 103, 3), (11, .aaload, 1), (12, .getfield 236, 3), (15, .aload_n 1, 1), (16, .getfield 109, 3), (19, .iaload, 1), (20, .istore_n 2, 1), (21, .aload_n 0, 1), (22, .getfield 28, 3), (25, .aload_n 1, 1), (26, .getfield 100, 3), (29, .aload_n 1, 1), (30, .getfield 109, 3), (33, .iconst 0, 1), (34, .invokevirtual 353, 3), (37, .istore_n 3, 1), (38, .iload_n 2, 1), (39, .iconst 2, 1), (40, .if_icmp .ne 27, 3), (67, .iload_n 2, 1)] = true ∧ dOk cX5_callNeed [(68, .iconst 1, 1), (69, .if_icmp .ne 22, 3), (91, .aload_n 1, 1), (92, .iconst 1, 1), (93, .putfield 94, 3), (96, .aload_n 0, 1), (97, .iload_n 3, 1), (98, .aload_n 1, 1), (99, .getfield 106, 3), (102, .aload_n 1, 1), (103, .getfield 347, 3), (106, .aload_n 1, 1), (107, .getfield 350, 3), (110, .aload_n 1, 1), (111, .getfield 97, 3), (114, .iconst 1, 1), (115, .iadd, 1), (116, .invokevirtual 362, 3), (119, .return_, 1), (72, .iload_n 3, 1), (73, .iconst (-1), 1), (74, .if_icmp .ne 17, 3), (77, .aload_n 1, 1), (78, .bipush 7, 2)] = true ∧ dOk cX5_callNeed [(80, .putfield 94, 3), (83, .aload_n 0, 1), (84, .aload_n 1, 1), (85, .invokevirtual 359, 3), (88, .goto 31, 3), (43, .aload_n 1, 1), (44, .bipush 8, 2), (46, .putfield 94, 3), (49, .aload_n 1, 1), (50, .iconst 0, 1), (51, .putfield 112, 3), (54, .aload_n 1, 1), (55, .iconst 0, 1), (56, .putfield 356, 3), (59, .aload_n 0, 1), (60, .iconst 0, 1), (61, .invokevirtual 203, 3), (64, .goto 55, 3)] = true := by decide +kernel
theorem dX5_callNeed_0 : decode cX5_callNeed 0 = .ok (.aload_n 0, 1) := dr9 dk9_dX5_callNeed_0_0.1 0 (0, .aload_n 0, 1) rfl
theorem dX5_callNeed_1 : decode cX5_callNeed 1 = .ok (.getfield 24, 3) := dr9 dk9_dX5_callNeed_0_0.1 1 (1, .getfield 24, 3) rfl
theorem dX5_callNeed_4 : decode cX5_callNeed 4 = .ok (.getfield 178, 3) := dr9 dk9_dX5_callNeed_0_0.1 2 (4, .getfield 178, 3) rfl
theorem dX5_callNeed_7 : decode cX5_callNeed 7 = .ok (.aload_n 1, 1) := dr9 dk9_dX5_callNeed_0_0.1 3 (7, .aload_n 1, 1) rfl
theorem dX5_callNeed_8 : decode cX5_callNeed 8 = .ok (.getfield 103, 3) := dr9 dk9_dX5_callNeed_0_0.1 4 (8, .getfield 103, 3) rfl
theorem dX5_callNeed_11 : decode cX5_callNeed 11 = .ok (.aaload, 1) := dr9 dk9_dX5_callNeed_0_0.1 5 (11, .aaload, 1) rfl
theorem dX5_callNeed_12 : decode cX5_callNeed 12 = .ok (.getfield 236, 3) := dr9 dk9_dX5_callNeed_0_0.1 6 (12, .getfield 236, 3) rfl
theorem dX5_callNeed_15 : decode cX5_callNeed 15 = .ok (.aload_n 1, 1) := dr9 dk9_dX5_callNeed_0_0.1 7 (15, .aload_n 1, 1) rfl
theorem dX5_callNeed_16 : decode cX5_callNeed 16 = .ok (.getfield 109, 3) := dr9 dk9_dX5_callNeed_0_0.1 8 (16, .getfield 109, 3) rfl
theorem dX5_callNeed_19 : decode cX5_callNeed 19 = .ok (.iaload, 1) := dr9 dk9_dX5_callNeed_0_0.1 9 (19, .iaload, 1) rfl
theorem dX5_callNeed_20 : decode cX5_callNeed 20 = .ok (.istore_n 2, 1) := dr9 dk9_dX5_callNeed_0_0.1 10 (20, .istore_n 2, 1) rfl
theorem dX5_callNeed_21 : decode cX5_callNeed 21 = .ok (.aload_n 0, 1) := dr9 dk9_dX5_callNeed_0_0.1 11 (21, .aload_n 0, 1) rfl
theorem dX5_callNeed_22 : decode cX5_callNeed 22 = .ok (.getfield 28, 3) := dr9 dk9_dX5_callNeed_0_0.1 12 (22, .getfield 28, 3) rfl
theorem dX5_callNeed_25 : decode cX5_callNeed 25 = .ok (.aload_n 1, 1) := dr9 dk9_dX5_callNeed_0_0.1 13 (25, .aload_n 1, 1) rfl
theorem dX5_callNeed_26 : decode cX5_callNeed 26 = .ok (.getfield 100, 3) := dr9 dk9_dX5_callNeed_0_0.1 14 (26, .getfield 100, 3) rfl
theorem dX5_callNeed_29 : decode cX5_callNeed 29 = .ok (.aload_n 1, 1) := dr9 dk9_dX5_callNeed_0_0.1 15 (29, .aload_n 1, 1) rfl
theorem dX5_callNeed_30 : decode cX5_callNeed 30 = .ok (.getfield 109, 3) := dr9 dk9_dX5_callNeed_0_0.1 16 (30, .getfield 109, 3) rfl
theorem dX5_callNeed_33 : decode cX5_callNeed 33 = .ok (.iconst 0, 1) := dr9 dk9_dX5_callNeed_0_0.1 17 (33, .iconst 0, 1) rfl
theorem dX5_callNeed_34 : decode cX5_callNeed 34 = .ok (.invokevirtual 353, 3) := dr9 dk9_dX5_callNeed_0_0.1 18 (34, .invokevirtual 353, 3) rfl
theorem dX5_callNeed_37 : decode cX5_callNeed 37 = .ok (.istore_n 3, 1) := dr9 dk9_dX5_callNeed_0_0.1 19 (37, .istore_n 3, 1) rfl
theorem dX5_callNeed_38 : decode cX5_callNeed 38 = .ok (.iload_n 2, 1) := dr9 dk9_dX5_callNeed_0_0.1 20 (38, .iload_n 2, 1) rfl
theorem dX5_callNeed_39 : decode cX5_callNeed 39 = .ok (.iconst 2, 1) := dr9 dk9_dX5_callNeed_0_0.1 21 (39, .iconst 2, 1) rfl
theorem dX5_callNeed_40 : decode cX5_callNeed 40 = .ok (.if_icmp .ne 27, 3) := dr9 dk9_dX5_callNeed_0_0.1 22 (40, .if_icmp .ne 27, 3) rfl
theorem dX5_callNeed_67 : decode cX5_callNeed 67 = .ok (.iload_n 2, 1) := dr9 dk9_dX5_callNeed_0_0.1 23 (67, .iload_n 2, 1) rfl
theorem dX5_callNeed_68 : decode cX5_callNeed 68 = .ok (.iconst 1, 1) := dr9 dk9_dX5_callNeed_0_0.2.1 0 (68, .iconst 1, 1) rfl
theorem dX5_callNeed_69 : decode cX5_callNeed 69 = .ok (.if_icmp .ne 22, 3) := dr9 dk9_dX5_callNeed_0_0.2.1 1 (69, .if_icmp .ne 22, 3) rfl
theorem dX5_callNeed_91 : decode cX5_callNeed 91 = .ok (.aload_n 1, 1) := dr9 dk9_dX5_callNeed_0_0.2.1 2 (91, .aload_n 1, 1) rfl
theorem dX5_callNeed_92 : decode cX5_callNeed 92 = .ok (.iconst 1, 1) := dr9 dk9_dX5_callNeed_0_0.2.1 3 (92, .iconst 1, 1) rfl
theorem dX5_callNeed_93 : decode cX5_callNeed 93 = .ok (.putfield 94, 3) := dr9 dk9_dX5_callNeed_0_0.2.1 4 (93, .putfield 94, 3) rfl
theorem dX5_callNeed_96 : decode cX5_callNeed 96 = .ok (.aload_n 0, 1) := dr9 dk9_dX5_callNeed_0_0.2.1 5 (96, .aload_n 0, 1) rfl
theorem dX5_callNeed_97 : decode cX5_callNeed 97 = .ok (.iload_n 3, 1) := dr9 dk9_dX5_callNeed_0_0.2.1 6 (97, .iload_n 3, 1) rfl
theorem dX5_callNeed_98 : decode cX5_callNeed 98 = .ok (.aload_n 1, 1) := dr9 dk9_dX5_callNeed_0_0.2.1 7 (98, .aload_n 1, 1) rfl
theorem dX5_callNeed_99 : decode cX5_callNeed 99 = .ok (.getfield 106, 3) := dr9 dk9_dX5_callNeed_0_0.2.1 8 (99, .getfield 106, 3) rfl
theorem dX5_callNeed_102 : decode cX5_callNeed 102 = .ok (.aload_n 1, 1) := dr9 dk9_dX5_callNeed_0_0.2.1 9 (102, .aload_n 1, 1) rfl
theorem dX5_callNeed_103 : decode cX5_callNeed 103 = .ok (.getfield 347, 3) := dr9 dk9_dX5_callNeed_0_0.2.1 10 (103, .getfield 347, 3) rfl
theorem dX5_callNeed_106 : decode cX5_callNeed 106 = .ok (.aload_n 1, 1) := dr9 dk9_dX5_callNeed_0_0.2.1 11 (106, .aload_n 1, 1) rfl
theorem dX5_callNeed_107 : decode cX5_callNeed 107 = .ok (.getfield 350, 3) := dr9 dk9_dX5_callNeed_0_0.2.1 12 (107, .getfield 350, 3) rfl
theorem dX5_callNeed_110 : decode cX5_callNeed 110 = .ok (.aload_n 1, 1) := dr9 dk9_dX5_callNeed_0_0.2.1 13 (110, .aload_n 1, 1) rfl
theorem dX5_callNeed_111 : decode cX5_callNeed 111 = .ok (.getfield 97, 3) := dr9 dk9_dX5_callNeed_0_0.2.1 14 (111, .getfield 97, 3) rfl
theorem dX5_callNeed_114 : decode cX5_callNeed 114 = .ok (.iconst 1, 1) := dr9 dk9_dX5_callNeed_0_0.2.1 15 (114, .iconst 1, 1) rfl
theorem dX5_callNeed_115 : decode cX5_callNeed 115 = .ok (.iadd, 1) := dr9 dk9_dX5_callNeed_0_0.2.1 16 (115, .iadd, 1) rfl
theorem dX5_callNeed_116 : decode cX5_callNeed 116 = .ok (.invokevirtual 362, 3) := dr9 dk9_dX5_callNeed_0_0.2.1 17 (116, .invokevirtual 362, 3) rfl
theorem dX5_callNeed_119 : decode cX5_callNeed 119 = .ok (.return_, 1) := dr9 dk9_dX5_callNeed_0_0.2.1 18 (119, .return_, 1) rfl
theorem dX5_callNeed_72 : decode cX5_callNeed 72 = .ok (.iload_n 3, 1) := dr9 dk9_dX5_callNeed_0_0.2.1 19 (72, .iload_n 3, 1) rfl
theorem dX5_callNeed_73 : decode cX5_callNeed 73 = .ok (.iconst (-1), 1) := dr9 dk9_dX5_callNeed_0_0.2.1 20 (73, .iconst (-1), 1) rfl
theorem dX5_callNeed_74 : decode cX5_callNeed 74 = .ok (.if_icmp .ne 17, 3) := dr9 dk9_dX5_callNeed_0_0.2.1 21 (74, .if_icmp .ne 17, 3) rfl
theorem dX5_callNeed_77 : decode cX5_callNeed 77 = .ok (.aload_n 1, 1) := dr9 dk9_dX5_callNeed_0_0.2.1 22 (77, .aload_n 1, 1) rfl
theorem dX5_callNeed_78 : decode cX5_callNeed 78 = .ok (.bipush 7, 2) := dr9 dk9_dX5_callNeed_0_0.2.1 23 (78, .bipush 7, 2) rfl
theorem dX5_callNeed_80 : decode cX5_callNeed 80 = .ok (.putfield 94, 3) := dr9 dk9_dX5_callNeed_0_0.2.2 0 (80, .putfield 94, 3) rfl
theorem dX5_callNeed_83 : decode cX5_callNeed 83 = .ok (.aload_n 0, 1) := dr9 dk9_dX5_callNeed_0_0.2.2 1 (83, .aload_n 0, 1) rfl
theorem dX5_callNeed_84 : decode cX5_callNeed 84 = .ok (.aload_n 1, 1) := dr9 dk9_dX5_callNeed_0_0.2.2 2 (84, .aload_n 1, 1) rfl
theorem dX5_callNeed_85 : decode cX5_callNeed 85 = .ok (.invokevirtual 359, 3) := dr9 dk9_dX5_callNeed_0_0.2.2 3 (85, .invokevirtual 359, 3) rfl
theorem dX5_callNeed_88 : decode cX5_callNeed 88 = .ok (.goto 31, 3) := dr9 dk9_dX5_callNeed_0_0.2.2 4 (88, .goto 31, 3) rfl
theorem dX5_callNeed_43 : decode cX5_callNeed 43 = .ok (.aload_n 1, 1) := dr9 dk9_dX5_callNeed_0_0.2.2 5 (43, .aload_n 1, 1) rfl
theorem dX5_callNeed_44 : decode cX5_callNeed 44 = .ok (.bipush 8, 2) := dr9 dk9_dX5_callNeed_0_0.2.2 6 (44, .bipush 8, 2) rfl
theorem dX5_callNeed_46 : decode cX5_callNeed 46 = .ok (.putfield 94, 3) := dr9 dk9_dX5_callNeed_0_0.2.2 7 (46, .putfield 94, 3) rfl
theorem dX5_callNeed_49 : decode cX5_callNeed 49 = .ok (.aload_n 1, 1) := dr9 dk9_dX5_callNeed_0_0.2.2 8 (49, .aload_n 1, 1) rfl
theorem dX5_callNeed_50 : decode cX5_callNeed 50 = .ok (.iconst 0, 1) := dr9 dk9_dX5_callNeed_0_0.2.2 9 (50, .iconst 0, 1) rfl
theorem dX5_callNeed_51 : decode cX5_callNeed 51 = .ok (.putfield 112, 3) := dr9 dk9_dX5_callNeed_0_0.2.2 10 (51, .putfield 112, 3) rfl
theorem dX5_callNeed_54 : decode cX5_callNeed 54 = .ok (.aload_n 1, 1) := dr9 dk9_dX5_callNeed_0_0.2.2 11 (54, .aload_n 1, 1) rfl
theorem dX5_callNeed_55 : decode cX5_callNeed 55 = .ok (.iconst 0, 1) := dr9 dk9_dX5_callNeed_0_0.2.2 12 (55, .iconst 0, 1) rfl
theorem dX5_callNeed_56 : decode cX5_callNeed 56 = .ok (.putfield 356, 3) := dr9 dk9_dX5_callNeed_0_0.2.2 13 (56, .putfield 356, 3) rfl
theorem dX5_callNeed_59 : decode cX5_callNeed 59 = .ok (.aload_n 0, 1) := dr9 dk9_dX5_callNeed_0_0.2.2 14 (59, .aload_n 0, 1) rfl
theorem dX5_callNeed_60 : decode cX5_callNeed 60 = .ok (.iconst 0, 1) := dr9 dk9_dX5_callNeed_0_0.2.2 15 (60, .iconst 0, 1) rfl
theorem dX5_callNeed_61 : decode cX5_callNeed 61 = .ok (.invokevirtual 203, 3) := dr9 dk9_dX5_callNeed_0_0.2.2 16 (61, .invokevirtual 203, 3) rfl
theorem dX5_callNeed_64 : decode cX5_callNeed 64 = .ok (.goto 55, 3) := dr9 dk9_dX5_callNeed_0_0.2.2 17 (64, .goto 55, 3) rfl
theorem dk9_dX5_goOnWorking_0_0 : dOk cX5_goOnWorking [(0, .aload_n 1, 1), (1, .getfield 94, 3), (4, .bipush 6, 2), (6, .if_icmp .ne 9, 3), (15, .aload_n 1, 1), (16, .getfield 94, 3), (19, .ifCond .eq 26, 3), (45, .aload_n 1, 1), (46, .iconst 0, 1), (47, .putfield 94, 3), (50, .aload_n 0, 1), (51, .aload_n 1, 1), (52, .invokevirtual 317, 3), (55, .return_, 1), (22, .aload_n 0, 1), (23, .getfield 49, 3), (26, .iconst 1, 1), (27, .if_icmp .eq 9, 3), (36, .aload_n 0, 1), (37, .aload_n 1, 1), (38, .invokevirtual 313, 3), (41, .ifCond .ne 4, 3), (44, .return_, 1), (30, .aload_n 0, 1)] = true ∧ dOk cX5_goOnWorking [(31, .aload_n 1, 1), (32, .invokevirtual 310, 3), (35, .return_, 1), (9, .aload_n 0, 1), (10, .aload_n 1, 1), (11, .invokevirtual 307, 3), (14, .return_, 1)] = true := by decide +kernel
theorem dX5_goOnWorking_0 : decode cX5_goOnWorking 0 = .ok (.aload_n 1, 1) := dr9 dk9_dX5_goOnWorking_0_0.1 0 (0, .aload_n 1, 1) rfl
theorem dX5_goOnWorking_1 : decode cX5_goOnWorking 1 = .ok (.getfield 94, 3) := dr9 dk9_dX5_goOnWorking_0_0.1 1 (1, .getfield 94, 3) rfl
theorem dX5_goOnWorking_4 : decode cX5_goOnWorking 4 = .ok (.bipush 6, 2) := dr9 dk9_dX5_goOnWorking_0_0.1 2 (4, .bipush 6, 2) rfl
theorem dX5_goOnWorking_6 : decode cX5_goOnWorking 6 = .ok (.if_icmp .ne 9, 3) := dr9 dk9_dX5_goOnWorking_0_0.1 3 (6, .if_icmp .ne 9, 3) rfl
theorem dX5_goOnWorking_15 : decode cX5_goOnWorking 15 = .ok (.aload_n 1, 1) := dr9 dk9_dX5_goOnWorking_0_0.1 4 (15, .aload_n 1, 1) rfl
theorem dX5_goOnWorking_16 : decode cX5_goOnWorking 16 = .ok (.getfield 94, 3) := dr9 dk9_dX5_goOnWorking_0_0.1 5 (16, .getfield 94, 3) rfl
theorem dX5_goOnWorking_19 : decode cX5_goOnWorking 19 = .ok (.ifCond .eq 26, 3) := dr9 dk9_dX5_goOnWorking_0_0.1 6 (19, .ifCond .eq 26, 3) rfl
theorem dX5_goOnWorking_45 : decode cX5_goOnWorking 45 = .ok (.aload_n 1, 1) := dr9 dk9_dX5_goOnWorking_0_0.1 7 (45, .aload_n 1, 1) rfl
theorem dX5_goOnWorking_46 : decode cX5_goOnWorking 46 = .ok (.iconst 0, 1) := dr9 dk9_dX5_goOnWorking_0_0.1 8 (46, .iconst 0, 1) rfl
theorem dX5_goOnWorking_47 : decode cX5_goOnWorking 47 = .ok (.putfield 94, 3) := dr9 dk9_dX5_goOnWorking_0_0.1 9 (47, .putfield 94, 3) rfl
theorem dX5_goOnWorking_50 : decode cX5_goOnWorking 50 = .ok (.aload_n 0, 1) := dr9 dk9_dX5_goOnWorking_0_0.1 10 (50, .aload_n 0, 1) rfl
theorem dX5_goOnWorking_51 : decode cX5_goOnWorking 51 = .ok (.aload_n 1, 1) := dr9 dk9_dX5_goOnWorking_0_0.1 11 (51, .aload_n 1, 1) rfl
theorem dX5_goOnWorking_52 : decode cX5_goOnWorking 52 = .ok (.invokevirtual 317, 3) := dr9 dk9_dX5_goOnWorking_0_0.1 12 (52, .invokevirtual 317, 3) rfl
theorem dX5_goOnWorking_55 : decode cX5_goOnWorking 55 = .ok (.return_, 1) := dr9 dk9_dX5_goOnWorking_0_0.1 13 (55, .return_, 1) rfl
theorem dX5_goOnWorking_22 : decode cX5_goOnWorking 22 = .ok (.aload_n 0, 1) := dr9 dk9_dX5_goOnWorking_0_0.1 14 (22, .aload_n 0, 1) rfl
theorem dX5_goOnWorking_23 : decode cX5_goOnWorking 23 = .ok (.getfield 49, 3) := dr9 dk9_dX5_goOnWorking_0_0.1 15 (23, .getfield 49, 3) rfl
theorem dX5_goOnWorking_26 : decode cX5_goOnWorking 26 = .ok (.iconst 1, 1) := dr9 dk9_dX5_goOnWorking_0_0.1 16 (26, .iconst 1, 1) rfl
theorem dX5_goOnWorking_27 : decode cX5_goOnWorking 27 = .ok (.if_icmp .eq 9, 3) := dr9 dk9_dX5_goOnWorking_0_0.1 17 (27, .if_icmp .eq 9, 3) rfl
theorem dX5_goOnWorking_36 : decode cX5_goOnWorking 36 = .ok (.aload_n 0, 1) := dr9 dk9_dX5_goOnWorking_0_0.1 18 (36, .aload_n 0, 1) rfl
theorem dX5_goOnWorking_37 : decode cX5_goOnWorking 37 = .ok (.aload_n 1, 1) := dr9 dk9_dX5_goOnWorking_0_0.1 19 (37, .aload_n 1, 1) rfl
theorem dX5_goOnWorking_38 : decode cX5_goOnWorking 38 = .ok (.invokevirtual 313, 3) := dr9 dk9_dX5_goOnWorking_0_0.1 20 (38, .invokevirtual 313, 3) rfl
theorem dX5_goOnWorking_41 : decode cX5_goOnWorking 41 = .ok (.ifCond .ne 4, 3) := dr9 dk9_dX5_goOnWorking_0_0.1 21 (41, .ifCond .ne 4, 3) rfl
theorem dX5_goOnWorking_44 : decode cX5_goOnWorking 44 = .ok (.return_, 1) := dr9 dk9_dX5_goOnWorking_0_0.1 22 (44, .return_, 1) rfl
theorem dX5_goOnWorking_30 : decode cX5_goOnWorking 30 = .ok (.aload_n 0, 1) := dr9 dk9_dX5_goOnWorking_0_0.1 23 (30, .aload_n 0, 1) rfl
theorem dX5_goOnWorking_31 : decode cX5_goOnWorking 31 = .ok (.aload_n 1, 1) := dr9 dk9_dX5_goOnWorking_0_0.2 0 (31, .aload_n 1, 1) rfl
theorem dX5_goOnWorking_32 : decode cX5_goOnWorking 32 = .ok (.invokevirtual 310, 3) := dr9 dk9_dX5_goOnWorking_0_0.2 1 (32, .invokevirtual 310, 3) rfl
theorem dX5_goOnWorking_35 : decode cX5_goOnWorking 35 = .ok (.return_, 1) := dr9 dk9_dX5_goOnWorking_0_0.2 2 (35, .return_, 1) rfl
theorem dX5_goOnWorking_9 : decode cX5_goOnWorking 9 = .ok (.aload_n 0, 1) := dr9 dk9_dX5_goOnWorking_0_0.2 3 (9, .aload_n 0, 1) rfl
theorem dX5_goOnWorking_10 : decode cX5_goOnWorking 10 = .ok (.aload_n 1, 1) := dr9 dk9_dX5_goOnWorking_0_0.2 4 (10, .aload_n 1, 1) rfl
theorem dX5_goOnWorking_11 : decode cX5_goOnWorking 11 = .ok (.invokevirtual 307, 3) := dr9 dk9_dX5_goOnWorking_0_0.2 5 (11, .invokevirtual 307, 3) rfl
theorem dX5_goOnWorking_14 : decode cX5_goOnWorking 14 = .ok (.return_, 1) := dr9 dk9_dX5_goOnWorking_0_0.2 6 (14, .return_, 1) rfl
abbrev r_x_has2 : Room := { frames := 0, cells := 0, slots := 0, locals := 0 }
abbrev q_x_has2 (D : va_G) (ks : KS) (ad : Nat → Nat) (kk : Nat → ClassId) (V : Vf) (L : Lf) (Z : XZ) (p0 : Int32) (A : Nat → Prop) : Array Value → State → Outcome → State → Prop := va_Qi (fun (r : Int32) (_ : Unit) => (0 ≤ r.toInt ∧ r.toInt ≤ 1) ∧ (Imp (r.toInt = 1) (0 ≤ p0.toInt ∧ p0.toInt < (V 3 13).toInt)) ∧ (Imp (r.toInt = 0) (p0.toInt < 0 ∨ (V 3 13).toInt ≤ p0.toInt))) (fun _ t => gq D A (xw ad kk V L Z) (xty kk Z) t) A
set_option maxHeartbeats 4000000 in
set_option maxRecDepth 100000 in
theorem x_has2 (l : Launch) (D : va_G) (ks : KS) (sz : Nat) (ad : Nat → Nat) (kk : Nat → ClassId) (V : Vf) (L : Lf) (Z : XZ) (p0 : Int32) (hMV : rgd bX V)  : Met l yX8_has (Cond.code yX8_has cX8_has 2 (some .boolean) :: GW) r_x_has2 (va_Pc [.ref (ad 3), .int p0] (gp D ks (xw ad kk V L Z) (xty kk Z) sz)) (q_x_has2 D ks ad kk V L Z p0 (va_A (xw ad kk V L Z) sz)) 0 0 (va_A (xw ad kk V L Z) sz) := by
  refine g_met (q_x_has2 D ks ad kk V L Z p0) (by decide) (Nat.le_of_ble_eq_true rfl) ?_
  intro p e s m below meth c A ls H locs hx hb hr hml hown hg hlocks hin hnw hgk hP hK hD hS hA hl
  have hown : s.vm.findClass RX8 = some m.cls := hown
  have hl : lv_has ls 2 [(0, .ref (ad 3)), (1, .int p0)] := hl
  have hP : va_P D vwCl (xw ad kk V L Z) H := hP
  have hD : va_D A (xw ad kk V L Z) := hD
  have hK : va_K D vwCl (xty kk Z) s := hK
  refine lv_iload_n hx hb dX8_has_0 rfl (lv_at hl 1 rfl) ?_
  refine lv_if_lt (tgt := 16) hx hb dX8_has_1 (by decide) (fun c1 => ?_) (fun c1 => ?_)
  · skip
    have f2 : p0.toInt < 0 := b_lt rfl (by decide) c1
    refine lv_iconst (v := 0) hx hb dX8_has_16 (by decide) ?_
    have r3 : 0 ≤ ((V 3 13)).toInt ∧ ((V 3 13)).toInt ≤ 300 := hMV 3 13
    exact W.zret (v := 0) hx hb hr rfl (fun t ht hW => ⟨⟨0, (), rfl, ⟨(by decide), (Imp.mk (fun hp => absurd hp (by decide))), (Imp.mk (fun _ => (show p0.toInt < 0 ∨ (V 3 13).toInt ≤ p0.toInt from by omega)))⟩, by rw [ht]; exact hP, va_K.moved hW.alike hK, hD⟩, hS.F ht⟩) hS.2.2 dX8_has_17
  · skip
    have f4 : 0 ≤ p0.toInt := b_nlt rfl (by decide) c1
    refine lv_iload_n hx hb dX8_has_4 rfl (lv_at hl 1 rfl) ?_
    refine lv_aload_n hx hb dX8_has_5 rfl (lv_at hl 0 rfl) ?_
    refine va_get (D := D) (ci := 8) (v := .int (V 3 13)) (fs := (xfStock ad V L Z)) (C := RX8) (T := TX8) (N := 16) hx hb hg inX8 hown hK hP 3 xgStock rfl 13 (by decide) (hg _ w391) (fun _ h9 => h9) rfl dX8_has_6 ?_
    have r5 : 0 ≤ ((V 3 13)).toInt ∧ ((V 3 13)).toInt ≤ 300 := hMV 3 13
    refine lv_icmp_ge (tgt := 16) hx hb dX8_has_9 (by decide) (fun c6 => ?_) (fun c6 => ?_)
    · skip
      have f7 : ((V 3 13)).toInt ≤ p0.toInt := b_le rfl rfl c6
      refine lv_iconst (v := 0) hx hb dX8_has_16 (by decide) ?_
      exact W.zret (v := 0) hx hb hr rfl (fun t ht hW => ⟨⟨0, (), rfl, ⟨(by decide), (Imp.mk (fun hp => absurd hp (by decide))), (Imp.mk (fun _ => (show p0.toInt < 0 ∨ (V 3 13).toInt ≤ p0.toInt from by omega)))⟩, by rw [ht]; exact hP, va_K.moved hW.alike hK, hD⟩, hS.F ht⟩) hS.2.2 dX8_has_17
    · skip
      have f8 : p0.toInt < ((V 3 13)).toInt := b_nle rfl rfl c6
      refine lv_iconst (v := 1) hx hb dX8_has_12 (by decide) ?_
      refine lv_goto (tgt := 17) hx hb dX8_has_13 (by decide) ?_
      exact W.zret (v := 1) hx hb hr rfl (fun t ht hW => ⟨⟨1, (), rfl, ⟨(by decide), (Imp.mk (fun _ => (show 0 ≤ p0.toInt ∧ p0.toInt < (V 3 13).toInt from by (first | exact om_a1ce77cc111f f4 f8 | omega)))), (Imp.mk (fun hp => absurd hp (by decide)))⟩, by rw [ht]; exact hP, va_K.moved hW.alike hK, hD⟩, hS.F ht⟩) hS.2.2 dX8_has_17
abbrev r_x_componentOf3 : Room := { frames := 1, cells := 0, slots := 0, locals := 21 }
abbrev q_x_componentOf3 (D : va_G) (ks : KS) (ad : Nat → Nat) (kk : Nat → ClassId) (V : Vf) (L : Lf) (Z : XZ) (p0 : Int32) (A : Nat → Prop) : Array Value → State → Outcome → State → Prop := va_Qi (fun (r : Int32) (_ : Unit) => (0 ≤ r.toInt ∧ r.toInt ≤ 23) ∧ (∀ n : Int, 0 < n → (∀ o : Nat, (o : Int) < (V 3 13).toInt → (V 26 o).toInt < n) → r.toInt < n) ∧ (∀ o : Nat, p0.toInt = (o : Int) → (o : Int) < (V 3 13).toInt → r = V 26 o)) (fun _ t => gq D A (xw ad kk V L Z) (xty kk Z) t) A
set_option maxHeartbeats 4000000 in
set_option maxRecDepth 100000 in
theorem x_componentOf3 (l : Launch) (D : va_G) (ks : KS) (sz : Nat) (ad : Nat → Nat) (kk : Nat → ClassId) (V : Vf) (L : Lf) (Z : XZ) (p0 : Int32) (hMV : rgd bX V)  : Met l yX8_componentOf (Cond.code yX8_componentOf cX8_componentOf 2 (some .int) :: GW) r_x_componentOf3 (va_Pc [.ref (ad 3), .int p0] (gp D ks (xw ad kk V L Z) (xty kk Z) sz)) (q_x_componentOf3 D ks ad kk V L Z p0 (va_A (xw ad kk V L Z) sz)) 0 0 (va_A (xw ad kk V L Z) sz) := by
  refine g_met (q_x_componentOf3 D ks ad kk V L Z p0) (by decide) (Nat.le_of_ble_eq_true rfl) ?_
  intro p e s m below meth c A ls H locs hx hb hr hml hown hg hlocks hin hnw hgk hP hK hD hS hA hl
  have hown : s.vm.findClass RX8 = some m.cls := hown
  have hl : lv_has ls 2 [(0, .ref (ad 3)), (1, .int p0)] := hl
  have hP : va_P D vwCl (xw ad kk V L Z) H := hP
  have hD : va_D A (xw ad kk V L Z) := hD
  have hK : va_K D vwCl (xty kk Z) s := hK
  refine lv_aload_n hx hb dX8_componentOf_0 rfl (lv_at hl 0 rfl) ?_
  refine lv_iload_n hx hb dX8_componentOf_1 rfl (lv_at hl 1 rfl) ?_
  refine gA_int (gA_runV (As := [.int p0]) (rest := []) (ci := 8) (q0 := 3) hx hb hml hown hg hP hD hK hS hA hnw hgk (x_has2 l D ks H.size ad kk V L Z p0 hMV ) w1300 w1301 w1302 w164 w1303 rfl xgStock hdV_yX8_has ⟨Nat.le_of_ble_eq_true rfl, Nat.le_of_ble_eq_true rfl⟩ rfl hl.1 rfl (Nat.le_of_ble_eq_true rfl) dX8_componentOf_2 ⟨Nat.le_of_ble_eq_true rfl, Nat.le_of_ble_eq_true rfl⟩) hP hD hK hS hA (fun z1 u2 H locs w3 hP hD hK hS => ?_)
  obtain ⟨rgz1, t4, t5⟩ := w3
  have rgz1 : 0 ≤ z1.toInt ∧ z1.toInt ≤ 1 := rgz1
  have t4 : Imp (z1.toInt = 1) (0 ≤ p0.toInt ∧ p0.toInt < (V 3 13).toInt) := t4
  have t5 : Imp (z1.toInt = 0) (p0.toInt < 0 ∨ (V 3 13).toInt ≤ p0.toInt) := t5
  have r6 : 0 ≤ ((V 3 13)).toInt ∧ ((V 3 13)).toInt ≤ 300 := hMV 3 13
  refine lv_if_eq (tgt := 17) hx hb dX8_componentOf_5 (by decide) (fun c7 => ?_) (fun c7 => ?_)
  · skip
    have f8 : z1.toInt = 0 := b_eq rfl (by decide) c7
    refine lv_iconst (v := 0) hx hb dX8_componentOf_17 (by decide) ?_
    exact W.iret (v := 0) hx hb hr (fun t ht hW => ⟨⟨0, (), rfl, ⟨(by decide), (fun n h0 _ => h0), (fun o h1 h2 => absurd h2 (by first | omega | ((try (have i_t5 := Imp.go t5 (by omega))); (try (have i_t4 := Imp.go t4 (by omega))); (try (have i_t4 := Imp.go t4 (by omega))); (try (have i_t5 := Imp.go t5 (by omega))); omega)))⟩, by rw [ht]; exact hP, va_K.moved hW.alike hK, hD⟩, hS.F ht⟩) hS.2.2 dX8_componentOf_18
  · skip
    have f9 : z1.toInt ≠ 0 := b_neq rfl (by decide) c7
    refine lv_aload_n hx hb dX8_componentOf_8 rfl (lv_at hl 0 rfl) ?_
    refine va_get (D := D) (ci := 8) (v := .ref (ad 23)) (fs := (xfStock ad V L Z)) (C := RX8) (T := TX8) (N := 16) hx hb hg inX8 hown hK hP 3 xgStock rfl 5 (by decide) (hg _ w379) (fun _ h9 => h9) rfl dX8_componentOf_9 ?_
    refine lv_iload_n hx hb dX8_componentOf_12 rfl (lv_at hl 1 rfl) ?_
    refine va_iald (D := D) (i := p0) hx hb hK hP 23 16 rfl rfl (i_in (a := p0.toInt) rfl (by first | exact om_e23680f16df4 r6.2 ((Imp.go t4 (imp_a (rgz1.1) (rgz1.2) (f9))).1) ((Imp.go t4 (imp_a (rgz1.1) (rgz1.2) (f9))).2) | first | omega | ((try (have i_t5 := Imp.go t5 (by omega))); (try (have i_t4 := Imp.go t4 (by omega))); (try (have i_t4 := Imp.go t4 (by omega))); (try (have i_t5 := Imp.go t5 (by omega))); omega))) dX8_componentOf_13 ?_
    have r10 : 0 ≤ ((V 26 (Int32.toNatClampNeg p0))).toInt ∧ ((V 26 (Int32.toNatClampNeg p0))).toInt ≤ 23 := hMV 26 (Int32.toNatClampNeg p0)
    refine lv_goto (tgt := 18) hx hb dX8_componentOf_14 (by decide) ?_
    have kcp := i_clamp (x := p0) rfl (by first | exact om_eafa9039069c ((Imp.go t4 (imp_a (rgz1.1) (rgz1.2) (f9))).1) | first | omega | ((try (have i_t5 := Imp.go t5 (by omega))); (try (have i_t4 := Imp.go t4 (by omega))); (try (have i_t4 := Imp.go t4 (by omega))); (try (have i_t5 := Imp.go t5 (by omega))); omega))
    have kcp := i_clamp (x := p0) rfl (by first | exact om_eafa9039069c ((Imp.go t4 (imp_a (rgz1.1) (rgz1.2) (f9))).1) | first | omega | ((try (have i_t5 := Imp.go t5 (by omega))); (try (have i_t4 := Imp.go t4 (by omega))); (try (have i_t4 := Imp.go t4 (by omega))); (try (have i_t5 := Imp.go t5 (by omega))); omega))
    have rp11 : ∀ o : Nat, p0.toInt = (o : Int) → (o : Int) < (V 3 13).toInt → (V 26 (Int32.toNatClampNeg p0)) = V 26 o := fun o h1 h2 => congrArg (V 26) (by omega)
    exact W.iret (v := (V 26 (Int32.toNatClampNeg p0))) hx hb hr (fun t ht hW => ⟨⟨(V 26 (Int32.toNatClampNeg p0)), (), rfl, ⟨(show 0 ≤ ((V 26 (Int32.toNatClampNeg p0))).toInt ∧ ((V 26 (Int32.toNatClampNeg p0))).toInt ≤ 23 from by first | exact om_d3435e1acec6 r10.1 r10.2 | first | omega | ((try (have i_t5 := Imp.go t5 (by omega))); (try (have i_t4 := Imp.go t4 (by omega))); (try (have i_t4 := Imp.go t4 (by omega))); (try (have i_t5 := Imp.go t5 (by omega))); omega)), (fun n _ hh => hh _ (by first | omega | ((try (have i_t5 := Imp.go t5 (by omega))); (try (have i_t4 := Imp.go t4 (by omega))); (try (have i_t4 := Imp.go t4 (by omega))); (try (have i_t5 := Imp.go t5 (by omega))); omega))), rp11⟩, by rw [ht]; exact hP, va_K.moved hW.alike hK, hD⟩, hS.F ht⟩) hS.2.2 dX8_componentOf_18
abbrev r_x_joinLate (Z : XZ) : Room := { frames := 3, cells := zcc Z, slots := zss Z, locals := 87 }
abbrev q_x_joinLate (D : va_G) (ks : KS) (ad : Nat → Nat) (kk : Nat → ClassId) (V : Vf) (L : Lf) (Z : XZ) (p1 : Int32) (b : Nat) (gf : Nat) (A : Nat → Prop) : Array Value → State → Outcome → State → Prop := qZv D (fun (u : Vf × Lf × XZ) => rgd bX u.1 ∧ agr [(3, 15)] [30, 31, 32] V u.1 ∧ u.2.1 = L ∧ ZL Z u.2.2 ∧ (MO u.1 u.2.2 b gf True False True)) (fun u => xw ad kk u.1 u.2.1 u.2.2) (fun u => xty kk u.2.2) (fun u => zcc Z - zcc u.2.2) (fun u => zss Z - zss u.2.2) A
set_option maxHeartbeats 4000000 in
set_option maxRecDepth 100000 in
theorem x_joinLate (l : Launch) (D : va_G) (ks : KS) (sz : Nat) (ad : Nat → Nat) (kk : Nat → ClassId) (V : Vf) (L : Lf) (Z : XZ) (p1 : Int32) (b : Nat) (gf : Nat) (hMV : rgd bX V) (hb2 : b < 2) (hgf : gf < Z.nf) (mo : MO V Z b gf True (¬ NN V b) True) (gd : (gf : Int) + 1 = (V 5 6).toInt) (gk : (V 67 gf).toInt = 4) (gph : (V 68 gf).toInt = 7) (hgt : p1.toInt = (V 5 10).toInt)  : Met l yX5_joinLate (Cond.code yX5_joinLate cX5_joinLate 4 none :: GW) (r_x_joinLate Z) (va_Pc [.ref (ad 5), .ref (Z.fa gf), .int p1] (gp D ks (xw ad kk V L Z) (xty kk Z) sz)) (q_x_joinLate D ks ad kk V L Z p1 b gf (va_A (xw ad kk V L Z) sz)) (zcc Z) (zss Z) (va_A (xw ad kk V L Z) sz) := by
  refine g_met (q_x_joinLate D ks ad kk V L Z p1 b gf) (by decide) (Nat.le_of_ble_eq_true rfl) ?_
  intro p e s m below meth c A ls H locs hx hb hr hml hown hg hlocks hin hnw hgk hP hK hD hS hA hl
  have hown : s.vm.findClass RX5 = some m.cls := hown
  have hl : lv_has ls 4 [(0, .ref (ad 5)), (1, .ref (Z.fa gf)), (2, .int p1)] := hl
  have hP : va_P D vwCl (xw ad kk V L Z) H := hP
  have hD : va_D A (xw ad kk V L Z) := hD
  have hK : va_K D vwCl (xty kk Z) s := hK
  have agV : agr [(3, 15)] [30, 31, 32] V V := agr.rf
  have zoZ : ZL Z Z := ZL.rf
  refine W.know (fun ka kb => ?_)
  refine W.tight (k := zcc Z - zcc Z) (n := zss Z - zss Z) (by omega) (by omega) ?_
  have r1 : 0 ≤ ((V 5 6)).toInt ∧ ((V 5 6)).toInt ≤ 400 := hMV 5 6
  have kdp := i_clamp (x := V 5 6) rfl (by (first | exact om_c66f1b494bd9 gd | omega))
  have hdn : (gf : Int) + 1 ≤ (Z.nf : Int) := by (first | exact om_29efded833ec hgf | omega)
  have mup := MO.up mo
  have msz := mup.1
  have mbk := mup.2.2.2.1
  obtain ⟨xk, fk⟩ := MO.fk mo
  have r2 : (-1) ≤ ((V 71 gf)).toInt ∧ ((V 71 gf)).toInt ≤ 23 := hMV 71 gf
  have r3 : 0 ≤ ((V 75 gf)).toInt ∧ ((V 75 gf)).toInt ≤ 12 := hMV 75 gf
  have r4 : 0 ≤ ((V 80 gf)).toInt ∧ ((V 80 gf)).toInt ≤ 300 := hMV 80 gf
  have r5 : 0 ≤ ((V 84 gf)).toInt ∧ ((V 84 gf)).toInt ≤ 2147483647 := hMV 84 gf
  have r6 : 0 ≤ ((V 5 8)).toInt ∧ ((V 5 8)).toInt ≤ 300 := hMV 5 8
  have r7 : 0 ≤ ((V 5 9)).toInt ∧ ((V 5 9)).toInt ≤ 3 := hMV 5 9
  have r8 : 0 ≤ ((V 3 13)).toInt ∧ ((V 3 13)).toInt ≤ 300 := hMV 3 13
  have r9 : 0 ≤ ((V 43 (5 * b + 2))).toInt ∧ ((V 43 (5 * b + 2))).toInt ≤ ((xcap (5 * b + 2) : Nat) : Int) := hMV 43 (5 * b + 2)
  have r10 : xcap (5 * b + 2) = 24 := xcap_2
  have r11 : 0 ≤ ((V 41 b)).toInt ∧ ((V 41 b)).toInt ≤ 12 := hMV 41 b
  have r12 : 0 ≤ ((V 42 b)).toInt ∧ ((V 42 b)).toInt ≤ 8200 := hMV 42 b
  have fc := fk.1 (by omega)
  have fo := fk.2.1 (by omega) (by omega)
  have ft := fk.2.2.1 (by omega)
  have fq := fk.2.2.2.1 (by omega)
  have mlc := mup.2.2.2.2.2.2.2.2.1
  have fq7 := fq (by omega)
  refine lv_aload_n hx hb dX5_joinLate_0 rfl (lv_at hl 0 rfl) ?_
  refine va_get (D := D) (ci := 5) (v := .ref (ad (38 + Int32.toNatClampNeg (V 5 5)))) (fs := (xfMachine ad V L Z)) (C := RX5) (T := TX5) (N := 15) hx hb hg inX5 hown hK hP 5 xgMachine rfl 5 (by decide) (hg _ w672) (fun _ h9 => h9) rfl dX5_joinLate_1 ?_
  have r13 : 0 ≤ ((V 5 5)).toInt ∧ ((V 5 5)).toInt ≤ 1 := hMV 5 5
  refine g_topv (v := .ref (ad (38 + b))) (rfP (by omega)) ?_
  refine va_getN (D := D) (ci := 0) (v := .ref (ad (64 + b))) (fs := (xfBook ad V b)) (C := RX0) (T := TX0) (N := 13) hx hb hg inX0 hown hK hP (38 + b) (xgBook hb2) rfl 7 (by decide) (hnw.use 618 n618 rfl) (fun _ h9 => h9) rfl dX5_joinLate_4 ?_
  refine lv_aload_n hx hb dX5_joinLate_7 rfl (lv_at hl 0 rfl) ?_
  refine va_get (D := D) (ci := 5) (v := .ref (ad 3)) (fs := (xfMachine ad V L Z)) (C := RX5) (T := TX5) (N := 15) hx hb hg inX5 hown hK hP 5 xgMachine rfl 0 (by decide) (hg _ w667) (fun _ h9 => h9) rfl dX5_joinLate_8 ?_
  refine lv_iload_n hx hb dX5_joinLate_11 rfl (lv_at hl 2 rfl) ?_
  refine gA_int (gA_runV (As := [.int p1]) (rest := [.ref (ad (64 + b))]) (ci := 8) (q0 := 3) hx hb hml hown hg hP hD hK hS hA hnw hgk (x_componentOf3 l D ks H.size ad kk V L Z p1 hMV ) w1324 w1325 w1326 w164 w1327 rfl xgStock hdV_yX8_componentOf ⟨Nat.le_of_ble_eq_true rfl, Nat.le_of_ble_eq_true rfl⟩ rfl hl.1 rfl (Nat.le_of_ble_eq_true rfl) dX5_joinLate_12 ⟨z0, z0⟩) hP hD hK hS hA (fun z14 u15 H locs w16 hP hD hK hS => ?_)
  obtain ⟨rgz14, t17, t18⟩ := w16
  have rgz14 : 0 ≤ z14.toInt ∧ z14.toInt ≤ 23 := rgz14
  have t17 : ∀ n : Int, 0 < n → (∀ o : Nat, (o : Int) < (V 3 13).toInt → (V 26 o).toInt < n) → z14.toInt < n := t17
  have t18 : ∀ o : Nat, p1.toInt = (o : Int) → (o : Int) < (V 3 13).toInt → z14 = V 26 o := t18
  have il19 : b < 2 := by (first | exact om_f940a4667dd6 hb2 | omega)
  refine va_aldq (D := D) (i := z14) hx hb hK hP (64 + b) (57 + b) (xgcomps il19) (xtcomps il19) (i_in (a := z14.toInt) rfl (by (first | exact om_dbb25e99819b rgz14.1 rgz14.2 | omega))) dX5_joinLate_15 ?_
  have kc20 := i_clamp (x := z14) rfl (by (first | exact om_eafa9039069c rgz14.1 | omega))
  refine g_topv (v := .ref (ad (72 + (24 * b + (Int32.toNatClampNeg z14))))) (congrArg va_rf (if_pos (by omega))) ?_
  have il21 : (24 * b + (Int32.toNatClampNeg z14)) < 48 := by (first | exact om_31a61188bc78 hb2 rgz14.2 kc20 | omega)
  refine va_getN (D := D) (ci := 3) (v := .int (V 51 (24 * b + (Int32.toNatClampNeg z14)))) (fs := (xfComp ad V (24 * b + (Int32.toNatClampNeg z14)))) (C := RX3) (T := TX3) (N := 13) hx hb hg inX3 hown hK hP (72 + (24 * b + (Int32.toNatClampNeg z14))) (xgComp il21) rfl 6 (by decide) (hnw.use 522 n522 rfl) (fun _ h9 => h9) rfl dX5_joinLate_16 ?_
  have r22 : 0 ≤ ((V 51 (24 * b + (Int32.toNatClampNeg z14)))).toInt ∧ ((V 51 (24 * b + (Int32.toNatClampNeg z14)))).toInt ≤ 3 := hMV 51 (24 * b + (Int32.toNatClampNeg z14))
  refine lv_iconst (v := 3) hx hb dX5_joinLate_19 (by decide) ?_
  refine lv_icmp_ne (tgt := 27) hx hb dX5_joinLate_20 (by decide) (fun c23 => ?_) (fun c23 => ?_)
  · skip
    have f24 : ((V 51 (24 * b + (Int32.toNatClampNeg z14)))).toInt ≠ 3 := b_neq rfl (by decide) c23
    refine lv_iconst (v := 0) hx hb dX5_joinLate_27 (by decide) ?_
    refine lv_istore_n (lv' := [(3, .int 0), (0, .ref (ad 5)), (1, .ref (Z.fa gf)), (2, .int p1)]) hx hb dX5_joinLate_28 rfl hl (by decide) rfl (fun ls hl => ?_)
    refine lv_iload_n hx hb dX5_joinLate_29 rfl (lv_at hl 0 rfl) ?_
    refine lv_if_eq (tgt := 69) hx hb dX5_joinLate_30 (by decide) (fun _ => ?_) (fun q => absurd (by decide) q)
    have me25 : ME V V gf := ME.rf
    have af27 : (V 42 b).toInt ≤ (V 84 gf).toInt ∨ (bdp V b (V 84 gf).toInt.toNat).1 = true := by rw [me25.1.bd, me25.1 42 b (by decide) (by decide)]; exact ft
    have mo26 : MO V Z b gf True False True := MO.ch mo me25 rfl rfl (fun _ => Or.inl (by omega)) (fun x h => FK.k4 (by omega) (by omega) (by omega) af27 (by omega) (fun _ z => z.elim))
    refine W.know (fun kr1 kr2 => ?_)
    refine W.widen (k := zcc Z) (n := zss Z) (Nat.sub_le _ _) (Nat.sub_le _ _) ?_
    exact W.vret hx hb hr (fun t ht hW => ⟨⟨(V, L, Z), rfl, ⟨hMV, agV, rfl, zoZ, mo26⟩, ⟨by rw [ht]; exact hP, va_K.moved hW.alike hK, hD⟩, by rw [ht]; exact kr1, by rw [ht]; exact kr2⟩, hS.F ht⟩) hS.2.2 dX5_joinLate_69
  · skip
    have f28 : ((V 51 (24 * b + (Int32.toNatClampNeg z14)))).toInt = 3 := b_eq rfl (by decide) c23
    refine lv_iconst (v := 1) hx hb dX5_joinLate_23 (by decide) ?_
    refine lv_goto (tgt := 28) hx hb dX5_joinLate_24 (by decide) ?_
    refine lv_istore_n (lv' := [(3, .int 1), (0, .ref (ad 5)), (1, .ref (Z.fa gf)), (2, .int p1)]) hx hb dX5_joinLate_28 rfl hl (by decide) rfl (fun ls hl => ?_)
    refine lv_iload_n hx hb dX5_joinLate_29 rfl (lv_at hl 0 rfl) ?_
    refine lv_if_eq (tgt := 69) hx hb dX5_joinLate_30 (by decide) (fun q => absurd q (by decide)) (fun _ => ?_)
    refine lv_aload_n hx hb dX5_joinLate_33 rfl (lv_at hl 1 rfl) ?_
    refine va_get (D := D) (ci := 5) (v := .ref (ad 3)) (fs := (xfMachine ad V L Z)) (C := RX5) (T := TX5) (N := 15) hx hb hg inX5 hown hK hP 5 xgMachine rfl 0 (by decide) (hg _ w667) (fun _ h9 => h9) rfl dX5_joinLate_34 ?_
    refine lv_aload_n hx hb dX5_joinLate_37 rfl (lv_at hl 2 rfl) ?_
    refine va_getN (D := D) (ci := 4) (v := .int (V 70 gf)) (fs := (xfFrame V gf)) (C := RX4) (T := TX4) (N := 19) hx hb hg inX4 hown hK hP (336 + gf) (xgFrame hgf) rfl 3 (by decide) (hnw.use 1192 n1192 rfl) (fun _ h9 => h9) rfl dX5_joinLate_38 ?_
    refine lv_aload_n hx hb dX5_joinLate_41 rfl (lv_at hl 2 rfl) ?_
    refine va_getN (D := D) (ci := 4) (v := .int (V 75 gf)) (fs := (xfFrame V gf)) (C := RX4) (T := TX4) (N := 19) hx hb hg inX4 hown hK hP (336 + gf) (xgFrame hgf) rfl 8 (by decide) (hnw.use 1197 n1197 rfl) (fun _ h9 => h9) rfl dX5_joinLate_42 ?_
    refine lv_iconst (v := 0) hx hb dX5_joinLate_45 (by decide) ?_
    have r29 : Int32.toInt 0 = 0 := by decide
    refine gA_int (gA_runV (As := [.int (V 70 gf), .int (V 75 gf), .int 0]) (rest := []) (ci := 8) (q0 := 3) hx hb hml hown hg hP hD hK hS hA hnw hgk (x_joinedTo l D ks H.size ad kk V L Z (V 70 gf) (V 75 gf) 0 hMV mup.2.2.2.2.1) w1439 w1440 w1441 w164 w1442 rfl xgStock hdV_yX8_joinedTo ⟨Nat.le_of_ble_eq_true rfl, Nat.le_of_ble_eq_true rfl⟩ rfl hl.1 rfl (Nat.le_of_ble_eq_true rfl) dX5_joinLate_46 ⟨z0, z0⟩) hP hD hK hS hA (fun z30 u31 H locs w32 hP hD hK hS => ?_)
    refine lv_iconst (v := (-1)) hx hb dX5_joinLate_49 (by decide) ?_
    refine lv_icmp_ne (tgt := 69) hx hb dX5_joinLate_50 (by decide) (fun c33 => ?_) (fun c33 => ?_)
    · skip
      have f34 : z30.toInt ≠ (-1) := b_neq rfl (by decide) c33
      have me35 : ME V V gf := ME.rf
      have af37 : (V 42 b).toInt ≤ (V 84 gf).toInt ∨ (bdp V b (V 84 gf).toInt.toNat).1 = true := by rw [me35.1.bd, me35.1 42 b (by decide) (by decide)]; exact ft
      have mo36 : MO V Z b gf True False True := MO.ch mo me35 rfl rfl (fun _ => Or.inl (by omega)) (fun x h => FK.k4 (by omega) (by omega) (by omega) af37 (by omega) (fun _ z => z.elim))
      refine W.know (fun kr1 kr2 => ?_)
      refine W.widen (k := zcc Z) (n := zss Z) (Nat.sub_le _ _) (Nat.sub_le _ _) ?_
      exact W.vret hx hb hr (fun t ht hW => ⟨⟨(V, L, Z), rfl, ⟨hMV, agV, rfl, zoZ, mo36⟩, ⟨by rw [ht]; exact hP, va_K.moved hW.alike hK, hD⟩, by rw [ht]; exact kr1, by rw [ht]; exact kr2⟩, hS.F ht⟩) hS.2.2 dX5_joinLate_69
    · skip
      have f38 : z30.toInt = (-1) := b_eq rfl (by decide) c33
      have hnn : ¬ NN V b := fun q => by obtain ⟨o, a1, a2, a3⟩ := q; have e := t18 o (by omega) a2; rw [← e] at a3; omega
      refine lv_aload_n hx hb dX5_joinLate_53 rfl (lv_at hl 1 rfl) ?_
      refine va_get (D := D) (ci := 5) (v := .ref (ad 3)) (fs := (xfMachine ad V L Z)) (C := RX5) (T := TX5) (N := 15) hx hb hg inX5 hown hK hP 5 xgMachine rfl 0 (by decide) (hg _ w667) (fun _ h9 => h9) rfl dX5_joinLate_54 ?_
      refine lv_aload_n hx hb dX5_joinLate_57 rfl (lv_at hl 2 rfl) ?_
      refine va_getN (D := D) (ci := 4) (v := .int (V 70 gf)) (fs := (xfFrame V gf)) (C := RX4) (T := TX4) (N := 19) hx hb hg inX4 hown hK hP (336 + gf) (xgFrame hgf) rfl 3 (by decide) (hnw.use 1192 n1192 rfl) (fun _ h9 => h9) rfl dX5_joinLate_58 ?_
      refine lv_aload_n hx hb dX5_joinLate_61 rfl (lv_at hl 2 rfl) ?_
      refine va_getN (D := D) (ci := 4) (v := .int (V 75 gf)) (fs := (xfFrame V gf)) (C := RX4) (T := TX4) (N := 19) hx hb hg inX4 hown hK hP (336 + gf) (xgFrame hgf) rfl 8 (by decide) (hnw.use 1197 n1197 rfl) (fun _ h9 => h9) rfl dX5_joinLate_62 ?_
      refine lv_iload_n hx hb dX5_joinLate_65 rfl (lv_at hl 3 rfl) ?_
      have r39 : 0 ≤ ((V 3 15)).toInt ∧ ((V 3 15)).toInt ≤ 262144 := hMV 3 15
      refine W.know (fun k41 k42 => ?_)
      obtain ⟨Hk40, hHk40⟩ : ∃ z, z = H := ⟨_, rfl⟩
      have k41 : Hk40.size ≤ s.heap.size + (zcc Z - zcc Z) := by rw [hHk40]; exact k41
      have k42 : tot Hk40 ≤ tot s.heap + (zss Z - zss Z) := by rw [hHk40]; exact k42
      refine gZ_void (gA_runV (As := [.int (V 70 gf), .int (V 75 gf), .int p1]) (rest := []) (ci := 8) (q0 := 3) hx hb hml hown hg hP hD hK hS hA hnw hgk (x_join l D ks H.size ad kk V L Z (V 70 gf) (V 75 gf) p1 hMV (by omega) (by omega) mup.2.2.2.2.1 mup.2.2.2.2.2.2.2.2.2 (show (V 3 15).toInt ≤ 250000 from by omega) (show ((V 70 gf)).toInt < (V 3 13).toInt from by omega)) w1352 w1353 w1354 w164 w1355 rfl xgStock hdV_yX8_join ⟨Nat.le_of_ble_eq_true rfl, Nat.le_of_ble_eq_true rfl⟩ rfl hl.1 rfl (Nat.le_of_ble_eq_true rfl) dX5_joinLate_66 ⟨z1 zoZ.1, z1 zoZ.2.1⟩) hD hS hA (fun u44 H locs w45 hP hD hK hS y46 y47 => ?_)
      obtain ⟨V48, L49, Z50⟩ := u44
      obtain ⟨hMV48, ajV48, axL49, zlZ50, t52⟩ := w45
      have axL49 : L = L49 := Eq.symm axL49
      subst axL49
      have hP : va_P D vwCl (xw ad kk V48 L Z50) H := hP
      have hD : va_D A (xw ad kk V48 L Z50) := hD
      have hK : va_K D vwCl (xty kk Z50) s := hK
      have hMV48 : rgd bX V48 := hMV48
      have ajV48 : agr [(3, 15)] [30, 31, 32] V V48 := ajV48
      have agV48 : agr [(3, 15)] [30, 31, 32] V V48 := agV.tr ajV48 (by decide) (by decide)
      have zlZ50 : ZL Z Z50 := zlZ50
      have zoZ50 : ZL Z Z50 := ZL.tr zoZ zlZ50
      have ziZ50 := zlZ50.1
      have zjZ50 := zlZ50.2.1
      have zkZ50 := zlZ50.2.2.1
      have zmZ50 := zoZ50.1
      have znZ50 := zoZ50.2.1
      have zpZ_Z50 := zoZ.1
      have zqZ_Z50 := zoZ.2.1
      have y46 : H.size ≤ Hk40.size + (zcc Z - zcc Z50) := by rw [hHk40]; exact y46
      have y47 : tot H ≤ tot Hk40 + (zss Z - zss Z50) := by rw [hHk40]; exact y47
      refine W.tight (k := zcc Z - zcc Z50) (n := zss Z - zss Z50) (by first | exact tg9 y46 k41 zlZ50.1 zoZ.1 | omega) (by first | exact tg9 y47 k42 zlZ50.2.1 zoZ.2.1 | omega) ?_
      have hl : lv_has ls 4 [(3, .int 1), (0, .ref (ad 5)), (1, .ref (Z50.fa gf)), (2, .int p1)] := by rw [zlZ50.2.2.2.2 gf hgf]; exact hl
      have t52 : JN V V48 Z Z50 (8 * Int32.toNatClampNeg (V 70 gf) + Int32.toNatClampNeg (V 75 gf)) := t52
      have rp53 : MO V48 Z50 b gf True False True := MO.jl mo hnn (by (first | exact om_c88e7ce0b8a2 gk | omega)) (by (first | exact om_ba873a6da76b gph | omega)) t52
      refine W.know (fun kr1 kr2 => ?_)
      refine W.widen (k := zcc Z) (n := zss Z) (Nat.sub_le _ _) (Nat.sub_le _ _) ?_
      exact W.vret hx hb hr (fun t ht hW => ⟨⟨(V48, L, Z50), rfl, ⟨hMV48, agV48, rfl, zoZ50, rp53⟩, ⟨by rw [ht]; exact hP, va_K.moved hW.alike hK, hD⟩, by rw [ht]; exact kr1, by rw [ht]; exact kr2⟩, hS.F ht⟩) hS.2.2 dX5_joinLate_69
abbrev r_x_takesAnswer (Z : XZ) : Room := { frames := 4, cells := zcc Z, slots := zss Z, locals := 110 }
abbrev q_x_takesAnswer (D : va_G) (ks : KS) (ad : Nat → Nat) (kk : Nat → ClassId) (V : Vf) (L : Lf) (Z : XZ) (b : Nat) (gf : Nat) (A : Nat → Prop) : Array Value → State → Outcome → State → Prop := qZi D (fun (r : Int32) (u : Vf × Lf × XZ) => rgd bX u.1 ∧ agr [(3, 15), (5, 6), (5, 7), (5, 9)] [30, 31, 32, 39, 67, 68, 69, 70, 71, 72, 73, 74, 75, 76, 77, 78, 79, 80, 81, 82, 83, 84, 85] V u.1 ∧ u.2.1 = L ∧ ZL Z u.2.2 ∧ (0 ≤ r.toInt ∧ r.toInt ≤ 1) ∧ (Imp (r.toInt = 1) (MO u.1 u.2.2 b gf True True True)) ∧ (Imp (r.toInt = 0) (MJ u.1 u.2.2 b)) ∧ (Imp (r.toInt = 1) ((u.1 5 6).toInt = (V 5 6).toInt ∧ (u.1 67 gf).toInt = 4)) ∧ (Imp (r.toInt = 1) (u.2.2 = Z))) (fun u => xw ad kk u.1 u.2.1 u.2.2) (fun u => xty kk u.2.2) (fun u => zcc Z - zcc u.2.2) (fun u => zss Z - zss u.2.2) A
set_option maxHeartbeats 4000000 in
set_option maxRecDepth 100000 in
theorem x_takesAnswer (l : Launch) (D : va_G) (ks : KS) (sz : Nat) (ad : Nat → Nat) (kk : Nat → ClassId) (V : Vf) (L : Lf) (Z : XZ) (b : Nat) (gf : Nat) (hMV : rgd bX V) (hb2 : b < 2) (hgf : gf < Z.nf) (mo : MO V Z b gf True (¬ NN V b) True) (gd : (gf : Int) + 1 = (V 5 6).toInt) (gk : (V 67 gf).toInt = 4) (gph : (V 68 gf).toInt ≠ 0 ∧ (V 68 gf).toInt ≠ 6)  : Met l yX5_takesAnswer (Cond.code yX5_takesAnswer cX5_takesAnswer 3 (some .boolean) :: GW) (r_x_takesAnswer Z) (va_Pc [.ref (ad 5), .ref (Z.fa gf)] (gp D ks (xw ad kk V L Z) (xty kk Z) sz)) (q_x_takesAnswer D ks ad kk V L Z  b gf (va_A (xw ad kk V L Z) sz)) (zcc Z) (zss Z) (va_A (xw ad kk V L Z) sz) := by
  refine g_met (q_x_takesAnswer D ks ad kk V L Z  b gf) (by decide) (Nat.le_of_ble_eq_true rfl) ?_
  intro p e s m below meth c A ls H locs hx hb hr hml hown hg hlocks hin hnw hgk hP hK hD hS hA hl
  have hown : s.vm.findClass RX5 = some m.cls := hown
  have hl : lv_has ls 3 [(0, .ref (ad 5)), (1, .ref (Z.fa gf))] := hl
  have hP : va_P D vwCl (xw ad kk V L Z) H := hP
  have hD : va_D A (xw ad kk V L Z) := hD
  have hK : va_K D vwCl (xty kk Z) s := hK
  have agV : agr [(3, 15), (5, 6), (5, 7), (5, 9)] [30, 31, 32, 39, 67, 68, 69, 70, 71, 72, 73, 74, 75, 76, 77, 78, 79, 80, 81, 82, 83, 84, 85] V V := agr.rf
  have zoZ : ZL Z Z := ZL.rf
  refine W.know (fun ka kb => ?_)
  refine W.tight (k := zcc Z - zcc Z) (n := zss Z - zss Z) (by omega) (by omega) ?_
  have r1 : 0 ≤ ((V 5 6)).toInt ∧ ((V 5 6)).toInt ≤ 400 := hMV 5 6
  have kdp := i_clamp (x := V 5 6) rfl (by (first | exact om_c66f1b494bd9 gd | omega))
  have hdn : (gf : Int) + 1 ≤ (Z.nf : Int) := by (first | exact om_29efded833ec hgf | omega)
  have mup := MO.up mo
  have msz := mup.1
  have mbk := mup.2.2.2.1
  obtain ⟨xk, fk⟩ := MO.fk mo
  have r2 : (-1) ≤ ((V 71 gf)).toInt ∧ ((V 71 gf)).toInt ≤ 23 := hMV 71 gf
  have r3 : 0 ≤ ((V 75 gf)).toInt ∧ ((V 75 gf)).toInt ≤ 12 := hMV 75 gf
  have r4 : 0 ≤ ((V 80 gf)).toInt ∧ ((V 80 gf)).toInt ≤ 300 := hMV 80 gf
  have r5 : 0 ≤ ((V 84 gf)).toInt ∧ ((V 84 gf)).toInt ≤ 2147483647 := hMV 84 gf
  have r6 : 0 ≤ ((V 5 8)).toInt ∧ ((V 5 8)).toInt ≤ 300 := hMV 5 8
  have r7 : 0 ≤ ((V 5 9)).toInt ∧ ((V 5 9)).toInt ≤ 3 := hMV 5 9
  have r8 : 0 ≤ ((V 3 13)).toInt ∧ ((V 3 13)).toInt ≤ 300 := hMV 3 13
  have r9 : 0 ≤ ((V 43 (5 * b + 2))).toInt ∧ ((V 43 (5 * b + 2))).toInt ≤ ((xcap (5 * b + 2) : Nat) : Int) := hMV 43 (5 * b + 2)
  have r10 : xcap (5 * b + 2) = 24 := xcap_2
  have r11 : 0 ≤ ((V 41 b)).toInt ∧ ((V 41 b)).toInt ≤ 12 := hMV 41 b
  have r12 : 0 ≤ ((V 42 b)).toInt ∧ ((V 42 b)).toInt ≤ 8200 := hMV 42 b
  have fc := fk.1 (by omega)
  have fo := fk.2.1 (by omega) (by omega)
  have ft := fk.2.2.1 (by omega)
  have fq := fk.2.2.2.1 (by omega)
  refine lv_aload_n hx hb dX5_takesAnswer_0 rfl (lv_at hl 1 rfl) ?_
  refine va_getN (D := D) (ci := 4) (v := .int (V 68 gf)) (fs := (xfFrame V gf)) (C := RX4) (T := TX4) (N := 19) hx hb hg inX4 hown hK hP (336 + gf) (xgFrame hgf) rfl 1 (by decide) (hnw.use 1190 n1190 rfl) (fun _ h9 => h9) rfl dX5_takesAnswer_1 ?_
  refine lv_iconst (v := 1) hx hb dX5_takesAnswer_4 (by decide) ?_
  refine lv_icmp_ne (tgt := 18) hx hb dX5_takesAnswer_5 (by decide) (fun c13 => ?_) (fun c13 => ?_)
  · skip
    have f14 : ((V 68 gf)).toInt ≠ 1 := b_neq rfl (by decide) c13
    refine lv_aload_n hx hb dX5_takesAnswer_18 rfl (lv_at hl 1 rfl) ?_
    refine va_getN (D := D) (ci := 4) (v := .int (V 68 gf)) (fs := (xfFrame V gf)) (C := RX4) (T := TX4) (N := 19) hx hb hg inX4 hown hK hP (336 + gf) (xgFrame hgf) rfl 1 (by decide) (hnw.use 1190 n1190 rfl) (fun _ h9 => h9) rfl dX5_takesAnswer_19 ?_
    refine lv_bipush (v := 7) hx hb dX5_takesAnswer_22 (by decide) ?_
    refine lv_icmp_ne (tgt := 69) hx hb dX5_takesAnswer_24 (by decide) (fun c15 => ?_) (fun c15 => ?_)
    · skip
      have f16 : ((V 68 gf)).toInt ≠ 7 := b_neq rfl (by decide) c15
      refine lv_aload_n hx hb dX5_takesAnswer_69 rfl (lv_at hl 1 rfl) ?_
      refine lv_dup hx hb dX5_takesAnswer_70 rfl ?_
      refine va_getN (D := D) (ci := 4) (v := .int (V 79 gf)) (fs := (xfFrame V gf)) (C := RX4) (T := TX4) (N := 19) hx hb hg inX4 hown hK hP (336 + gf) (xgFrame hgf) rfl 12 (by decide) (hnw.use 1201 n1201 rfl) (fun _ h9 => h9) rfl dX5_takesAnswer_71 ?_
      refine lv_aload_n hx hb dX5_takesAnswer_74 rfl (lv_at hl 0 rfl) ?_
      refine va_get (D := D) (ci := 5) (v := .int (V 5 10)) (fs := (xfMachine ad V L Z)) (C := RX5) (T := TX5) (N := 15) hx hb hg inX5 hown hK hP 5 xgMachine rfl 10 (by decide) (hg _ w677) (fun _ h9 => h9) rfl dX5_takesAnswer_75 ?_
      refine lv_iadd hx hb dX5_takesAnswer_78 ?_
      have r17 := i_full (V 79 gf)
      have r18 := i_full (V 5 10)
      refine lv_topi (fun z19 ez19 => ?_)
      have hz19 : Imp (-2147483648 ≤ ((V 79 gf)).toInt + ((V 5 10)).toInt ∧ ((V 79 gf)).toInt + ((V 5 10)).toInt ≤ 2147483647) (z19.toInt = ((V 79 gf)).toInt + ((V 5 10)).toInt) := Imp.mk (fun hp => i_add ez19 rfl rfl hp)
      refine va_putN (D := D) (ci := 4) (v := .int z19) (ty := tyX4 12) (fs := (xfFrame V gf)) (C := RX4) (T := TX4) (N := 19) hx hb hg inX4 tyX4 tyX4_ok nmX4 hown hK hP hD hS (336 + gf) (xgFrame hgf) rfl 12 (by decide) (hnw.use 1201 n1201 rfl) (fun _ h9 => h9) rfl (tyX4_ok 12 (by decide)) rfl rfl (Nat.le_of_ble_eq_true rfl) dX5_takesAnswer_79 (fun H locs hP hD hS => ?_)
      obtain ⟨V20, hV20⟩ : ∃ z, z = up2 V 79 gf z19 := ⟨_, rfl⟩
      have ew21 : (xw ad kk V L Z).set (336 + gf) ((Z.fa gf), .inr (4, (xfFrame V gf).set 12 (.int z19))) = xw ad kk V20 L Z := by rw [hV20]; exact xpFrame_sum hgf
      have hP : va_P D vwCl (xw ad kk V20 L Z) H := by rw [← ew21]; exact hP
      have hD : va_D A (xw ad kk V20 L Z) := by rw [← ew21]; exact hD
      have hMV20 : rgd bX V20 := hMV.put hV20 (i_full _)
      have agV20 : agr [(3, 15), (5, 6), (5, 7), (5, 9)] [30, 31, 32, 39, 67, 68, 69, 70, 71, 72, 73, 74, 75, 76, 77, 78, 79, 80, 81, 82, 83, 84, 85] V V20 := agV.up hV20 rfl
      refine lv_aload_n hx hb dX5_takesAnswer_82 rfl (lv_at hl 0 rfl) ?_
      refine va_get (D := D) (ci := 5) (v := .ref (ad 3)) (fs := (xfMachine ad V20 L Z)) (C := RX5) (T := TX5) (N := 15) hx hb hg inX5 hown hK hP 5 xgMachine rfl 0 (by decide) (hg _ w667) (fun _ h9 => h9) rfl dX5_takesAnswer_83 ?_
      refine lv_aload_n hx hb dX5_takesAnswer_86 rfl (lv_at hl 1 rfl) ?_
      refine va_getN (D := D) (ci := 4) (v := .int (V20 70 gf)) (fs := (xfFrame V20 gf)) (C := RX4) (T := TX4) (N := 19) hx hb hg inX4 hown hK hP (336 + gf) (xgFrame hgf) rfl 3 (by decide) (hnw.use 1192 n1192 rfl) (fun _ h9 => h9) rfl dX5_takesAnswer_87 ?_
      refine g_top (v := (V 70 gf)) (up2_o hV20 (by decide)) ?_
      refine lv_aload_n hx hb dX5_takesAnswer_90 rfl (lv_at hl 1 rfl) ?_
      refine va_getN (D := D) (ci := 4) (v := .int (V20 75 gf)) (fs := (xfFrame V20 gf)) (C := RX4) (T := TX4) (N := 19) hx hb hg inX4 hown hK hP (336 + gf) (xgFrame hgf) rfl 8 (by decide) (hnw.use 1197 n1197 rfl) (fun _ h9 => h9) rfl dX5_takesAnswer_91 ?_
      refine g_top (v := (V 75 gf)) (up2_o hV20 (by decide)) ?_
      refine lv_aload_n hx hb dX5_takesAnswer_94 rfl (lv_at hl 1 rfl) ?_
      refine va_getN (D := D) (ci := 4) (v := .int (V20 76 gf)) (fs := (xfFrame V20 gf)) (C := RX4) (T := TX4) (N := 19) hx hb hg inX4 hown hK hP (336 + gf) (xgFrame hgf) rfl 9 (by decide) (hnw.use 1198 n1198 rfl) (fun _ h9 => h9) rfl dX5_takesAnswer_95 ?_
      refine g_top (v := (V 76 gf)) (up2_o hV20 (by decide)) ?_
      have me22 : ME V V20 0 := (ME.up ME.rf hV20 (Or.inl ⟨by decide, by decide, by first | omega | ((try (have i_hz19 := Imp.go hz19 (by omega))); omega)⟩))
      have sl23 : SL V20 Z := by unfold SL; rw [me22.2.2.1.2.1, me22.2.2.1.1]; exact ⟨mup.2.2.2.2.1.1, mup.2.2.2.2.1.2.1, fun o k a1 a2 => by rw [me22.2.2.2.2.1]; exact mup.2.2.2.2.1.2.2.1 o k a1 a2, fun i a1 => by rw [me22.2.2.2.2.2.1]; exact mup.2.2.2.2.1.2.2.2 i a1⟩
      refine gA_int (gA_runV (As := [.int (V 70 gf), .int (V 75 gf), .int (V 76 gf)]) (rest := []) (ci := 8) (q0 := 3) hx hb hml hown hg hP hD hK hS hA hnw hgk (x_joinedTo l D ks H.size ad kk V20 L Z (V 70 gf) (V 75 gf) (V 76 gf) hMV20 sl23) w1439 w1440 w1441 w164 w1442 rfl xgStock hdV_yX8_joinedTo ⟨Nat.le_of_ble_eq_true rfl, Nat.le_of_ble_eq_true rfl⟩ rfl hl.1 rfl (Nat.le_of_ble_eq_true rfl) dX5_takesAnswer_98 ⟨z0, z0⟩) hP hD hK hS hA (fun z24 u25 H locs w26 hP hD hK hS => ?_)
      refine lv_istore_n (lv' := [(2, .int z24), (0, .ref (ad 5)), (1, .ref (Z.fa gf))]) hx hb dX5_takesAnswer_101 rfl hl (by decide) rfl (fun ls hl => ?_)
      refine lv_iload_n hx hb dX5_takesAnswer_102 rfl (lv_at hl 0 rfl) ?_
      refine lv_iconst (v := (-1)) hx hb dX5_takesAnswer_103 (by decide) ?_
      refine lv_icmp_ne (tgt := 117) hx hb dX5_takesAnswer_104 (by decide) (fun c27 => ?_) (fun c27 => ?_)
      · skip
        have f28 : z24.toInt ≠ (-1) := b_neq rfl (by decide) c27
        refine lv_aload_n hx hb dX5_takesAnswer_117 rfl (lv_at hl 2 rfl) ?_
        refine lv_dup hx hb dX5_takesAnswer_118 rfl ?_
        refine va_getN (D := D) (ci := 4) (v := .int (V20 76 gf)) (fs := (xfFrame V20 gf)) (C := RX4) (T := TX4) (N := 19) hx hb hg inX4 hown hK hP (336 + gf) (xgFrame hgf) rfl 9 (by decide) (hnw.use 1198 n1198 rfl) (fun _ h9 => h9) rfl dX5_takesAnswer_119 ?_
        refine g_top (v := (V 76 gf)) (up2_o hV20 (by decide)) ?_
        refine lv_iconst (v := 1) hx hb dX5_takesAnswer_122 (by decide) ?_
        refine lv_iadd hx hb dX5_takesAnswer_123 ?_
        have r29 := i_full (V 76 gf)
        refine lv_topi (fun z30 ez30 => ?_)
        have hz30 : Imp (-2147483648 ≤ ((V 76 gf)).toInt + 1 ∧ ((V 76 gf)).toInt + 1 ≤ 2147483647) (z30.toInt = ((V 76 gf)).toInt + 1) := Imp.mk (fun hp => i_add ez30 rfl (by decide) hp)
        refine va_putN (D := D) (ci := 4) (v := .int z30) (ty := tyX4 9) (fs := (xfFrame V20 gf)) (C := RX4) (T := TX4) (N := 19) hx hb hg inX4 tyX4 tyX4_ok nmX4 hown hK hP hD hS (336 + gf) (xgFrame hgf) rfl 9 (by decide) (hnw.use 1198 n1198 rfl) (fun _ h9 => h9) rfl (tyX4_ok 9 (by decide)) rfl rfl (Nat.le_of_ble_eq_true rfl) dX5_takesAnswer_124 (fun H locs hP hD hS => ?_)
        obtain ⟨V31, hV31⟩ : ∃ z, z = up2 V20 76 gf z30 := ⟨_, rfl⟩
        have ew32 : (xw ad kk V20 L Z).set (336 + gf) ((Z.fa gf), .inr (4, (xfFrame V20 gf).set 9 (.int z30))) = xw ad kk V31 L Z := by rw [hV31]; exact xpFrame_item hgf
        have hP : va_P D vwCl (xw ad kk V31 L Z) H := by rw [← ew32]; exact hP
        have hD : va_D A (xw ad kk V31 L Z) := by rw [← ew32]; exact hD
        have hMV31 : rgd bX V31 := hMV20.put hV31 (i_full _)
        have agV31 : agr [(3, 15), (5, 6), (5, 7), (5, 9)] [30, 31, 32, 39, 67, 68, 69, 70, 71, 72, 73, 74, 75, 76, 77, 78, 79, 80, 81, 82, 83, 84, 85] V V31 := agV20.up hV31 rfl
        refine lv_aload_n hx hb dX5_takesAnswer_127 rfl (lv_at hl 1 rfl) ?_
        refine lv_iload_n hx hb dX5_takesAnswer_128 rfl (lv_at hl 0 rfl) ?_
        refine lv_aload_n hx hb dX5_takesAnswer_129 rfl (lv_at hl 2 rfl) ?_
        refine va_getN (D := D) (ci := 4) (v := .int (V31 72 gf)) (fs := (xfFrame V31 gf)) (C := RX4) (T := TX4) (N := 19) hx hb hg inX4 hown hK hP (336 + gf) (xgFrame hgf) rfl 5 (by decide) (hnw.use 1194 n1194 rfl) (fun _ h9 => h9) rfl dX5_takesAnswer_130 ?_
        refine g_top (v := (V 72 gf)) ((up2_o hV31 (by decide)).trans (up2_o hV20 (by decide))) ?_
        have r33 : 0 ≤ ((V 72 gf)).toInt ∧ ((V 72 gf)).toInt ≤ 39 := hMV 72 gf
        refine lv_aload_n hx hb dX5_takesAnswer_133 rfl (lv_at hl 2 rfl) ?_
        refine va_getN (D := D) (ci := 4) (v := .int (V31 77 gf)) (fs := (xfFrame V31 gf)) (C := RX4) (T := TX4) (N := 19) hx hb hg inX4 hown hK hP (336 + gf) (xgFrame hgf) rfl 10 (by decide) (hnw.use 1199 n1199 rfl) (fun _ h9 => h9) rfl dX5_takesAnswer_134 ?_
        refine g_top (v := (V 77 gf)) ((up2_o hV31 (by decide)).trans (up2_o hV20 (by decide))) ?_
        have r34 : 0 ≤ ((V 77 gf)).toInt ∧ ((V 77 gf)).toInt ≤ 19 := hMV 77 gf
        refine lv_aload_n hx hb dX5_takesAnswer_137 rfl (lv_at hl 2 rfl) ?_
        refine va_getN (D := D) (ci := 4) (v := .int (V31 78 gf)) (fs := (xfFrame V31 gf)) (C := RX4) (T := TX4) (N := 19) hx hb hg inX4 hown hK hP (336 + gf) (xgFrame hgf) rfl 11 (by decide) (hnw.use 1200 n1200 rfl) (fun _ h9 => h9) rfl dX5_takesAnswer_138 ?_
        refine g_top (v := (V 78 gf)) ((up2_o hV31 (by decide)).trans (up2_o hV20 (by decide))) ?_
        refine lv_aload_n hx hb dX5_takesAnswer_141 rfl (lv_at hl 2 rfl) ?_
        refine va_getN (D := D) (ci := 4) (v := .int (V31 69 gf)) (fs := (xfFrame V31 gf)) (C := RX4) (T := TX4) (N := 19) hx hb hg inX4 hown hK hP (336 + gf) (xgFrame hgf) rfl 2 (by decide) (hnw.use 1191 n1191 rfl) (fun _ h9 => h9) rfl dX5_takesAnswer_142 ?_
        refine g_top (v := (V 69 gf)) ((up2_o hV31 (by decide)).trans (up2_o hV20 (by decide))) ?_
        refine lv_iconst (v := 1) hx hb dX5_takesAnswer_145 (by decide) ?_
        refine lv_iadd hx hb dX5_takesAnswer_146 ?_
        have r35 := i_full (V 69 gf)
        refine lv_topi (fun z36 ez36 => ?_)
        have hz36 : Imp (-2147483648 ≤ ((V 69 gf)).toInt + 1 ∧ ((V 69 gf)).toInt + 1 ≤ 2147483647) (z36.toInt = ((V 69 gf)).toInt + 1) := Imp.mk (fun hp => i_add ez36 rfl (by decide) hp)
        have me37 : ME V V31 gf := (ME.up (ME.up ME.rf hV20 (Or.inl ⟨by decide, by decide, Nat.le_refl _⟩)) hV31 (Or.inl ⟨by decide, by decide, Nat.le_refl _⟩))
        have pq38 : (V31 67 gf).toInt = ((V 67 gf)).toInt := congrArg Int32.toInt ((up2_o hV31 (by decide)).trans (up2_o hV20 (by decide)))
        have pq39 : (V31 68 gf).toInt = ((V 68 gf)).toInt := congrArg Int32.toInt ((up2_o hV31 (by decide)).trans (up2_o hV20 (by decide)))
        have pq40 : (V31 70 gf).toInt = ((V 70 gf)).toInt := congrArg Int32.toInt ((up2_o hV31 (by decide)).trans (up2_o hV20 (by decide)))
        have pq41 : (V31 71 gf).toInt = ((V 71 gf)).toInt := congrArg Int32.toInt ((up2_o hV31 (by decide)).trans (up2_o hV20 (by decide)))
        have pq42 : (V31 75 gf).toInt = ((V 75 gf)).toInt := congrArg Int32.toInt ((up2_o hV31 (by decide)).trans (up2_o hV20 (by decide)))
        have pq43 : (V31 76 gf).toInt = z30.toInt := congrArg Int32.toInt (up2_s hV31)
        have pq44 : (V31 80 gf).toInt = ((V 80 gf)).toInt := congrArg Int32.toInt ((up2_o hV31 (by decide)).trans (up2_o hV20 (by decide)))
        have pq45 : (V31 84 gf).toInt = ((V 84 gf)).toInt := congrArg Int32.toInt ((up2_o hV31 (by decide)).trans (up2_o hV20 (by decide)))
        have pq46 : (V31 5 6).toInt = ((V 5 6)).toInt := congrArg Int32.toInt ((up2_o hV31 (by decide)).trans (up2_o hV20 (by decide)))
        have pq47 : (V31 5 8).toInt = ((V 5 8)).toInt := congrArg Int32.toInt ((up2_o hV31 (by decide)).trans (up2_o hV20 (by decide)))
        have pq48 : (V31 5 9).toInt = ((V 5 9)).toInt := congrArg Int32.toInt ((up2_o hV31 (by decide)).trans (up2_o hV20 (by decide)))
        have pq49 : (V31 3 13).toInt = ((V 3 13)).toInt := congrArg Int32.toInt ((up2_o hV31 (by decide)).trans (up2_o hV20 (by decide)))
        have pq50 : (V31 43 (5 * b + 2)).toInt = ((V 43 (5 * b + 2))).toInt := congrArg Int32.toInt ((up2_o hV31 (by decide)).trans (up2_o hV20 (by decide)))
        have pq51 : (V31 42 b).toInt = ((V 42 b)).toInt := congrArg Int32.toInt ((up2_o hV31 (by decide)).trans (up2_o hV20 (by decide)))
        have pq52 : (V31 41 b).toInt = ((V 41 b)).toInt := congrArg Int32.toInt ((up2_o hV31 (by decide)).trans (up2_o hV20 (by decide)))
        have ep55 : V31 84 gf = (V 84 gf) := ((up2_o hV31 (by decide)).trans (up2_o hV20 (by decide)))
        have af54 : (V31 42 b).toInt ≤ (V31 84 gf).toInt ∨ (bdp V31 b (V31 84 gf).toInt.toNat).1 = true := by rw [ep55, me37.1.bd, me37.1 42 b (by decide) (by decide)]; exact ft
        have mo53 : MO V31 Z b gf True True True := MO.ch mo me37 ((up2_o hV31 (by decide)).trans (up2_o hV20 (by decide))) ((up2_o hV31 (by decide)).trans (up2_o hV20 (by decide))) (fun _ => Or.inl (by omega)) (fun x h => FK.k4 (by first | omega | ((try (have i_hz36 := Imp.go hz36 (by omega))); (try (have i_hz30 := Imp.go hz30 (by omega))); (try (have i_hz19 := Imp.go hz19 (by omega))); (try (have i_hz19 := Imp.go hz19 (by omega))); (try (have i_hz30 := Imp.go hz30 (by omega))); (try (have i_hz36 := Imp.go hz36 (by omega))); omega)) (by first | omega | ((try (have i_hz36 := Imp.go hz36 (by omega))); (try (have i_hz30 := Imp.go hz30 (by omega))); (try (have i_hz19 := Imp.go hz19 (by omega))); (try (have i_hz19 := Imp.go hz19 (by omega))); (try (have i_hz30 := Imp.go hz30 (by omega))); (try (have i_hz36 := Imp.go hz36 (by omega))); omega)) (by first | omega | ((try (have i_hz36 := Imp.go hz36 (by omega))); (try (have i_hz30 := Imp.go hz30 (by omega))); (try (have i_hz19 := Imp.go hz19 (by omega))); (try (have i_hz19 := Imp.go hz19 (by omega))); (try (have i_hz30 := Imp.go hz30 (by omega))); (try (have i_hz36 := Imp.go hz36 (by omega))); omega)) af54 (by first | omega | ((try (have i_hz36 := Imp.go hz36 (by omega))); (try (have i_hz30 := Imp.go hz30 (by omega))); (try (have i_hz19 := Imp.go hz19 (by omega))); (try (have i_hz19 := Imp.go hz19 (by omega))); (try (have i_hz30 := Imp.go hz30 (by omega))); (try (have i_hz36 := Imp.go hz36 (by omega))); omega)) (fun hph => absurd hph (by omega)))
        have mt56 : MT V31 Z b := MO.mt mo53 (by (first | exact om_c09d41618ed8 hgf | omega)) (by (first | exact om_82fa09255765 gd pq46 | omega))
        refine W.know (fun k58 k59 => ?_)
        obtain ⟨Hk57, hHk57⟩ : ∃ z, z = H := ⟨_, rfl⟩
        have k58 : Hk57.size ≤ s.heap.size + (zcc Z - zcc Z) := by rw [hHk57]; exact k58
        have k59 : tot Hk57 ≤ tot s.heap + (zss Z - zss Z) := by rw [hHk57]; exact k59
        refine gZ_void (gA_runV (As := [.int z24, .int (V 72 gf), .int (V 77 gf), .int (V 78 gf), .int z36]) (rest := []) (ci := 5) (q0 := 5) hx hb hml hown hg hP hD hK hS hA hnw hgk (x_pushCall l D ks H.size ad kk V31 L Z z24 (V 72 gf) (V 77 gf) (V 78 gf) z36 (b) hMV31 (by first | exact om_13ba01c174fe r33.1 r33.2 | first | omega | ((try (have i_hz36 := Imp.go hz36 (by omega))); (try (have i_hz30 := Imp.go hz30 (by omega))); (try (have i_hz19 := Imp.go hz19 (by omega))); (try (have i_hz19 := Imp.go hz19 (by omega))); (try (have i_hz30 := Imp.go hz30 (by omega))); (try (have i_hz36 := Imp.go hz36 (by omega))); omega)) (by first | exact om_0916ac166aa8 r34.1 r34.2 | first | omega | ((try (have i_hz36 := Imp.go hz36 (by omega))); (try (have i_hz30 := Imp.go hz30 (by omega))); (try (have i_hz19 := Imp.go hz19 (by omega))); (try (have i_hz19 := Imp.go hz19 (by omega))); (try (have i_hz30 := Imp.go hz30 (by omega))); (try (have i_hz36 := Imp.go hz36 (by omega))); omega)) (show b < 2 from by first | exact om_f940a4667dd6 hb2 | first | omega | ((try (have i_hz36 := Imp.go hz36 (by omega))); (try (have i_hz30 := Imp.go hz30 (by omega))); (try (have i_hz19 := Imp.go hz19 (by omega))); (try (have i_hz19 := Imp.go hz19 (by omega))); (try (have i_hz30 := Imp.go hz30 (by omega))); (try (have i_hz36 := Imp.go hz36 (by omega))); omega)) mt56) w1454 w1455 w1456 w171 w1457 rfl xgMachine hdV_yX5_pushCall ⟨Nat.le_of_ble_eq_true rfl, Nat.le_of_ble_eq_true rfl⟩ rfl hl.1 rfl (Nat.le_of_ble_eq_true rfl) dX5_takesAnswer_147 ⟨z1 zoZ.1, z1 zoZ.2.1⟩) hD hS hA (fun u61 H locs w62 hP hD hK hS y63 y64 => ?_)
        obtain ⟨V65, L66, Z67⟩ := u61
        obtain ⟨hMV65, ajV65, axL66, zlZ67, t69⟩ := w62
        have axL66 : L = L66 := Eq.symm axL66
        subst axL66
        have hP : va_P D vwCl (xw ad kk V65 L Z67) H := hP
        have hD : va_D A (xw ad kk V65 L Z67) := hD
        have hK : va_K D vwCl (xty kk Z67) s := hK
        have hMV65 : rgd bX V65 := hMV65
        have ajV65 : agr [(5, 6), (5, 9)] [67, 68, 69, 70, 71, 72, 73, 74, 75, 76, 77, 78, 79, 80, 81, 82, 83, 84, 85] V31 V65 := ajV65
        have agV65 : agr [(3, 15), (5, 6), (5, 7), (5, 9)] [30, 31, 32, 39, 67, 68, 69, 70, 71, 72, 73, 74, 75, 76, 77, 78, 79, 80, 81, 82, 83, 84, 85] V V65 := agV31.tr ajV65 (by decide) (by decide)
        have zlZ67 : ZL Z Z67 := zlZ67
        have zoZ67 : ZL Z Z67 := ZL.tr zoZ zlZ67
        have ziZ67 := zlZ67.1
        have zjZ67 := zlZ67.2.1
        have zkZ67 := zlZ67.2.2.1
        have zmZ67 := zoZ67.1
        have znZ67 := zoZ67.2.1
        have zpZ_Z67 := zoZ.1
        have zqZ_Z67 := zoZ.2.1
        have y63 : H.size ≤ Hk57.size + (zcc Z - zcc Z67) := by rw [hHk57]; exact y63
        have y64 : tot H ≤ tot Hk57 + (zss Z - zss Z67) := by rw [hHk57]; exact y64
        refine W.tight (k := zcc Z - zcc Z67) (n := zss Z - zss Z67) (by first | exact tg9 y63 k58 zlZ67.1 zoZ.1 | omega) (by first | exact tg9 y64 k59 zlZ67.2.1 zoZ.2.1 | omega) ?_
        have hl : lv_has ls 3 [(2, .int z24), (0, .ref (ad 5)), (1, .ref (Z67.fa gf))] := by rw [zlZ67.2.2.2.2 gf hgf]; exact hl
        have t69 : MJ V65 Z67 b := t69
        refine lv_iconst (v := 0) hx hb dX5_takesAnswer_150 (by decide) ?_
        have r70 : 0 ≤ ((V65 5 6)).toInt ∧ ((V65 5 6)).toInt ≤ 400 := hMV65 5 6
        refine W.know (fun kr1 kr2 => ?_)
        refine W.widen (k := zcc Z) (n := zss Z) (Nat.sub_le _ _) (Nat.sub_le _ _) ?_
        exact W.zret (v := 0) hx hb hr rfl (fun t ht hW => ⟨⟨0, (V65, L, Z67), rfl, ⟨hMV65, agV65, rfl, zoZ67, (by decide), (Imp.mk (fun hp => absurd hp (by decide))), (Imp.mk (fun _ => t69)), (Imp.mk (fun hp => absurd hp (by decide))), (Imp.mk (fun hp => absurd hp (by decide)))⟩, ⟨by rw [ht]; exact hP, va_K.moved hW.alike hK, hD⟩, by rw [ht]; exact kr1, by rw [ht]; exact kr2⟩, hS.F ht⟩) hS.2.2 dX5_takesAnswer_151
      · skip
        have f71 : z24.toInt = (-1) := b_eq rfl (by decide) c27
        refine lv_aload_n hx hb dX5_takesAnswer_107 rfl (lv_at hl 1 rfl) ?_
        refine lv_aload_n hx hb dX5_takesAnswer_108 rfl (lv_at hl 2 rfl) ?_
        refine va_getN (D := D) (ci := 4) (v := .int (V20 79 gf)) (fs := (xfFrame V20 gf)) (C := RX4) (T := TX4) (N := 19) hx hb hg inX4 hown hK hP (336 + gf) (xgFrame hgf) rfl 12 (by decide) (hnw.use 1201 n1201 rfl) (fun _ h9 => h9) rfl dX5_takesAnswer_109 ?_
        refine g_top (v := z19) (up2_s hV20) ?_
        refine gA_void (gA_runV (As := [.int z19]) (rest := []) (ci := 5) (q0 := 5) hx hb hml hown hg hP hD hK hS hA hnw hgk (x_mput l D ks H.size ad kk V20 L Z z19 hMV20 ) w1466 w1468 w72 w171 w1469 rfl xgMachine hdV_yX5_put ⟨Nat.le_of_ble_eq_true rfl, Nat.le_of_ble_eq_true rfl⟩ rfl hl.1 rfl (Nat.le_of_ble_eq_true rfl) dX5_takesAnswer_112 ⟨z0, z0⟩) hP hD hK hS hA (fun u73 H locs w74 hP hD hK hS => ?_)
        obtain ⟨V75, L76⟩ := u73
        obtain ⟨hMV75, ajV75, axL76⟩ := w74
        have axL76 : L = L76 := Eq.symm axL76
        subst axL76
        have hP : va_P D vwCl (xw ad kk V75 L Z) H := hP
        have hD : va_D A (xw ad kk V75 L Z) := hD
        have hMV75 : rgd bX V75 := hMV75
        have ajV75 : agr [(5, 7)] [39] V20 V75 := ajV75
        have agV75 : agr [(3, 15), (5, 6), (5, 7), (5, 9)] [30, 31, 32, 39, 67, 68, 69, 70, 71, 72, 73, 74, 75, 76, 77, 78, 79, 80, 81, 82, 83, 84, 85] V V75 := agV20.tr ajV75 (by decide) (by decide)
        refine lv_iconst (v := 1) hx hb dX5_takesAnswer_115 (by decide) ?_
        have pq77 : (V75 5 6).toInt = ((V 5 6)).toInt := congrArg Int32.toInt ((ajV75 5 6 rfl).trans (up2_o hV20 (by decide)))
        have pq78 : (V75 67 gf).toInt = ((V 67 gf)).toInt := congrArg Int32.toInt ((ajV75 67 gf rfl).trans (up2_o hV20 (by decide)))
        have me79 : ME V V75 gf := (ME.tr (ME.up ME.rf hV20 (Or.inl ⟨by decide, by decide, Nat.le_refl _⟩)) (ME.ag ajV75 (by decide)))
        have pq80 : (V75 68 gf).toInt = ((V 68 gf)).toInt := congrArg Int32.toInt ((ajV75 68 gf rfl).trans (up2_o hV20 (by decide)))
        have pq81 : (V75 70 gf).toInt = ((V 70 gf)).toInt := congrArg Int32.toInt ((ajV75 70 gf rfl).trans (up2_o hV20 (by decide)))
        have pq82 : (V75 71 gf).toInt = ((V 71 gf)).toInt := congrArg Int32.toInt ((ajV75 71 gf rfl).trans (up2_o hV20 (by decide)))
        have pq83 : (V75 75 gf).toInt = ((V 75 gf)).toInt := congrArg Int32.toInt ((ajV75 75 gf rfl).trans (up2_o hV20 (by decide)))
        have pq84 : (V75 76 gf).toInt = ((V 76 gf)).toInt := congrArg Int32.toInt ((ajV75 76 gf rfl).trans (up2_o hV20 (by decide)))
        have pq85 : (V75 80 gf).toInt = ((V 80 gf)).toInt := congrArg Int32.toInt ((ajV75 80 gf rfl).trans (up2_o hV20 (by decide)))
        have pq86 : (V75 84 gf).toInt = ((V 84 gf)).toInt := congrArg Int32.toInt ((ajV75 84 gf rfl).trans (up2_o hV20 (by decide)))
        have pq87 : (V75 5 8).toInt = ((V 5 8)).toInt := congrArg Int32.toInt ((ajV75 5 8 rfl).trans (up2_o hV20 (by decide)))
        have pq88 : (V75 5 9).toInt = ((V 5 9)).toInt := congrArg Int32.toInt ((ajV75 5 9 rfl).trans (up2_o hV20 (by decide)))
        have pq89 : (V75 3 13).toInt = ((V 3 13)).toInt := congrArg Int32.toInt ((ajV75 3 13 rfl).trans (up2_o hV20 (by decide)))
        have pq90 : (V75 43 (5 * b + 2)).toInt = ((V 43 (5 * b + 2))).toInt := congrArg Int32.toInt ((ajV75 43 (5 * b + 2) rfl).trans (up2_o hV20 (by decide)))
        have pq91 : (V75 42 b).toInt = ((V 42 b)).toInt := congrArg Int32.toInt ((ajV75 42 b rfl).trans (up2_o hV20 (by decide)))
        have pq92 : (V75 41 b).toInt = ((V 41 b)).toInt := congrArg Int32.toInt ((ajV75 41 b rfl).trans (up2_o hV20 (by decide)))
        have ep95 : V75 84 gf = (V 84 gf) := ((ajV75 84 gf rfl).trans (up2_o hV20 (by decide)))
        have af94 : (V75 42 b).toInt ≤ (V75 84 gf).toInt ∨ (bdp V75 b (V75 84 gf).toInt.toNat).1 = true := by rw [ep95, me79.1.bd, me79.1 42 b (by decide) (by decide)]; exact ft
        have mo93 : MO V75 Z b gf True True True := MO.ch mo me79 ((ajV75 67 gf rfl).trans (up2_o hV20 (by decide))) ((ajV75 80 gf rfl).trans (up2_o hV20 (by decide))) (fun _ => Or.inl (by omega)) (fun x h => FK.k4 (by first | omega | ((try (have i_hz19 := Imp.go hz19 (by omega))); omega)) (by first | omega | ((try (have i_hz19 := Imp.go hz19 (by omega))); omega)) (by first | omega | ((try (have i_hz19 := Imp.go hz19 (by omega))); omega)) af94 (by first | omega | ((try (have i_hz19 := Imp.go hz19 (by omega))); omega)) (fun hph => absurd hph (by omega)))
        refine W.know (fun kr1 kr2 => ?_)
        refine W.widen (k := zcc Z) (n := zss Z) (Nat.sub_le _ _) (Nat.sub_le _ _) ?_
        exact W.zret (v := 1) hx hb hr rfl (fun t ht hW => ⟨⟨1, (V75, L, Z), rfl, ⟨hMV75, agV75, rfl, zoZ, (by decide), (Imp.mk (fun _ => mo93)), (Imp.mk (fun hp => absurd hp (by decide))), (Imp.mk (fun _ => (show (V75 5 6).toInt = (V 5 6).toInt ∧ (V75 67 gf).toInt = 4 from by first | exact om_7c7da5faf5fa gk pq77 pq78 | first | omega | ((try (have i_hz19 := Imp.go hz19 (by omega))); omega)))), (Imp.mk (fun _ => rfl))⟩, ⟨by rw [ht]; exact hP, va_K.moved hW.alike hK, hD⟩, by rw [ht]; exact kr1, by rw [ht]; exact kr2⟩, hS.F ht⟩) hS.2.2 dX5_takesAnswer_116
    · skip
      have f96 : ((V 68 gf)).toInt = 7 := b_eq rfl (by decide) c15
      refine lv_aload_n hx hb dX5_takesAnswer_27 rfl (lv_at hl 0 rfl) ?_
      refine lv_aload_n hx hb dX5_takesAnswer_28 rfl (lv_at hl 1 rfl) ?_
      refine lv_aload_n hx hb dX5_takesAnswer_29 rfl (lv_at hl 0 rfl) ?_
      refine va_get (D := D) (ci := 5) (v := .int (V 5 10)) (fs := (xfMachine ad V L Z)) (C := RX5) (T := TX5) (N := 15) hx hb hg inX5 hown hK hP 5 xgMachine rfl 10 (by decide) (hg _ w677) (fun _ h9 => h9) rfl dX5_takesAnswer_30 ?_
      refine W.know (fun k98 k99 => ?_)
      obtain ⟨Hk97, hHk97⟩ : ∃ z, z = H := ⟨_, rfl⟩
      have k98 : Hk97.size ≤ s.heap.size + (zcc Z - zcc Z) := by rw [hHk97]; exact k98
      have k99 : tot Hk97 ≤ tot s.heap + (zss Z - zss Z) := by rw [hHk97]; exact k99
      refine gZ_void (gA_runV (As := [.ref (Z.fa gf), .int (V 5 10)]) (rest := []) (ci := 5) (q0 := 5) hx hb hml hown hg hP hD hK hS hA hnw hgk (x_joinLate l D ks H.size ad kk V L Z (V 5 10) (b) (gf) hMV (show b < 2 from by (first | exact om_f940a4667dd6 hb2 | omega)) (show gf < Z.nf from by (first | exact om_8c5722e49bb1 hgf | omega)) mo (show (gf : Int) + 1 = (V 5 6).toInt from by (first | exact om_b7eb86266639 gd | omega)) (show (V 67 gf).toInt = 4 from by (first | exact om_c88e7ce0b8a2 gk | omega)) (show (V 68 gf).toInt = 7 from by (first | exact om_ba873a6da76b f96 | omega)) (show ((V 5 10)).toInt = (V 5 10).toInt from by (first | exact om_4c2c879c4424 | omega))) w1470 w1472 w73 w171 w1473 rfl xgMachine hdV_yX5_joinLate ⟨Nat.le_of_ble_eq_true rfl, Nat.le_of_ble_eq_true rfl⟩ rfl hl.1 rfl (Nat.le_of_ble_eq_true rfl) dX5_takesAnswer_33 ⟨z1 zoZ.1, z1 zoZ.2.1⟩) hD hS hA (fun u101 H locs w102 hP hD hK hS y103 y104 => ?_)
      obtain ⟨V105, L106, Z107⟩ := u101
      obtain ⟨hMV105, ajV105, axL106, zlZ107, t109⟩ := w102
      have axL106 : L = L106 := Eq.symm axL106
      subst axL106
      have hP : va_P D vwCl (xw ad kk V105 L Z107) H := hP
      have hD : va_D A (xw ad kk V105 L Z107) := hD
      have hK : va_K D vwCl (xty kk Z107) s := hK
      have hMV105 : rgd bX V105 := hMV105
      have ajV105 : agr [(3, 15)] [30, 31, 32] V V105 := ajV105
      have agV105 : agr [(3, 15), (5, 6), (5, 7), (5, 9)] [30, 31, 32, 39, 67, 68, 69, 70, 71, 72, 73, 74, 75, 76, 77, 78, 79, 80, 81, 82, 83, 84, 85] V V105 := agV.tr ajV105 (by decide) (by decide)
      have zlZ107 : ZL Z Z107 := zlZ107
      have zoZ107 : ZL Z Z107 := ZL.tr zoZ zlZ107
      have ziZ107 := zlZ107.1
      have zjZ107 := zlZ107.2.1
      have zkZ107 := zlZ107.2.2.1
      have zmZ107 := zoZ107.1
      have znZ107 := zoZ107.2.1
      have zpZ_Z107 := zoZ.1
      have zqZ_Z107 := zoZ.2.1
      have y103 : H.size ≤ Hk97.size + (zcc Z - zcc Z107) := by rw [hHk97]; exact y103
      have y104 : tot H ≤ tot Hk97 + (zss Z - zss Z107) := by rw [hHk97]; exact y104
      refine W.tight (k := zcc Z - zcc Z107) (n := zss Z - zss Z107) (by first | exact tg9 y103 k98 zlZ107.1 zoZ.1 | omega) (by first | exact tg9 y104 k99 zlZ107.2.1 zoZ.2.1 | omega) ?_
      have hl : lv_has ls 3 [(0, .ref (ad 5)), (1, .ref (Z107.fa gf))] := by rw [zlZ107.2.2.2.2 gf hgf]; exact hl
      have t109 : MO V105 Z107 b gf True False True := t109
      have mup := MO.up t109
      have msz := mup.1
      have mbk := mup.2.2.2.1
      obtain ⟨xk, fk⟩ := MO.fk t109
      have pq110 : (V105 67 gf).toInt = ((V 67 gf)).toInt := congrArg Int32.toInt (ajV105 67 gf rfl)
      have pq111 : (V105 68 gf).toInt = ((V 68 gf)).toInt := congrArg Int32.toInt (ajV105 68 gf rfl)
      have pq112 : (V105 70 gf).toInt = ((V 70 gf)).toInt := congrArg Int32.toInt (ajV105 70 gf rfl)
      have pq113 : (V105 71 gf).toInt = ((V 71 gf)).toInt := congrArg Int32.toInt (ajV105 71 gf rfl)
      have pq114 : (V105 75 gf).toInt = ((V 75 gf)).toInt := congrArg Int32.toInt (ajV105 75 gf rfl)
      have pq115 : (V105 76 gf).toInt = ((V 76 gf)).toInt := congrArg Int32.toInt (ajV105 76 gf rfl)
      have pq116 : (V105 80 gf).toInt = ((V 80 gf)).toInt := congrArg Int32.toInt (ajV105 80 gf rfl)
      have pq117 : (V105 84 gf).toInt = ((V 84 gf)).toInt := congrArg Int32.toInt (ajV105 84 gf rfl)
      have pq118 : (V105 5 6).toInt = ((V 5 6)).toInt := congrArg Int32.toInt (ajV105 5 6 rfl)
      have pq119 : (V105 5 8).toInt = ((V 5 8)).toInt := congrArg Int32.toInt (ajV105 5 8 rfl)
      have pq120 : (V105 5 9).toInt = ((V 5 9)).toInt := congrArg Int32.toInt (ajV105 5 9 rfl)
      have pq121 : (V105 3 13).toInt = ((V 3 13)).toInt := congrArg Int32.toInt (ajV105 3 13 rfl)
      have pq122 : (V105 43 (5 * b + 2)).toInt = ((V 43 (5 * b + 2))).toInt := congrArg Int32.toInt (ajV105 43 (5 * b + 2) rfl)
      have pq123 : (V105 41 b).toInt = ((V 41 b)).toInt := congrArg Int32.toInt (ajV105 41 b rfl)
      have pq124 : (V105 42 b).toInt = ((V 42 b)).toInt := congrArg Int32.toInt (ajV105 42 b rfl)
      have fc := fk.1 (by omega)
      have fo := fk.2.1 (by omega) (by omega)
      have ft := fk.2.2.1 (by omega)
      have fq := fk.2.2.2.1 (by omega)
      have ftx : (V105 42 b).toInt ≤ (V 84 gf).toInt ∨ (bdp V105 b (V 84 gf).toInt.toNat).1 = true := by have q := ft; rw [(ajV105 84 gf rfl)] at q; exact q
      refine lv_aload_n hx hb dX5_takesAnswer_36 rfl (lv_at hl 1 rfl) ?_
      refine lv_iconst (v := 1) hx hb dX5_takesAnswer_37 (by decide) ?_
      have il125 : gf < Z107.nf := by omega
      refine va_putN (D := D) (ci := 4) (v := .int 1) (ty := tyX4 1) (fs := (xfFrame V105 gf)) (C := RX4) (T := TX4) (N := 19) hx hb hg inX4 tyX4 tyX4_ok nmX4 hown hK hP hD hS (336 + gf) (xgFrame il125) rfl 1 (by decide) (hnw.use 1190 n1190 rfl) (fun _ h9 => h9) rfl (tyX4_ok 1 (by decide)) rfl rfl (Nat.le_of_ble_eq_true rfl) dX5_takesAnswer_38 (fun H locs hP hD hS => ?_)
      obtain ⟨V126, hV126⟩ : ∃ z, z = up2 V105 68 gf 1 := ⟨_, rfl⟩
      have ew127 : (xw ad kk V105 L Z107).set (336 + gf) ((Z107.fa gf), .inr (4, (xfFrame V105 gf).set 1 (.int 1))) = xw ad kk V126 L Z107 := by rw [hV126]; exact xpFrame_phase il125
      have hP : va_P D vwCl (xw ad kk V126 L Z107) H := by rw [← ew127]; exact hP
      have hD : va_D A (xw ad kk V126 L Z107) := by rw [← ew127]; exact hD
      have hMV126 : rgd bX V126 := hMV105.put hV126 (i_full _)
      have agV126 : agr [(3, 15), (5, 6), (5, 7), (5, 9)] [30, 31, 32, 39, 67, 68, 69, 70, 71, 72, 73, 74, 75, 76, 77, 78, 79, 80, 81, 82, 83, 84, 85] V V126 := agV105.up hV126 rfl
      refine lv_aload_n hx hb dX5_takesAnswer_41 rfl (lv_at hl 0 rfl) ?_
      refine lv_aload_n hx hb dX5_takesAnswer_42 rfl (lv_at hl 0 rfl) ?_
      refine va_get (D := D) (ci := 5) (v := .int (V126 5 10)) (fs := (xfMachine ad V126 L Z107)) (C := RX5) (T := TX5) (N := 15) hx hb hg inX5 hown hK hP 5 xgMachine rfl 10 (by decide) (hg _ w677) (fun _ h9 => h9) rfl dX5_takesAnswer_43 ?_
      refine g_top (v := (V 5 10)) ((up2_o hV126 (by decide)).trans (ajV105 5 10 rfl)) ?_
      refine lv_aload_n hx hb dX5_takesAnswer_46 rfl (lv_at hl 1 rfl) ?_
      refine va_getN (D := D) (ci := 4) (v := .int (V126 72 gf)) (fs := (xfFrame V126 gf)) (C := RX4) (T := TX4) (N := 19) hx hb hg inX4 hown hK hP (336 + gf) (xgFrame il125) rfl 5 (by decide) (hnw.use 1194 n1194 rfl) (fun _ h9 => h9) rfl dX5_takesAnswer_47 ?_
      refine g_top (v := (V 72 gf)) ((up2_o hV126 (by decide)).trans (ajV105 72 gf rfl)) ?_
      have r128 : 0 ≤ ((V 72 gf)).toInt ∧ ((V 72 gf)).toInt ≤ 39 := hMV 72 gf
      refine lv_aload_n hx hb dX5_takesAnswer_50 rfl (lv_at hl 1 rfl) ?_
      refine va_getN (D := D) (ci := 4) (v := .int (V126 77 gf)) (fs := (xfFrame V126 gf)) (C := RX4) (T := TX4) (N := 19) hx hb hg inX4 hown hK hP (336 + gf) (xgFrame il125) rfl 10 (by decide) (hnw.use 1199 n1199 rfl) (fun _ h9 => h9) rfl dX5_takesAnswer_51 ?_
      refine g_top (v := (V 77 gf)) ((up2_o hV126 (by decide)).trans (ajV105 77 gf rfl)) ?_
      have r129 : 0 ≤ ((V 77 gf)).toInt ∧ ((V 77 gf)).toInt ≤ 19 := hMV 77 gf
      refine lv_aload_n hx hb dX5_takesAnswer_54 rfl (lv_at hl 1 rfl) ?_
      refine va_getN (D := D) (ci := 4) (v := .int (V126 78 gf)) (fs := (xfFrame V126 gf)) (C := RX4) (T := TX4) (N := 19) hx hb hg inX4 hown hK hP (336 + gf) (xgFrame il125) rfl 11 (by decide) (hnw.use 1200 n1200 rfl) (fun _ h9 => h9) rfl dX5_takesAnswer_55 ?_
      refine g_top (v := (V 78 gf)) ((up2_o hV126 (by decide)).trans (ajV105 78 gf rfl)) ?_
      refine lv_aload_n hx hb dX5_takesAnswer_58 rfl (lv_at hl 1 rfl) ?_
      refine va_getN (D := D) (ci := 4) (v := .int (V126 69 gf)) (fs := (xfFrame V126 gf)) (C := RX4) (T := TX4) (N := 19) hx hb hg inX4 hown hK hP (336 + gf) (xgFrame il125) rfl 2 (by decide) (hnw.use 1191 n1191 rfl) (fun _ h9 => h9) rfl dX5_takesAnswer_59 ?_
      refine g_top (v := (V 69 gf)) ((up2_o hV126 (by decide)).trans (ajV105 69 gf rfl)) ?_
      refine lv_iconst (v := 1) hx hb dX5_takesAnswer_62 (by decide) ?_
      refine lv_iadd hx hb dX5_takesAnswer_63 ?_
      have r130 := i_full (V 69 gf)
      refine lv_topi (fun z131 ez131 => ?_)
      have hz131 : Imp (-2147483648 ≤ ((V 69 gf)).toInt + 1 ∧ ((V 69 gf)).toInt + 1 ≤ 2147483647) (z131.toInt = ((V 69 gf)).toInt + 1) := Imp.mk (fun hp => i_add ez131 rfl (by decide) hp)
      have me132 : ME V105 V126 gf := (ME.up ME.rf hV126 (Or.inl ⟨by decide, by decide, Nat.le_refl _⟩))
      have pq133 : (V126 67 gf).toInt = ((V 67 gf)).toInt := congrArg Int32.toInt ((up2_o hV126 (by decide)).trans (ajV105 67 gf rfl))
      have pq134 : (V126 68 gf).toInt = 1 := (congrArg Int32.toInt (up2_s hV126)).trans (by decide)
      have pq135 : (V126 70 gf).toInt = ((V 70 gf)).toInt := congrArg Int32.toInt ((up2_o hV126 (by decide)).trans (ajV105 70 gf rfl))
      have pq136 : (V126 71 gf).toInt = ((V 71 gf)).toInt := congrArg Int32.toInt ((up2_o hV126 (by decide)).trans (ajV105 71 gf rfl))
      have pq137 : (V126 75 gf).toInt = ((V 75 gf)).toInt := congrArg Int32.toInt ((up2_o hV126 (by decide)).trans (ajV105 75 gf rfl))
      have pq138 : (V126 76 gf).toInt = ((V 76 gf)).toInt := congrArg Int32.toInt ((up2_o hV126 (by decide)).trans (ajV105 76 gf rfl))
      have pq139 : (V126 80 gf).toInt = ((V 80 gf)).toInt := congrArg Int32.toInt ((up2_o hV126 (by decide)).trans (ajV105 80 gf rfl))
      have pq140 : (V126 84 gf).toInt = ((V 84 gf)).toInt := congrArg Int32.toInt ((up2_o hV126 (by decide)).trans (ajV105 84 gf rfl))
      have pq141 : (V126 5 6).toInt = ((V 5 6)).toInt := congrArg Int32.toInt ((up2_o hV126 (by decide)).trans (ajV105 5 6 rfl))
      have pq142 : (V126 5 8).toInt = ((V 5 8)).toInt := congrArg Int32.toInt ((up2_o hV126 (by decide)).trans (ajV105 5 8 rfl))
      have pq143 : (V126 5 9).toInt = ((V 5 9)).toInt := congrArg Int32.toInt ((up2_o hV126 (by decide)).trans (ajV105 5 9 rfl))
      have pq144 : (V126 3 13).toInt = ((V 3 13)).toInt := congrArg Int32.toInt ((up2_o hV126 (by decide)).trans (ajV105 3 13 rfl))
      have pq145 : (V126 43 (5 * b + 2)).toInt = ((V 43 (5 * b + 2))).toInt := congrArg Int32.toInt ((up2_o hV126 (by decide)).trans (ajV105 43 (5 * b + 2) rfl))
      have pq146 : (V126 42 b).toInt = ((V 42 b)).toInt := congrArg Int32.toInt ((up2_o hV126 (by decide)).trans (ajV105 42 b rfl))
      have pq147 : (V126 41 b).toInt = ((V 41 b)).toInt := congrArg Int32.toInt ((up2_o hV126 (by decide)).trans (ajV105 41 b rfl))
      have ep150 : V126 84 gf = (V 84 gf) := ((up2_o hV126 (by decide)).trans (ajV105 84 gf rfl))
      have af149 : (V126 42 b).toInt ≤ (V126 84 gf).toInt ∨ (bdp V126 b (V126 84 gf).toInt.toNat).1 = true := by rw [ep150, me132.1.bd, me132.1 42 b (by decide) (by decide)]; exact ftx
      have mo148 : MO V126 Z107 b gf True True True := MO.ch t109 me132 (up2_o hV126 (by decide)) (up2_o hV126 (by decide)) (fun _ => Or.inl (by omega)) (fun x h => FK.k4 (by first | omega | ((try (have i_hz131 := Imp.go hz131 (by omega))); omega)) (by first | omega | ((try (have i_hz131 := Imp.go hz131 (by omega))); omega)) (by first | omega | ((try (have i_hz131 := Imp.go hz131 (by omega))); omega)) af149 (by first | omega | ((try (have i_hz131 := Imp.go hz131 (by omega))); omega)) (fun hph => absurd hph (by omega)))
      have mt151 : MT V126 Z107 b := MO.mt mo148 (by (first | exact om_c09d41618ed8 il125 | omega)) (by (first | exact om_82fa09255765 gd pq141 | omega))
      refine W.know (fun k153 k154 => ?_)
      obtain ⟨Hk152, hHk152⟩ : ∃ z, z = H := ⟨_, rfl⟩
      have k153 : Hk152.size ≤ s.heap.size + (zcc Z - zcc Z107) := by rw [hHk152]; exact k153
      have k154 : tot Hk152 ≤ tot s.heap + (zss Z - zss Z107) := by rw [hHk152]; exact k154
      refine gZ_void (gA_runV (As := [.int (V 5 10), .int (V 72 gf), .int (V 77 gf), .int (V 78 gf), .int z131]) (rest := []) (ci := 5) (q0 := 5) hx hb hml hown hg hP hD hK hS hA hnw hgk (x_pushCall l D ks H.size ad kk V126 L Z107 (V 5 10) (V 72 gf) (V 77 gf) (V 78 gf) z131 (b) hMV126 (by first | exact om_13ba01c174fe r128.1 r128.2 | first | omega | ((try (have i_hz131 := Imp.go hz131 (by omega))); omega)) (by first | exact om_0916ac166aa8 r129.1 r129.2 | first | omega | ((try (have i_hz131 := Imp.go hz131 (by omega))); omega)) (show b < 2 from by first | exact om_f940a4667dd6 hb2 | first | omega | ((try (have i_hz131 := Imp.go hz131 (by omega))); omega)) mt151) w1454 w1455 w1456 w171 w1457 rfl xgMachine hdV_yX5_pushCall ⟨Nat.le_of_ble_eq_true rfl, Nat.le_of_ble_eq_true rfl⟩ rfl hl.1 rfl (Nat.le_of_ble_eq_true rfl) dX5_takesAnswer_64 ⟨z1 zoZ107.1, z1 zoZ107.2.1⟩) hD hS hA (fun u156 H locs w157 hP hD hK hS y158 y159 => ?_)
      obtain ⟨V160, L161, Z162⟩ := u156
      obtain ⟨hMV160, ajV160, axL161, zlZ162, t164⟩ := w157
      have axL161 : L = L161 := Eq.symm axL161
      subst axL161
      have hP : va_P D vwCl (xw ad kk V160 L Z162) H := hP
      have hD : va_D A (xw ad kk V160 L Z162) := hD
      have hK : va_K D vwCl (xty kk Z162) s := hK
      have hMV160 : rgd bX V160 := hMV160
      have ajV160 : agr [(5, 6), (5, 9)] [67, 68, 69, 70, 71, 72, 73, 74, 75, 76, 77, 78, 79, 80, 81, 82, 83, 84, 85] V126 V160 := ajV160
      have agV160 : agr [(3, 15), (5, 6), (5, 7), (5, 9)] [30, 31, 32, 39, 67, 68, 69, 70, 71, 72, 73, 74, 75, 76, 77, 78, 79, 80, 81, 82, 83, 84, 85] V V160 := agV126.tr ajV160 (by decide) (by decide)
      have zlZ162 : ZL Z107 Z162 := zlZ162
      have zoZ162 : ZL Z Z162 := ZL.tr zoZ107 zlZ162
      have ziZ162 := zlZ162.1
      have zjZ162 := zlZ162.2.1
      have zkZ162 := zlZ162.2.2.1
      have zmZ162 := zoZ162.1
      have znZ162 := zoZ162.2.1
      have zpZ107_Z162 := zoZ107.1
      have zqZ107_Z162 := zoZ107.2.1
      have y158 : H.size ≤ Hk152.size + (zcc Z107 - zcc Z162) := by rw [hHk152]; exact y158
      have y159 : tot H ≤ tot Hk152 + (zss Z107 - zss Z162) := by rw [hHk152]; exact y159
      refine W.tight (k := zcc Z - zcc Z162) (n := zss Z - zss Z162) (by first | exact tg9 y158 k153 zlZ162.1 zoZ107.1 | omega) (by first | exact tg9 y159 k154 zlZ162.2.1 zoZ107.2.1 | omega) ?_
      have hl : lv_has ls 3 [(0, .ref (ad 5)), (1, .ref (Z162.fa gf))] := by rw [zlZ162.2.2.2.2 gf il125]; exact hl
      have t164 : MJ V160 Z162 b := t164
      refine lv_iconst (v := 0) hx hb dX5_takesAnswer_67 (by decide) ?_
      have r165 : 0 ≤ ((V160 5 6)).toInt ∧ ((V160 5 6)).toInt ≤ 400 := hMV160 5 6
      refine W.know (fun kr1 kr2 => ?_)
      refine W.widen (k := zcc Z) (n := zss Z) (Nat.sub_le _ _) (Nat.sub_le _ _) ?_
      exact W.zret (v := 0) hx hb hr rfl (fun t ht hW => ⟨⟨0, (V160, L, Z162), rfl, ⟨hMV160, agV160, rfl, zoZ162, (by decide), (Imp.mk (fun hp => absurd hp (by decide))), (Imp.mk (fun _ => t164)), (Imp.mk (fun hp => absurd hp (by decide))), (Imp.mk (fun hp => absurd hp (by decide)))⟩, ⟨by rw [ht]; exact hP, va_K.moved hW.alike hK, hD⟩, by rw [ht]; exact kr1, by rw [ht]; exact kr2⟩, hS.F ht⟩) hS.2.2 dX5_takesAnswer_68
  · skip
    have f166 : ((V 68 gf)).toInt = 1 := b_eq rfl (by decide) c13
    refine lv_aload_n hx hb dX5_takesAnswer_8 rfl (lv_at hl 0 rfl) ?_
    refine lv_aload_n hx hb dX5_takesAnswer_9 rfl (lv_at hl 0 rfl) ?_
    refine va_get (D := D) (ci := 5) (v := .int (V 5 10)) (fs := (xfMachine ad V L Z)) (C := RX5) (T := TX5) (N := 15) hx hb hg inX5 hown hK hP 5 xgMachine rfl 10 (by decide) (hg _ w677) (fun _ h9 => h9) rfl dX5_takesAnswer_10 ?_
    refine gA_void (gA_runV (As := [.int (V 5 10)]) (rest := []) (ci := 5) (q0 := 5) hx hb hml hown hg hP hD hK hS hA hnw hgk (x_mput l D ks H.size ad kk V L Z (V 5 10) hMV ) w1466 w1468 w72 w171 w1469 rfl xgMachine hdV_yX5_put ⟨Nat.le_of_ble_eq_true rfl, Nat.le_of_ble_eq_true rfl⟩ rfl hl.1 rfl (Nat.le_of_ble_eq_true rfl) dX5_takesAnswer_13 ⟨z0, z0⟩) hP hD hK hS hA (fun u168 H locs w169 hP hD hK hS => ?_)
    obtain ⟨V170, L171⟩ := u168
    obtain ⟨hMV170, ajV170, axL171⟩ := w169
    have axL171 : L = L171 := Eq.symm axL171
    subst axL171
    have hP : va_P D vwCl (xw ad kk V170 L Z) H := hP
    have hD : va_D A (xw ad kk V170 L Z) := hD
    have hMV170 : rgd bX V170 := hMV170
    have ajV170 : agr [(5, 7)] [39] V V170 := ajV170
    have agV170 : agr [(3, 15), (5, 6), (5, 7), (5, 9)] [30, 31, 32, 39, 67, 68, 69, 70, 71, 72, 73, 74, 75, 76, 77, 78, 79, 80, 81, 82, 83, 84, 85] V V170 := agV.tr ajV170 (by decide) (by decide)
    refine lv_iconst (v := 1) hx hb dX5_takesAnswer_16 (by decide) ?_
    have pq172 : (V170 5 6).toInt = ((V 5 6)).toInt := congrArg Int32.toInt (ajV170 5 6 rfl)
    have pq173 : (V170 67 gf).toInt = ((V 67 gf)).toInt := congrArg Int32.toInt (ajV170 67 gf rfl)
    have me174 : ME V V170 gf := (ME.tr ME.rf (ME.ag ajV170 (by decide)))
    have pq175 : (V170 68 gf).toInt = ((V 68 gf)).toInt := congrArg Int32.toInt (ajV170 68 gf rfl)
    have pq176 : (V170 70 gf).toInt = ((V 70 gf)).toInt := congrArg Int32.toInt (ajV170 70 gf rfl)
    have pq177 : (V170 71 gf).toInt = ((V 71 gf)).toInt := congrArg Int32.toInt (ajV170 71 gf rfl)
    have pq178 : (V170 75 gf).toInt = ((V 75 gf)).toInt := congrArg Int32.toInt (ajV170 75 gf rfl)
    have pq179 : (V170 76 gf).toInt = ((V 76 gf)).toInt := congrArg Int32.toInt (ajV170 76 gf rfl)
    have pq180 : (V170 80 gf).toInt = ((V 80 gf)).toInt := congrArg Int32.toInt (ajV170 80 gf rfl)
    have pq181 : (V170 84 gf).toInt = ((V 84 gf)).toInt := congrArg Int32.toInt (ajV170 84 gf rfl)
    have pq182 : (V170 5 8).toInt = ((V 5 8)).toInt := congrArg Int32.toInt (ajV170 5 8 rfl)
    have pq183 : (V170 5 9).toInt = ((V 5 9)).toInt := congrArg Int32.toInt (ajV170 5 9 rfl)
    have pq184 : (V170 3 13).toInt = ((V 3 13)).toInt := congrArg Int32.toInt (ajV170 3 13 rfl)
    have pq185 : (V170 43 (5 * b + 2)).toInt = ((V 43 (5 * b + 2))).toInt := congrArg Int32.toInt (ajV170 43 (5 * b + 2) rfl)
    have pq186 : (V170 42 b).toInt = ((V 42 b)).toInt := congrArg Int32.toInt (ajV170 42 b rfl)
    have pq187 : (V170 41 b).toInt = ((V 41 b)).toInt := congrArg Int32.toInt (ajV170 41 b rfl)
    have af189 : (V170 42 b).toInt ≤ (V170 84 gf).toInt ∨ (bdp V170 b (V170 84 gf).toInt.toNat).1 = true := by rw [(ajV170 84 gf rfl), me174.1.bd, me174.1 42 b (by decide) (by decide)]; exact ft
    have mo188 : MO V170 Z b gf True True True := MO.ch mo me174 (ajV170 67 gf rfl) (ajV170 80 gf rfl) (fun _ => Or.inl (by omega)) (fun x h => FK.k4 (by omega) (by omega) (by omega) af189 (by omega) (fun hph => absurd hph (by omega)))
    refine W.know (fun kr1 kr2 => ?_)
    refine W.widen (k := zcc Z) (n := zss Z) (Nat.sub_le _ _) (Nat.sub_le _ _) ?_
    exact W.zret (v := 1) hx hb hr rfl (fun t ht hW => ⟨⟨1, (V170, L, Z), rfl, ⟨hMV170, agV170, rfl, zoZ, (by decide), (Imp.mk (fun _ => mo188)), (Imp.mk (fun hp => absurd hp (by decide))), (Imp.mk (fun _ => (show (V170 5 6).toInt = (V 5 6).toInt ∧ (V170 67 gf).toInt = 4 from by (first | exact om_7c7da5faf5fa gk pq172 pq173 | omega)))), (Imp.mk (fun _ => rfl))⟩, ⟨by rw [ht]; exact hP, va_K.moved hW.alike hK, hD⟩, by rw [ht]; exact kr1, by rw [ht]; exact kr2⟩, hS.F ht⟩) hS.2.2 dX5_takesAnswer_17
abbrev r_x_getLate (Z : XZ) : Room := { frames := 4, cells := zcc Z, slots := zss Z, locals := 90 }
abbrev q_x_getLate (D : va_G) (ks : KS) (ad : Nat → Nat) (kk : Nat → ClassId) (V : Vf) (L : Lf) (Z : XZ) (b : Nat) (gf : Nat) (A : Nat → Prop) : Array Value → State → Outcome → State → Prop := qZv D (fun (u : Vf × Lf × XZ) => rgd bX u.1 ∧ agr [(5, 6), (5, 9), (5, 11), (5, 12)] [67, 68, 69, 70, 71, 72, 73, 74, 75, 76, 77, 78, 79, 80, 81, 82, 83, 84, 85] V u.1 ∧ u.2.1 = L ∧ ZL Z u.2.2 ∧ (MJ u.1 u.2.2 b)) (fun u => xw ad kk u.1 u.2.1 u.2.2) (fun u => xty kk u.2.2) (fun u => zcc Z - zcc u.2.2) (fun u => zss Z - zss u.2.2) A
set_option maxHeartbeats 4000000 in
set_option maxRecDepth 100000 in
theorem x_getLate (l : Launch) (D : va_G) (ks : KS) (sz : Nat) (ad : Nat → Nat) (kk : Nat → ClassId) (V : Vf) (L : Lf) (Z : XZ) (b : Nat) (gf : Nat) (hMV : rgd bX V) (hb2 : b < 2) (hgf : gf < Z.nf) (mo : MO V Z b gf True False True) (gd : (gf : Int) + 1 = (V 5 6).toInt) (gk : (V 67 gf).toInt = 4) (gph : (V 68 gf).toInt = 7)  : Met l yX5_getLate (Cond.code yX5_getLate cX5_getLate 3 none :: GW) (r_x_getLate Z) (va_Pc [.ref (ad 5), .ref (Z.fa gf)] (gp D ks (xw ad kk V L Z) (xty kk Z) sz)) (q_x_getLate D ks ad kk V L Z  b gf (va_A (xw ad kk V L Z) sz)) (zcc Z) (zss Z) (va_A (xw ad kk V L Z) sz) := by
  refine g_met (q_x_getLate D ks ad kk V L Z  b gf) (by decide) (Nat.le_of_ble_eq_true rfl) ?_
  intro p e s m below meth c A ls H locs hx hb hr hml hown hg hlocks hin hnw hgk hP hK hD hS hA hl
  have hown : s.vm.findClass RX5 = some m.cls := hown
  have hl : lv_has ls 3 [(0, .ref (ad 5)), (1, .ref (Z.fa gf))] := hl
  have hP : va_P D vwCl (xw ad kk V L Z) H := hP
  have hD : va_D A (xw ad kk V L Z) := hD
  have hK : va_K D vwCl (xty kk Z) s := hK
  have agV : agr [(5, 6), (5, 9), (5, 11), (5, 12)] [67, 68, 69, 70, 71, 72, 73, 74, 75, 76, 77, 78, 79, 80, 81, 82, 83, 84, 85] V V := agr.rf
  have zoZ : ZL Z Z := ZL.rf
  refine W.know (fun ka kb => ?_)
  refine W.tight (k := zcc Z - zcc Z) (n := zss Z - zss Z) (by omega) (by omega) ?_
  have r1 : 0 ≤ ((V 5 6)).toInt ∧ ((V 5 6)).toInt ≤ 400 := hMV 5 6
  have kdp := i_clamp (x := V 5 6) rfl (by (first | exact om_c66f1b494bd9 gd | omega))
  have hdn : (gf : Int) + 1 ≤ (Z.nf : Int) := by (first | exact om_29efded833ec hgf | omega)
  have mup := MO.up mo
  have msz := mup.1
  have mbk := mup.2.2.2.1
  obtain ⟨xk, fk⟩ := MO.fk mo
  have r2 : (-1) ≤ ((V 71 gf)).toInt ∧ ((V 71 gf)).toInt ≤ 23 := hMV 71 gf
  have r3 : 0 ≤ ((V 75 gf)).toInt ∧ ((V 75 gf)).toInt ≤ 12 := hMV 75 gf
  have r4 : 0 ≤ ((V 80 gf)).toInt ∧ ((V 80 gf)).toInt ≤ 300 := hMV 80 gf
  have r5 : 0 ≤ ((V 84 gf)).toInt ∧ ((V 84 gf)).toInt ≤ 2147483647 := hMV 84 gf
  have r6 : 0 ≤ ((V 5 8)).toInt ∧ ((V 5 8)).toInt ≤ 300 := hMV 5 8
  have r7 : 0 ≤ ((V 5 9)).toInt ∧ ((V 5 9)).toInt ≤ 3 := hMV 5 9
  have r8 : 0 ≤ ((V 3 13)).toInt ∧ ((V 3 13)).toInt ≤ 300 := hMV 3 13
  have r9 : 0 ≤ ((V 43 (5 * b + 2))).toInt ∧ ((V 43 (5 * b + 2))).toInt ≤ ((xcap (5 * b + 2) : Nat) : Int) := hMV 43 (5 * b + 2)
  have r10 : xcap (5 * b + 2) = 24 := xcap_2
  have r11 : 0 ≤ ((V 41 b)).toInt ∧ ((V 41 b)).toInt ≤ 12 := hMV 41 b
  have r12 : 0 ≤ ((V 42 b)).toInt ∧ ((V 42 b)).toInt ≤ 8200 := hMV 42 b
  have fc := fk.1 (by omega)
  have fo := fk.2.1 (by omega) (by omega)
  have ft := fk.2.2.1 (by omega)
  have fq := fk.2.2.2.1 (by omega)
  have fq7 := fq (by omega)
  refine lv_aload_n hx hb dX5_getLate_0 rfl (lv_at hl 1 rfl) ?_
  refine va_getN (D := D) (ci := 4) (v := .int (V 69 gf)) (fs := (xfFrame V gf)) (C := RX4) (T := TX4) (N := 19) hx hb hg inX4 hown hK hP (336 + gf) (xgFrame hgf) rfl 2 (by decide) (hnw.use 1191 n1191 rfl) (fun _ h9 => h9) rfl dX5_getLate_1 ?_
  refine lv_bipush (v := 10) hx hb dX5_getLate_4 (by decide) ?_
  refine lv_icmp_lt (tgt := 17) hx hb dX5_getLate_6 (by decide) (fun c13 => ?_) (fun c13 => ?_)
  · skip
    have f14 : ((V 69 gf)).toInt < 10 := b_lt rfl (by decide) c13
    refine lv_aload_n hx hb dX5_getLate_17 rfl (lv_at hl 0 rfl) ?_
    refine va_get (D := D) (ci := 5) (v := .ref (ad (38 + Int32.toNatClampNeg (V 5 5)))) (fs := (xfMachine ad V L Z)) (C := RX5) (T := TX5) (N := 15) hx hb hg inX5 hown hK hP 5 xgMachine rfl 5 (by decide) (hg _ w672) (fun _ h9 => h9) rfl dX5_getLate_18 ?_
    have r15 : 0 ≤ ((V 5 5)).toInt ∧ ((V 5 5)).toInt ≤ 1 := hMV 5 5
    refine g_topv (v := .ref (ad (38 + b))) (rfP (by omega)) ?_
    refine lv_aload_n hx hb dX5_getLate_21 rfl (lv_at hl 1 rfl) ?_
    refine va_getN (D := D) (ci := 4) (v := .int (V 71 gf)) (fs := (xfFrame V gf)) (C := RX4) (T := TX4) (N := 19) hx hb hg inX4 hown hK hP (336 + gf) (xgFrame hgf) rfl 4 (by decide) (hnw.use 1193 n1193 rfl) (fun _ h9 => h9) rfl dX5_getLate_22 ?_
    refine lv_aload_n hx hb dX5_getLate_25 rfl (lv_at hl 1 rfl) ?_
    refine va_getN (D := D) (ci := 4) (v := .int (V 75 gf)) (fs := (xfFrame V gf)) (C := RX4) (T := TX4) (N := 19) hx hb hg inX4 hown hK hP (336 + gf) (xgFrame hgf) rfl 8 (by decide) (hnw.use 1197 n1197 rfl) (fun _ h9 => h9) rfl dX5_getLate_26 ?_
    refine gA_int (gA_runV (As := [.int (V 71 gf), .int (V 75 gf)]) (rest := []) (ci := 0) (q0 := (38 + b)) hx hb hml hown hg hP hD hK hS hA hnw hgk (x_firstCandidate2 l D ks H.size ad kk V L Z (V 71 gf) (V 75 gf) (b) hMV (by omega) (by omega) (show b < 2 from by (first | exact om_f940a4667dd6 hb2 | omega))) w1447 w1448 w1449 w167 w1450 rfl (xgBook hb2) hdV_yX0_firstCandidate ⟨Nat.le_of_ble_eq_true rfl, Nat.le_of_ble_eq_true rfl⟩ rfl hl.1 rfl (Nat.le_of_ble_eq_true rfl) dX5_getLate_29 ⟨z0, z0⟩) hP hD hK hS hA (fun z16 u17 H locs w18 hP hD hK hS => ?_)
    have rgz16 := w18
    have rgz16 : (-1) ≤ z16.toInt ∧ z16.toInt ≤ 23 := rgz16
    refine lv_istore_n (lv' := [(2, .int z16), (0, .ref (ad 5)), (1, .ref (Z.fa gf))]) hx hb dX5_getLate_32 rfl hl (by decide) rfl (fun ls hl => ?_)
    refine lv_aload_n hx hb dX5_getLate_33 rfl (lv_at hl 1 rfl) ?_
    refine lv_iload_n hx hb dX5_getLate_34 rfl (lv_at hl 0 rfl) ?_
    refine lv_aload_n hx hb dX5_getLate_35 rfl (lv_at hl 2 rfl) ?_
    refine va_getN (D := D) (ci := 4) (v := .int (V 72 gf)) (fs := (xfFrame V gf)) (C := RX4) (T := TX4) (N := 19) hx hb hg inX4 hown hK hP (336 + gf) (xgFrame hgf) rfl 5 (by decide) (hnw.use 1194 n1194 rfl) (fun _ h9 => h9) rfl dX5_getLate_36 ?_
    have r19 : 0 ≤ ((V 72 gf)).toInt ∧ ((V 72 gf)).toInt ≤ 39 := hMV 72 gf
    refine lv_aload_n hx hb dX5_getLate_39 rfl (lv_at hl 2 rfl) ?_
    refine va_getN (D := D) (ci := 4) (v := .int (V 69 gf)) (fs := (xfFrame V gf)) (C := RX4) (T := TX4) (N := 19) hx hb hg inX4 hown hK hP (336 + gf) (xgFrame hgf) rfl 2 (by decide) (hnw.use 1191 n1191 rfl) (fun _ h9 => h9) rfl dX5_getLate_40 ?_
    refine lv_iconst (v := 1) hx hb dX5_getLate_43 (by decide) ?_
    refine lv_iadd hx hb dX5_getLate_44 ?_
    have r20 := i_full (V 69 gf)
    refine lv_topi (fun z21 ez21 => ?_)
    have hz21 : z21.toInt = ((V 69 gf)).toInt + 1 := i_add ez21 rfl (by decide) (by (first | exact om_8b75a7fb4f8e f14 r20.1 | omega))
    have mt22 : MTr V Z b := MO.mtr mo (by (first | exact om_c09d41618ed8 hgf | omega)) (by (first | exact om_6815fc1b8223 gd | omega))
    refine W.know (fun k24 k25 => ?_)
    obtain ⟨Hk23, hHk23⟩ : ∃ z, z = H := ⟨_, rfl⟩
    have k24 : Hk23.size ≤ s.heap.size + (zcc Z - zcc Z) := by rw [hHk23]; exact k24
    have k25 : tot Hk23 ≤ tot s.heap + (zss Z - zss Z) := by rw [hHk23]; exact k25
    refine gZ_void (gA_runV (As := [.int z16, .int (V 72 gf), .int z21]) (rest := []) (ci := 5) (q0 := 5) hx hb hml hown hg hP hD hK hS hA hnw hgk (x_pushRoot l D ks H.size ad kk V L Z z16 (V 72 gf) z21 (b) hMV (by (first | exact om_b5ea211f5a81 rgz16.1 rgz16.2 | omega)) (by (first | exact om_13ba01c174fe r19.1 r19.2 | omega)) (show b < 2 from by (first | exact om_f940a4667dd6 hb2 | omega)) mt22) w1453 w1177 w1178 w171 w1179 rfl xgMachine hdV_yX5_pushRoot ⟨Nat.le_of_ble_eq_true rfl, Nat.le_of_ble_eq_true rfl⟩ rfl hl.1 rfl (Nat.le_of_ble_eq_true rfl) dX5_getLate_45 ⟨z1 zoZ.1, z1 zoZ.2.1⟩) hD hS hA (fun u27 H locs w28 hP hD hK hS y29 y30 => ?_)
    obtain ⟨V31, L32, Z33⟩ := u27
    obtain ⟨hMV31, ajV31, axL32, zlZ33, t35⟩ := w28
    have axL32 : L = L32 := Eq.symm axL32
    subst axL32
    have hP : va_P D vwCl (xw ad kk V31 L Z33) H := hP
    have hD : va_D A (xw ad kk V31 L Z33) := hD
    have hK : va_K D vwCl (xty kk Z33) s := hK
    have hMV31 : rgd bX V31 := hMV31
    have ajV31 : agr [(5, 6), (5, 9)] [67, 68, 69, 70, 71, 72, 73, 74, 75, 76, 77, 78, 79, 80, 81, 82, 83, 84, 85] V V31 := ajV31
    have agV31 : agr [(5, 6), (5, 9), (5, 11), (5, 12)] [67, 68, 69, 70, 71, 72, 73, 74, 75, 76, 77, 78, 79, 80, 81, 82, 83, 84, 85] V V31 := agV.tr ajV31 (by decide) (by decide)
    have zlZ33 : ZL Z Z33 := zlZ33
    have zoZ33 : ZL Z Z33 := ZL.tr zoZ zlZ33
    have ziZ33 := zlZ33.1
    have zjZ33 := zlZ33.2.1
    have zkZ33 := zlZ33.2.2.1
    have zmZ33 := zoZ33.1
    have znZ33 := zoZ33.2.1
    have zpZ_Z33 := zoZ.1
    have zqZ_Z33 := zoZ.2.1
    have y29 : H.size ≤ Hk23.size + (zcc Z - zcc Z33) := by rw [hHk23]; exact y29
    have y30 : tot H ≤ tot Hk23 + (zss Z - zss Z33) := by rw [hHk23]; exact y30
    refine W.tight (k := zcc Z - zcc Z33) (n := zss Z - zss Z33) (by first | exact tg9 y29 k24 zlZ33.1 zoZ.1 | omega) (by first | exact tg9 y30 k25 zlZ33.2.1 zoZ.2.1 | omega) ?_
    have hl : lv_has ls 3 [(2, .int z16), (0, .ref (ad 5)), (1, .ref (Z33.fa gf))] := by rw [zlZ33.2.2.2.2 gf hgf]; exact hl
    have t35 : MJ V31 Z33 b := t35
    refine W.know (fun kr1 kr2 => ?_)
    refine W.widen (k := zcc Z) (n := zss Z) (Nat.sub_le _ _) (Nat.sub_le _ _) ?_
    exact W.vret hx hb hr (fun t ht hW => ⟨⟨(V31, L, Z33), rfl, ⟨hMV31, agV31, rfl, zoZ33, t35⟩, ⟨by rw [ht]; exact hP, va_K.moved hW.alike hK, hD⟩, by rw [ht]; exact kr1, by rw [ht]; exact kr2⟩, hS.F ht⟩) hS.2.2 dX5_getLate_48
  · skip
    have f36 : 10 ≤ ((V 69 gf)).toInt := b_nlt rfl (by decide) c13
    refine lv_aload_n hx hb dX5_getLate_9 rfl (lv_at hl 0 rfl) ?_
    refine lv_iconst (v := 0) hx hb dX5_getLate_10 (by decide) ?_
    refine lv_bipush (v := 13) hx hb dX5_getLate_11 (by decide) ?_
    have r37 : Int32.toInt 0 = 0 := by decide
    have r38 : Int32.toInt 13 = 13 := by decide
    refine gA_void (gA_runV (As := [.int 0, .int 13]) (rest := []) (ci := 5) (q0 := 5) hx hb hml hown hg hP hD hK hS hA hnw hgk (x_failWith l D ks H.size ad kk V L Z 0 13 hMV ) w1261 w1263 w46 w171 w1264 rfl xgMachine hdV_yX5_failWith ⟨Nat.le_of_ble_eq_true rfl, Nat.le_of_ble_eq_true rfl⟩ rfl hl.1 rfl (Nat.le_of_ble_eq_true rfl) dX5_getLate_13 ⟨z0, z0⟩) hP hD hK hS hA (fun u40 H locs w41 hP hD hK hS => ?_)
    obtain ⟨V43, L44⟩ := u40
    obtain ⟨hMV43, ajV43, axL44, t42⟩ := w41
    have axL44 : L = L44 := Eq.symm axL44
    subst axL44
    have hP : va_P D vwCl (xw ad kk V43 L Z) H := hP
    have hD : va_D A (xw ad kk V43 L Z) := hD
    have hMV43 : rgd bX V43 := hMV43
    have ajV43 : agr [(5, 9), (5, 11), (5, 12)] [] V V43 := ajV43
    have agV43 : agr [(5, 6), (5, 9), (5, 11), (5, 12)] [67, 68, 69, 70, 71, 72, 73, 74, 75, 76, 77, 78, 79, 80, 81, 82, 83, 84, 85] V V43 := agV.tr ajV43 (by decide) (by decide)
    have t42 : (V43 5 9).toInt = 2 := t42
    have r45 : 0 ≤ ((V43 5 9)).toInt ∧ ((V43 5 9)).toInt ≤ 3 := hMV43 5 9
    have me46 : ME V V43 gf := (ME.tr ME.rf (ME.ag ajV43 (by decide)))
    have pq47 : (V43 67 gf).toInt = ((V 67 gf)).toInt := congrArg Int32.toInt (ajV43 67 gf rfl)
    have pq48 : (V43 68 gf).toInt = ((V 68 gf)).toInt := congrArg Int32.toInt (ajV43 68 gf rfl)
    have pq49 : (V43 70 gf).toInt = ((V 70 gf)).toInt := congrArg Int32.toInt (ajV43 70 gf rfl)
    have pq50 : (V43 71 gf).toInt = ((V 71 gf)).toInt := congrArg Int32.toInt (ajV43 71 gf rfl)
    have pq51 : (V43 75 gf).toInt = ((V 75 gf)).toInt := congrArg Int32.toInt (ajV43 75 gf rfl)
    have pq52 : (V43 76 gf).toInt = ((V 76 gf)).toInt := congrArg Int32.toInt (ajV43 76 gf rfl)
    have pq53 : (V43 80 gf).toInt = ((V 80 gf)).toInt := congrArg Int32.toInt (ajV43 80 gf rfl)
    have pq54 : (V43 84 gf).toInt = ((V 84 gf)).toInt := congrArg Int32.toInt (ajV43 84 gf rfl)
    have pq55 : (V43 5 6).toInt = ((V 5 6)).toInt := congrArg Int32.toInt (ajV43 5 6 rfl)
    have pq56 : (V43 5 8).toInt = ((V 5 8)).toInt := congrArg Int32.toInt (ajV43 5 8 rfl)
    have pq57 : (V43 3 13).toInt = ((V 3 13)).toInt := congrArg Int32.toInt (ajV43 3 13 rfl)
    have pq58 : (V43 43 (5 * b + 2)).toInt = ((V 43 (5 * b + 2))).toInt := congrArg Int32.toInt (ajV43 43 (5 * b + 2) rfl)
    have pq59 : (V43 42 b).toInt = ((V 42 b)).toInt := congrArg Int32.toInt (ajV43 42 b rfl)
    have pq60 : (V43 41 b).toInt = ((V 41 b)).toInt := congrArg Int32.toInt (ajV43 41 b rfl)
    have af62 : (V43 42 b).toInt ≤ (V43 84 gf).toInt ∨ (bdp V43 b (V43 84 gf).toInt.toNat).1 = true := by rw [(ajV43 84 gf rfl), me46.1.bd, me46.1 42 b (by decide) (by decide)]; exact ft
    have mo61 : MO V43 Z b gf True (QN V43 b) (QN V43 b) := MO.ch mo me46 (ajV43 67 gf rfl) (ajV43 80 gf rfl) (fun _ => Or.inl (by omega)) (fun x h => FK.k4 (by omega) (by omega) (by omega) af62 (by omega) (fun _ z => absurd z.1 (by omega)))
    have rp63 : MJ V43 Z b := MO.mj mo61 (by (first | exact om_c09d41618ed8 hgf | omega)) (by (first | exact om_82fa09255765 gd pq55 | omega)) id id Or.inr
    refine W.know (fun kr1 kr2 => ?_)
    refine W.widen (k := zcc Z) (n := zss Z) (Nat.sub_le _ _) (Nat.sub_le _ _) ?_
    exact W.vret hx hb hr (fun t ht hW => ⟨⟨(V43, L, Z), rfl, ⟨hMV43, agV43, rfl, zoZ, rp63⟩, ⟨by rw [ht]; exact hP, va_K.moved hW.alike hK, hD⟩, by rw [ht]; exact kr1, by rw [ht]; exact kr2⟩, hS.F ht⟩) hS.2.2 dX5_getLate_16
abbrev r_x_callNeed (Z : XZ) : Room := { frames := 5, cells := zcc Z, slots := zss Z, locals := 112 }
abbrev q_x_callNeed (D : va_G) (ks : KS) (ad : Nat → Nat) (kk : Nat → ClassId) (V : Vf) (L : Lf) (Z : XZ) (b : Nat) (gf : Nat) (A : Nat → Prop) : Array Value → State → Outcome → State → Prop := qZv D (fun (u : Vf × Lf × XZ) => rgd bX u.1 ∧ agr [(5, 6), (5, 9), (5, 10), (5, 11), (5, 12)] [67, 68, 69, 70, 71, 72, 73, 74, 75, 76, 77, 78, 79, 80, 81, 82, 83, 84, 85] V u.1 ∧ u.2.1 = L ∧ ZL Z u.2.2 ∧ (MJ u.1 u.2.2 b)) (fun u => xw ad kk u.1 u.2.1 u.2.2) (fun u => xty kk u.2.2) (fun u => zcc Z - zcc u.2.2) (fun u => zss Z - zss u.2.2) A
set_option maxHeartbeats 4000000 in
set_option maxRecDepth 100000 in
theorem x_callNeed (l : Launch) (D : va_G) (ks : KS) (sz : Nat) (ad : Nat → Nat) (kk : Nat → ClassId) (V : Vf) (L : Lf) (Z : XZ) (b : Nat) (gf : Nat) (hMV : rgd bX V) (hb2 : b < 2) (hgf : gf < Z.nf) (mo : MO V Z b gf True (QN V b) (QN V b)) (gd : (gf : Int) + 1 = (V 5 6).toInt) (gk : (V 67 gf).toInt = 4) (gph : (V 68 gf).toInt = 6)  : Met l yX5_callNeed (Cond.code yX5_callNeed cX5_callNeed 4 none :: GW) (r_x_callNeed Z) (va_Pc [.ref (ad 5), .ref (Z.fa gf)] (gp D ks (xw ad kk V L Z) (xty kk Z) sz)) (q_x_callNeed D ks ad kk V L Z  b gf (va_A (xw ad kk V L Z) sz)) (zcc Z) (zss Z) (va_A (xw ad kk V L Z) sz) := by
  refine g_met (q_x_callNeed D ks ad kk V L Z  b gf) (by decide) (Nat.le_of_ble_eq_true rfl) ?_
  intro p e s m below meth c A ls H locs hx hb hr hml hown hg hlocks hin hnw hgk hP hK hD hS hA hl
  have hown : s.vm.findClass RX5 = some m.cls := hown
  have hl : lv_has ls 4 [(0, .ref (ad 5)), (1, .ref (Z.fa gf))] := hl
  have hP : va_P D vwCl (xw ad kk V L Z) H := hP
  have hD : va_D A (xw ad kk V L Z) := hD
  have hK : va_K D vwCl (xty kk Z) s := hK
  have agV : agr [(5, 6), (5, 9), (5, 10), (5, 11), (5, 12)] [67, 68, 69, 70, 71, 72, 73, 74, 75, 76, 77, 78, 79, 80, 81, 82, 83, 84, 85] V V := agr.rf
  have zoZ : ZL Z Z := ZL.rf
  refine W.know (fun ka kb => ?_)
  refine W.tight (k := zcc Z - zcc Z) (n := zss Z - zss Z) (by omega) (by omega) ?_
  have r1 : 0 ≤ ((V 5 6)).toInt ∧ ((V 5 6)).toInt ≤ 400 := hMV 5 6
  have kdp := i_clamp (x := V 5 6) rfl (by (first | exact om_c66f1b494bd9 gd | omega))
  have hdn : (gf : Int) + 1 ≤ (Z.nf : Int) := by (first | exact om_29efded833ec hgf | omega)
  have mup := MO.up mo
  have msz := mup.1
  have mbk := mup.2.2.2.1
  obtain ⟨xk, fk⟩ := MO.fk mo
  have r2 : (-1) ≤ ((V 71 gf)).toInt ∧ ((V 71 gf)).toInt ≤ 23 := hMV 71 gf
  have r3 : 0 ≤ ((V 75 gf)).toInt ∧ ((V 75 gf)).toInt ≤ 12 := hMV 75 gf
  have r4 : 0 ≤ ((V 80 gf)).toInt ∧ ((V 80 gf)).toInt ≤ 300 := hMV 80 gf
  have r5 : 0 ≤ ((V 84 gf)).toInt ∧ ((V 84 gf)).toInt ≤ 2147483647 := hMV 84 gf
  have r6 : 0 ≤ ((V 5 8)).toInt ∧ ((V 5 8)).toInt ≤ 300 := hMV 5 8
  have r7 : 0 ≤ ((V 5 9)).toInt ∧ ((V 5 9)).toInt ≤ 3 := hMV 5 9
  have r8 : 0 ≤ ((V 3 13)).toInt ∧ ((V 3 13)).toInt ≤ 300 := hMV 3 13
  have r9 : 0 ≤ ((V 43 (5 * b + 2))).toInt ∧ ((V 43 (5 * b + 2))).toInt ≤ ((xcap (5 * b + 2) : Nat) : Int) := hMV 43 (5 * b + 2)
  have r10 : xcap (5 * b + 2) = 24 := xcap_2
  have r11 : 0 ≤ ((V 41 b)).toInt ∧ ((V 41 b)).toInt ≤ 12 := hMV 41 b
  have r12 : 0 ≤ ((V 42 b)).toInt ∧ ((V 42 b)).toInt ≤ 8200 := hMV 42 b
  have fc := fk.1 (by omega)
  have fo := fk.2.1 (by omega) (by omega)
  have ft := fk.2.2.1 (by omega)
  have fq := fk.2.2.2.1 (by omega)
  have fq7 := fq (by omega)
  refine lv_aload_n hx hb dX5_callNeed_0 rfl (lv_at hl 0 rfl) ?_
  refine va_get (D := D) (ci := 5) (v := .ref (ad (38 + Int32.toNatClampNeg (V 5 5)))) (fs := (xfMachine ad V L Z)) (C := RX5) (T := TX5) (N := 15) hx hb hg inX5 hown hK hP 5 xgMachine rfl 5 (by decide) (hg _ w672) (fun _ h9 => h9) rfl dX5_callNeed_1 ?_
  have r13 : 0 ≤ ((V 5 5)).toInt ∧ ((V 5 5)).toInt ≤ 1 := hMV 5 5
  refine g_topv (v := .ref (ad (38 + b))) (rfP (by omega)) ?_
  refine va_getN (D := D) (ci := 0) (v := .ref (ad (64 + b))) (fs := (xfBook ad V b)) (C := RX0) (T := TX0) (N := 13) hx hb hg inX0 hown hK hP (38 + b) (xgBook hb2) rfl 7 (by decide) (hnw.use 618 n618 rfl) (fun _ h9 => h9) rfl dX5_callNeed_4 ?_
  refine lv_aload_n hx hb dX5_callNeed_7 rfl (lv_at hl 1 rfl) ?_
  refine va_getN (D := D) (ci := 4) (v := .int (V 71 gf)) (fs := (xfFrame V gf)) (C := RX4) (T := TX4) (N := 19) hx hb hg inX4 hown hK hP (336 + gf) (xgFrame hgf) rfl 4 (by decide) (hnw.use 1193 n1193 rfl) (fun _ h9 => h9) rfl dX5_callNeed_8 ?_
  have il14 : b < 2 := by (first | exact om_f940a4667dd6 hb2 | omega)
  refine va_aldq (D := D) (i := (V 71 gf)) hx hb hK hP (64 + b) (57 + b) (xgcomps il14) (xtcomps il14) (i_in (a := ((V 71 gf)).toInt) rfl (by omega)) dX5_callNeed_11 ?_
  have kc15 := i_clamp (x := (V 71 gf)) rfl (by omega)
  refine g_topv (v := .ref (ad (72 + (24 * b + (Int32.toNatClampNeg (V 71 gf)))))) (congrArg va_rf (if_pos (by omega))) ?_
  have il16 : (24 * b + (Int32.toNatClampNeg (V 71 gf))) < 48 := by (first | exact om_31a61188bc78 hb2 r2.2 kc15 | omega)
  refine va_getN (D := D) (ci := 3) (v := .ref (ad (216 + (24 * b + (Int32.toNatClampNeg (V 71 gf)))))) (fs := (xfComp ad V (24 * b + (Int32.toNatClampNeg (V 71 gf))))) (C := RX3) (T := TX3) (N := 13) hx hb hg inX3 hown hK hP (72 + (24 * b + (Int32.toNatClampNeg (V 71 gf)))) (xgComp il16) rfl 2 (by decide) (hnw.use 506 n506 rfl) (fun _ h9 => h9) rfl dX5_callNeed_12 ?_
  refine lv_aload_n hx hb dX5_callNeed_15 rfl (lv_at hl 1 rfl) ?_
  refine va_getN (D := D) (ci := 4) (v := .int (V 75 gf)) (fs := (xfFrame V gf)) (C := RX4) (T := TX4) (N := 19) hx hb hg inX4 hown hK hP (336 + gf) (xgFrame hgf) rfl 8 (by decide) (hnw.use 1197 n1197 rfl) (fun _ h9 => h9) rfl dX5_callNeed_16 ?_
  have il17 : (24 * b + (Int32.toNatClampNeg (V 71 gf))) < 48 := by (first | exact om_31a61188bc78 hb2 r2.2 kc15 | omega)
  refine va_iald (D := D) (i := (V 75 gf)) hx hb hK hP (216 + (24 * b + (Int32.toNatClampNeg (V 71 gf)))) (209 + (24 * b + (Int32.toNatClampNeg (V 71 gf)))) (xgneedKinds il17) (xtneedKinds il17) (i_in (a := ((V 75 gf)).toInt) rfl (by omega)) dX5_callNeed_19 ?_
  have kc18 := i_clamp (x := (V 75 gf)) rfl (by (first | exact om_eafa9039069c r3.1 | omega))
  refine g_top (v := V 60 (8 * (24 * b + (Int32.toNatClampNeg (V 71 gf))) + (Int32.toNatClampNeg (V 75 gf)))) (if_pos (by omega)) ?_
  refine lv_istore_n (lv' := [(2, .int (V 60 (8 * (24 * b + (Int32.toNatClampNeg (V 71 gf))) + (Int32.toNatClampNeg (V 75 gf))))), (0, .ref (ad 5)), (1, .ref (Z.fa gf))]) hx hb dX5_callNeed_20 rfl hl (by decide) rfl (fun ls hl => ?_)
  refine lv_aload_n hx hb dX5_callNeed_21 rfl (lv_at hl 1 rfl) ?_
  refine va_get (D := D) (ci := 5) (v := .ref (ad 3)) (fs := (xfMachine ad V L Z)) (C := RX5) (T := TX5) (N := 15) hx hb hg inX5 hown hK hP 5 xgMachine rfl 0 (by decide) (hg _ w667) (fun _ h9 => h9) rfl dX5_callNeed_22 ?_
  refine lv_aload_n hx hb dX5_callNeed_25 rfl (lv_at hl 2 rfl) ?_
  refine va_getN (D := D) (ci := 4) (v := .int (V 70 gf)) (fs := (xfFrame V gf)) (C := RX4) (T := TX4) (N := 19) hx hb hg inX4 hown hK hP (336 + gf) (xgFrame hgf) rfl 3 (by decide) (hnw.use 1192 n1192 rfl) (fun _ h9 => h9) rfl dX5_callNeed_26 ?_
  refine lv_aload_n hx hb dX5_callNeed_29 rfl (lv_at hl 2 rfl) ?_
  refine va_getN (D := D) (ci := 4) (v := .int (V 75 gf)) (fs := (xfFrame V gf)) (C := RX4) (T := TX4) (N := 19) hx hb hg inX4 hown hK hP (336 + gf) (xgFrame hgf) rfl 8 (by decide) (hnw.use 1197 n1197 rfl) (fun _ h9 => h9) rfl dX5_callNeed_30 ?_
  refine lv_iconst (v := 0) hx hb dX5_callNeed_33 (by decide) ?_
  have r19 : Int32.toInt 0 = 0 := by decide
  refine gA_int (gA_runV (As := [.int (V 70 gf), .int (V 75 gf), .int 0]) (rest := []) (ci := 8) (q0 := 3) hx hb hml hown hg hP hD hK hS hA hnw hgk (x_joinedTo l D ks H.size ad kk V L Z (V 70 gf) (V 75 gf) 0 hMV mup.2.2.2.2.1) w1439 w1440 w1441 w164 w1442 rfl xgStock hdV_yX8_joinedTo ⟨Nat.le_of_ble_eq_true rfl, Nat.le_of_ble_eq_true rfl⟩ rfl hl.1 rfl (Nat.le_of_ble_eq_true rfl) dX5_callNeed_34 ⟨z0, z0⟩) hP hD hK hS hA (fun z20 u21 H locs w22 hP hD hK hS => ?_)
  refine lv_istore_n (lv' := [(3, .int z20), (2, .int (V 60 (8 * (24 * b + (Int32.toNatClampNeg (V 71 gf))) + (Int32.toNatClampNeg (V 75 gf))))), (0, .ref (ad 5)), (1, .ref (Z.fa gf))]) hx hb dX5_callNeed_37 rfl hl (by decide) rfl (fun ls hl => ?_)
  refine lv_iload_n hx hb dX5_callNeed_38 rfl (lv_at hl 1 rfl) ?_
  refine lv_iconst (v := 2) hx hb dX5_callNeed_39 (by decide) ?_
  refine lv_icmp_ne (tgt := 67) hx hb dX5_callNeed_40 (by decide) (fun c23 => ?_) (fun c23 => ?_)
  · skip
    have f24 : ((V 60 (8 * (24 * b + (Int32.toNatClampNeg (V 71 gf))) + (Int32.toNatClampNeg (V 75 gf))))).toInt ≠ 2 := b_neq rfl (by decide) c23
    refine lv_iload_n hx hb dX5_callNeed_67 rfl (lv_at hl 1 rfl) ?_
    refine lv_iconst (v := 1) hx hb dX5_callNeed_68 (by decide) ?_
    refine lv_icmp_ne (tgt := 91) hx hb dX5_callNeed_69 (by decide) (fun c25 => ?_) (fun c25 => ?_)
    · skip
      have f26 : ((V 60 (8 * (24 * b + (Int32.toNatClampNeg (V 71 gf))) + (Int32.toNatClampNeg (V 75 gf))))).toInt ≠ 1 := b_neq rfl (by decide) c25
      refine lv_aload_n hx hb dX5_callNeed_91 rfl (lv_at hl 3 rfl) ?_
      refine lv_iconst (v := 1) hx hb dX5_callNeed_92 (by decide) ?_
      refine va_putN (D := D) (ci := 4) (v := .int 1) (ty := tyX4 1) (fs := (xfFrame V gf)) (C := RX4) (T := TX4) (N := 19) hx hb hg inX4 tyX4 tyX4_ok nmX4 hown hK hP hD hS (336 + gf) (xgFrame hgf) rfl 1 (by decide) (hnw.use 1190 n1190 rfl) (fun _ h9 => h9) rfl (tyX4_ok 1 (by decide)) rfl rfl (Nat.le_of_ble_eq_true rfl) dX5_callNeed_93 (fun H locs hP hD hS => ?_)
      obtain ⟨V27, hV27⟩ : ∃ z, z = up2 V 68 gf 1 := ⟨_, rfl⟩
      have ew28 : (xw ad kk V L Z).set (336 + gf) ((Z.fa gf), .inr (4, (xfFrame V gf).set 1 (.int 1))) = xw ad kk V27 L Z := by rw [hV27]; exact xpFrame_phase hgf
      have hP : va_P D vwCl (xw ad kk V27 L Z) H := by rw [← ew28]; exact hP
      have hD : va_D A (xw ad kk V27 L Z) := by rw [← ew28]; exact hD
      have hMV27 : rgd bX V27 := hMV.put hV27 (i_full _)
      have agV27 : agr [(5, 6), (5, 9), (5, 10), (5, 11), (5, 12)] [67, 68, 69, 70, 71, 72, 73, 74, 75, 76, 77, 78, 79, 80, 81, 82, 83, 84, 85] V V27 := agV.up hV27 rfl
      refine lv_aload_n hx hb dX5_callNeed_96 rfl (lv_at hl 2 rfl) ?_
      refine lv_iload_n hx hb dX5_callNeed_97 rfl (lv_at hl 0 rfl) ?_
      refine lv_aload_n hx hb dX5_callNeed_98 rfl (lv_at hl 3 rfl) ?_
      refine va_getN (D := D) (ci := 4) (v := .int (V27 72 gf)) (fs := (xfFrame V27 gf)) (C := RX4) (T := TX4) (N := 19) hx hb hg inX4 hown hK hP (336 + gf) (xgFrame hgf) rfl 5 (by decide) (hnw.use 1194 n1194 rfl) (fun _ h9 => h9) rfl dX5_callNeed_99 ?_
      refine g_top (v := (V 72 gf)) (up2_o hV27 (by decide)) ?_
      have r29 : 0 ≤ ((V 72 gf)).toInt ∧ ((V 72 gf)).toInt ≤ 39 := hMV 72 gf
      refine lv_aload_n hx hb dX5_callNeed_102 rfl (lv_at hl 3 rfl) ?_
      refine va_getN (D := D) (ci := 4) (v := .int (V27 77 gf)) (fs := (xfFrame V27 gf)) (C := RX4) (T := TX4) (N := 19) hx hb hg inX4 hown hK hP (336 + gf) (xgFrame hgf) rfl 10 (by decide) (hnw.use 1199 n1199 rfl) (fun _ h9 => h9) rfl dX5_callNeed_103 ?_
      refine g_top (v := (V 77 gf)) (up2_o hV27 (by decide)) ?_
      have r30 : 0 ≤ ((V 77 gf)).toInt ∧ ((V 77 gf)).toInt ≤ 19 := hMV 77 gf
      refine lv_aload_n hx hb dX5_callNeed_106 rfl (lv_at hl 3 rfl) ?_
      refine va_getN (D := D) (ci := 4) (v := .int (V27 78 gf)) (fs := (xfFrame V27 gf)) (C := RX4) (T := TX4) (N := 19) hx hb hg inX4 hown hK hP (336 + gf) (xgFrame hgf) rfl 11 (by decide) (hnw.use 1200 n1200 rfl) (fun _ h9 => h9) rfl dX5_callNeed_107 ?_
      refine g_top (v := (V 78 gf)) (up2_o hV27 (by decide)) ?_
      refine lv_aload_n hx hb dX5_callNeed_110 rfl (lv_at hl 3 rfl) ?_
      refine va_getN (D := D) (ci := 4) (v := .int (V27 69 gf)) (fs := (xfFrame V27 gf)) (C := RX4) (T := TX4) (N := 19) hx hb hg inX4 hown hK hP (336 + gf) (xgFrame hgf) rfl 2 (by decide) (hnw.use 1191 n1191 rfl) (fun _ h9 => h9) rfl dX5_callNeed_111 ?_
      refine g_top (v := (V 69 gf)) (up2_o hV27 (by decide)) ?_
      refine lv_iconst (v := 1) hx hb dX5_callNeed_114 (by decide) ?_
      refine lv_iadd hx hb dX5_callNeed_115 ?_
      have r31 := i_full (V 69 gf)
      refine lv_topi (fun z32 ez32 => ?_)
      have hz32 : Imp (-2147483648 ≤ ((V 69 gf)).toInt + 1 ∧ ((V 69 gf)).toInt + 1 ≤ 2147483647) (z32.toInt = ((V 69 gf)).toInt + 1) := Imp.mk (fun hp => i_add ez32 rfl (by decide) hp)
      have me33 : ME V V27 gf := (ME.up ME.rf hV27 (Or.inl ⟨by decide, by decide, Nat.le_refl _⟩))
      have pq34 : (V27 67 gf).toInt = ((V 67 gf)).toInt := congrArg Int32.toInt (up2_o hV27 (by decide))
      have pq35 : (V27 68 gf).toInt = 1 := (congrArg Int32.toInt (up2_s hV27)).trans (by decide)
      have pq36 : (V27 70 gf).toInt = ((V 70 gf)).toInt := congrArg Int32.toInt (up2_o hV27 (by decide))
      have pq37 : (V27 71 gf).toInt = ((V 71 gf)).toInt := congrArg Int32.toInt (up2_o hV27 (by decide))
      have pq38 : (V27 75 gf).toInt = ((V 75 gf)).toInt := congrArg Int32.toInt (up2_o hV27 (by decide))
      have pq39 : (V27 76 gf).toInt = ((V 76 gf)).toInt := congrArg Int32.toInt (up2_o hV27 (by decide))
      have pq40 : (V27 80 gf).toInt = ((V 80 gf)).toInt := congrArg Int32.toInt (up2_o hV27 (by decide))
      have pq41 : (V27 84 gf).toInt = ((V 84 gf)).toInt := congrArg Int32.toInt (up2_o hV27 (by decide))
      have pq42 : (V27 5 6).toInt = ((V 5 6)).toInt := congrArg Int32.toInt (up2_o hV27 (by decide))
      have pq43 : (V27 5 8).toInt = ((V 5 8)).toInt := congrArg Int32.toInt (up2_o hV27 (by decide))
      have pq44 : (V27 5 9).toInt = ((V 5 9)).toInt := congrArg Int32.toInt (up2_o hV27 (by decide))
      have pq45 : (V27 3 13).toInt = ((V 3 13)).toInt := congrArg Int32.toInt (up2_o hV27 (by decide))
      have pq46 : (V27 43 (5 * b + 2)).toInt = ((V 43 (5 * b + 2))).toInt := congrArg Int32.toInt (up2_o hV27 (by decide))
      have pq47 : (V27 42 b).toInt = ((V 42 b)).toInt := congrArg Int32.toInt (up2_o hV27 (by decide))
      have pq48 : (V27 41 b).toInt = ((V 41 b)).toInt := congrArg Int32.toInt (up2_o hV27 (by decide))
      have ep51 : V27 84 gf = (V 84 gf) := (up2_o hV27 (by decide))
      have af50 : (V27 42 b).toInt ≤ (V27 84 gf).toInt ∨ (bdp V27 b (V27 84 gf).toInt.toNat).1 = true := by rw [ep51, me33.1.bd, me33.1 42 b (by decide) (by decide)]; exact ft
      have mo49 : MO V27 Z b gf True True True := MO.ch mo me33 (up2_o hV27 (by decide)) (up2_o hV27 (by decide)) (fun _ => Or.inl (by omega)) (fun x h => FK.k4 (by first | omega | ((try (have i_hz32 := Imp.go hz32 (by omega))); omega)) (by first | omega | ((try (have i_hz32 := Imp.go hz32 (by omega))); omega)) (by first | omega | ((try (have i_hz32 := Imp.go hz32 (by omega))); omega)) af50 (by first | omega | ((try (have i_hz32 := Imp.go hz32 (by omega))); omega)) (fun hph => absurd hph (by omega)))
      have mt52 : MT V27 Z b := MO.mt mo49 (by (first | exact om_c09d41618ed8 hgf | omega)) (by (first | exact om_82fa09255765 gd pq42 | omega))
      refine W.know (fun k54 k55 => ?_)
      obtain ⟨Hk53, hHk53⟩ : ∃ z, z = H := ⟨_, rfl⟩
      have k54 : Hk53.size ≤ s.heap.size + (zcc Z - zcc Z) := by rw [hHk53]; exact k54
      have k55 : tot Hk53 ≤ tot s.heap + (zss Z - zss Z) := by rw [hHk53]; exact k55
      refine gZ_void (gA_runV (As := [.int z20, .int (V 72 gf), .int (V 77 gf), .int (V 78 gf), .int z32]) (rest := []) (ci := 5) (q0 := 5) hx hb hml hown hg hP hD hK hS hA hnw hgk (x_pushCall l D ks H.size ad kk V27 L Z z20 (V 72 gf) (V 77 gf) (V 78 gf) z32 (b) hMV27 (by first | exact om_13ba01c174fe r29.1 r29.2 | first | omega | ((try (have i_hz32 := Imp.go hz32 (by omega))); omega)) (by first | exact om_0916ac166aa8 r30.1 r30.2 | first | omega | ((try (have i_hz32 := Imp.go hz32 (by omega))); omega)) (show b < 2 from by first | exact om_f940a4667dd6 hb2 | first | omega | ((try (have i_hz32 := Imp.go hz32 (by omega))); omega)) mt52) w1454 w1455 w1456 w171 w1457 rfl xgMachine hdV_yX5_pushCall ⟨Nat.le_of_ble_eq_true rfl, Nat.le_of_ble_eq_true rfl⟩ rfl hl.1 rfl (Nat.le_of_ble_eq_true rfl) dX5_callNeed_116 ⟨z1 zoZ.1, z1 zoZ.2.1⟩) hD hS hA (fun u57 H locs w58 hP hD hK hS y59 y60 => ?_)
      obtain ⟨V61, L62, Z63⟩ := u57
      obtain ⟨hMV61, ajV61, axL62, zlZ63, t65⟩ := w58
      have axL62 : L = L62 := Eq.symm axL62
      subst axL62
      have hP : va_P D vwCl (xw ad kk V61 L Z63) H := hP
      have hD : va_D A (xw ad kk V61 L Z63) := hD
      have hK : va_K D vwCl (xty kk Z63) s := hK
      have hMV61 : rgd bX V61 := hMV61
      have ajV61 : agr [(5, 6), (5, 9)] [67, 68, 69, 70, 71, 72, 73, 74, 75, 76, 77, 78, 79, 80, 81, 82, 83, 84, 85] V27 V61 := ajV61
      have agV61 : agr [(5, 6), (5, 9), (5, 10), (5, 11), (5, 12)] [67, 68, 69, 70, 71, 72, 73, 74, 75, 76, 77, 78, 79, 80, 81, 82, 83, 84, 85] V V61 := agV27.tr ajV61 (by decide) (by decide)
      have zlZ63 : ZL Z Z63 := zlZ63
      have zoZ63 : ZL Z Z63 := ZL.tr zoZ zlZ63
      have ziZ63 := zlZ63.1
      have zjZ63 := zlZ63.2.1
      have zkZ63 := zlZ63.2.2.1
      have zmZ63 := zoZ63.1
      have znZ63 := zoZ63.2.1
      have zpZ_Z63 := zoZ.1
      have zqZ_Z63 := zoZ.2.1
      have y59 : H.size ≤ Hk53.size + (zcc Z - zcc Z63) := by rw [hHk53]; exact y59
      have y60 : tot H ≤ tot Hk53 + (zss Z - zss Z63) := by rw [hHk53]; exact y60
      refine W.tight (k := zcc Z - zcc Z63) (n := zss Z - zss Z63) (by first | exact tg9 y59 k54 zlZ63.1 zoZ.1 | omega) (by first | exact tg9 y60 k55 zlZ63.2.1 zoZ.2.1 | omega) ?_
      have hl : lv_has ls 4 [(3, .int z20), (2, .int (V 60 (8 * (24 * b + (Int32.toNatClampNeg (V 71 gf))) + (Int32.toNatClampNeg (V 75 gf))))), (0, .ref (ad 5)), (1, .ref (Z63.fa gf))] := by rw [zlZ63.2.2.2.2 gf hgf]; exact hl
      have t65 : MJ V61 Z63 b := t65
      refine W.know (fun kr1 kr2 => ?_)
      refine W.widen (k := zcc Z) (n := zss Z) (Nat.sub_le _ _) (Nat.sub_le _ _) ?_
      exact W.vret hx hb hr (fun t ht hW => ⟨⟨(V61, L, Z63), rfl, ⟨hMV61, agV61, rfl, zoZ63, t65⟩, ⟨by rw [ht]; exact hP, va_K.moved hW.alike hK, hD⟩, by rw [ht]; exact kr1, by rw [ht]; exact kr2⟩, hS.F ht⟩) hS.2.2 dX5_callNeed_119
    · skip
      have f66 : ((V 60 (8 * (24 * b + (Int32.toNatClampNeg (V 71 gf))) + (Int32.toNatClampNeg (V 75 gf))))).toInt = 1 := b_eq rfl (by decide) c25
      refine lv_iload_n hx hb dX5_callNeed_72 rfl (lv_at hl 0 rfl) ?_
      refine lv_iconst (v := (-1)) hx hb dX5_callNeed_73 (by decide) ?_
      refine lv_icmp_ne (tgt := 91) hx hb dX5_callNeed_74 (by decide) (fun c67 => ?_) (fun c67 => ?_)
      · skip
        have f68 : z20.toInt ≠ (-1) := b_neq rfl (by decide) c67
        refine lv_aload_n hx hb dX5_callNeed_91 rfl (lv_at hl 3 rfl) ?_
        refine lv_iconst (v := 1) hx hb dX5_callNeed_92 (by decide) ?_
        refine va_putN (D := D) (ci := 4) (v := .int 1) (ty := tyX4 1) (fs := (xfFrame V gf)) (C := RX4) (T := TX4) (N := 19) hx hb hg inX4 tyX4 tyX4_ok nmX4 hown hK hP hD hS (336 + gf) (xgFrame hgf) rfl 1 (by decide) (hnw.use 1190 n1190 rfl) (fun _ h9 => h9) rfl (tyX4_ok 1 (by decide)) rfl rfl (Nat.le_of_ble_eq_true rfl) dX5_callNeed_93 (fun H locs hP hD hS => ?_)
        obtain ⟨V69, hV69⟩ : ∃ z, z = up2 V 68 gf 1 := ⟨_, rfl⟩
        have ew70 : (xw ad kk V L Z).set (336 + gf) ((Z.fa gf), .inr (4, (xfFrame V gf).set 1 (.int 1))) = xw ad kk V69 L Z := by rw [hV69]; exact xpFrame_phase hgf
        have hP : va_P D vwCl (xw ad kk V69 L Z) H := by rw [← ew70]; exact hP
        have hD : va_D A (xw ad kk V69 L Z) := by rw [← ew70]; exact hD
        have hMV69 : rgd bX V69 := hMV.put hV69 (i_full _)
        have agV69 : agr [(5, 6), (5, 9), (5, 10), (5, 11), (5, 12)] [67, 68, 69, 70, 71, 72, 73, 74, 75, 76, 77, 78, 79, 80, 81, 82, 83, 84, 85] V V69 := agV.up hV69 rfl
        refine lv_aload_n hx hb dX5_callNeed_96 rfl (lv_at hl 2 rfl) ?_
        refine lv_iload_n hx hb dX5_callNeed_97 rfl (lv_at hl 0 rfl) ?_
        refine lv_aload_n hx hb dX5_callNeed_98 rfl (lv_at hl 3 rfl) ?_
        refine va_getN (D := D) (ci := 4) (v := .int (V69 72 gf)) (fs := (xfFrame V69 gf)) (C := RX4) (T := TX4) (N := 19) hx hb hg inX4 hown hK hP (336 + gf) (xgFrame hgf) rfl 5 (by decide) (hnw.use 1194 n1194 rfl) (fun _ h9 => h9) rfl dX5_callNeed_99 ?_
        refine g_top (v := (V 72 gf)) (up2_o hV69 (by decide)) ?_
        have r71 : 0 ≤ ((V 72 gf)).toInt ∧ ((V 72 gf)).toInt ≤ 39 := hMV 72 gf
        refine lv_aload_n hx hb dX5_callNeed_102 rfl (lv_at hl 3 rfl) ?_
        refine va_getN (D := D) (ci := 4) (v := .int (V69 77 gf)) (fs := (xfFrame V69 gf)) (C := RX4) (T := TX4) (N := 19) hx hb hg inX4 hown hK hP (336 + gf) (xgFrame hgf) rfl 10 (by decide) (hnw.use 1199 n1199 rfl) (fun _ h9 => h9) rfl dX5_callNeed_103 ?_
        refine g_top (v := (V 77 gf)) (up2_o hV69 (by decide)) ?_
        have r72 : 0 ≤ ((V 77 gf)).toInt ∧ ((V 77 gf)).toInt ≤ 19 := hMV 77 gf
        refine lv_aload_n hx hb dX5_callNeed_106 rfl (lv_at hl 3 rfl) ?_
        refine va_getN (D := D) (ci := 4) (v := .int (V69 78 gf)) (fs := (xfFrame V69 gf)) (C := RX4) (T := TX4) (N := 19) hx hb hg inX4 hown hK hP (336 + gf) (xgFrame hgf) rfl 11 (by decide) (hnw.use 1200 n1200 rfl) (fun _ h9 => h9) rfl dX5_callNeed_107 ?_
        refine g_top (v := (V 78 gf)) (up2_o hV69 (by decide)) ?_
        refine lv_aload_n hx hb dX5_callNeed_110 rfl (lv_at hl 3 rfl) ?_
        refine va_getN (D := D) (ci := 4) (v := .int (V69 69 gf)) (fs := (xfFrame V69 gf)) (C := RX4) (T := TX4) (N := 19) hx hb hg inX4 hown hK hP (336 + gf) (xgFrame hgf) rfl 2 (by decide) (hnw.use 1191 n1191 rfl) (fun _ h9 => h9) rfl dX5_callNeed_111 ?_
        refine g_top (v := (V 69 gf)) (up2_o hV69 (by decide)) ?_
        refine lv_iconst (v := 1) hx hb dX5_callNeed_114 (by decide) ?_
        refine lv_iadd hx hb dX5_callNeed_115 ?_
        have r73 := i_full (V 69 gf)
        refine lv_topi (fun z74 ez74 => ?_)
        have hz74 : Imp (-2147483648 ≤ ((V 69 gf)).toInt + 1 ∧ ((V 69 gf)).toInt + 1 ≤ 2147483647) (z74.toInt = ((V 69 gf)).toInt + 1) := Imp.mk (fun hp => i_add ez74 rfl (by decide) hp)
        have me75 : ME V V69 gf := (ME.up ME.rf hV69 (Or.inl ⟨by decide, by decide, Nat.le_refl _⟩))
        have pq76 : (V69 67 gf).toInt = ((V 67 gf)).toInt := congrArg Int32.toInt (up2_o hV69 (by decide))
        have pq77 : (V69 68 gf).toInt = 1 := (congrArg Int32.toInt (up2_s hV69)).trans (by decide)
        have pq78 : (V69 70 gf).toInt = ((V 70 gf)).toInt := congrArg Int32.toInt (up2_o hV69 (by decide))
        have pq79 : (V69 71 gf).toInt = ((V 71 gf)).toInt := congrArg Int32.toInt (up2_o hV69 (by decide))
        have pq80 : (V69 75 gf).toInt = ((V 75 gf)).toInt := congrArg Int32.toInt (up2_o hV69 (by decide))
        have pq81 : (V69 76 gf).toInt = ((V 76 gf)).toInt := congrArg Int32.toInt (up2_o hV69 (by decide))
        have pq82 : (V69 80 gf).toInt = ((V 80 gf)).toInt := congrArg Int32.toInt (up2_o hV69 (by decide))
        have pq83 : (V69 84 gf).toInt = ((V 84 gf)).toInt := congrArg Int32.toInt (up2_o hV69 (by decide))
        have pq84 : (V69 5 6).toInt = ((V 5 6)).toInt := congrArg Int32.toInt (up2_o hV69 (by decide))
        have pq85 : (V69 5 8).toInt = ((V 5 8)).toInt := congrArg Int32.toInt (up2_o hV69 (by decide))
        have pq86 : (V69 5 9).toInt = ((V 5 9)).toInt := congrArg Int32.toInt (up2_o hV69 (by decide))
        have pq87 : (V69 3 13).toInt = ((V 3 13)).toInt := congrArg Int32.toInt (up2_o hV69 (by decide))
        have pq88 : (V69 43 (5 * b + 2)).toInt = ((V 43 (5 * b + 2))).toInt := congrArg Int32.toInt (up2_o hV69 (by decide))
        have pq89 : (V69 42 b).toInt = ((V 42 b)).toInt := congrArg Int32.toInt (up2_o hV69 (by decide))
        have pq90 : (V69 41 b).toInt = ((V 41 b)).toInt := congrArg Int32.toInt (up2_o hV69 (by decide))
        have ep93 : V69 84 gf = (V 84 gf) := (up2_o hV69 (by decide))
        have af92 : (V69 42 b).toInt ≤ (V69 84 gf).toInt ∨ (bdp V69 b (V69 84 gf).toInt.toNat).1 = true := by rw [ep93, me75.1.bd, me75.1 42 b (by decide) (by decide)]; exact ft
        have mo91 : MO V69 Z b gf True True True := MO.ch mo me75 (up2_o hV69 (by decide)) (up2_o hV69 (by decide)) (fun _ => Or.inl (by omega)) (fun x h => FK.k4 (by first | omega | ((try (have i_hz74 := Imp.go hz74 (by omega))); omega)) (by first | omega | ((try (have i_hz74 := Imp.go hz74 (by omega))); omega)) (by first | omega | ((try (have i_hz74 := Imp.go hz74 (by omega))); omega)) af92 (by first | omega | ((try (have i_hz74 := Imp.go hz74 (by omega))); omega)) (fun hph => absurd hph (by omega)))
        have mt94 : MT V69 Z b := MO.mt mo91 (by (first | exact om_c09d41618ed8 hgf | omega)) (by (first | exact om_82fa09255765 gd pq84 | omega))
        refine W.know (fun k96 k97 => ?_)
        obtain ⟨Hk95, hHk95⟩ : ∃ z, z = H := ⟨_, rfl⟩
        have k96 : Hk95.size ≤ s.heap.size + (zcc Z - zcc Z) := by rw [hHk95]; exact k96
        have k97 : tot Hk95 ≤ tot s.heap + (zss Z - zss Z) := by rw [hHk95]; exact k97
        refine gZ_void (gA_runV (As := [.int z20, .int (V 72 gf), .int (V 77 gf), .int (V 78 gf), .int z74]) (rest := []) (ci := 5) (q0 := 5) hx hb hml hown hg hP hD hK hS hA hnw hgk (x_pushCall l D ks H.size ad kk V69 L Z z20 (V 72 gf) (V 77 gf) (V 78 gf) z74 (b) hMV69 (by first | exact om_13ba01c174fe r71.1 r71.2 | first | omega | ((try (have i_hz74 := Imp.go hz74 (by omega))); omega)) (by first | exact om_0916ac166aa8 r72.1 r72.2 | first | omega | ((try (have i_hz74 := Imp.go hz74 (by omega))); omega)) (show b < 2 from by first | exact om_f940a4667dd6 hb2 | first | omega | ((try (have i_hz74 := Imp.go hz74 (by omega))); omega)) mt94) w1454 w1455 w1456 w171 w1457 rfl xgMachine hdV_yX5_pushCall ⟨Nat.le_of_ble_eq_true rfl, Nat.le_of_ble_eq_true rfl⟩ rfl hl.1 rfl (Nat.le_of_ble_eq_true rfl) dX5_callNeed_116 ⟨z1 zoZ.1, z1 zoZ.2.1⟩) hD hS hA (fun u99 H locs w100 hP hD hK hS y101 y102 => ?_)
        obtain ⟨V103, L104, Z105⟩ := u99
        obtain ⟨hMV103, ajV103, axL104, zlZ105, t107⟩ := w100
        have axL104 : L = L104 := Eq.symm axL104
        subst axL104
        have hP : va_P D vwCl (xw ad kk V103 L Z105) H := hP
        have hD : va_D A (xw ad kk V103 L Z105) := hD
        have hK : va_K D vwCl (xty kk Z105) s := hK
        have hMV103 : rgd bX V103 := hMV103
        have ajV103 : agr [(5, 6), (5, 9)] [67, 68, 69, 70, 71, 72, 73, 74, 75, 76, 77, 78, 79, 80, 81, 82, 83, 84, 85] V69 V103 := ajV103
        have agV103 : agr [(5, 6), (5, 9), (5, 10), (5, 11), (5, 12)] [67, 68, 69, 70, 71, 72, 73, 74, 75, 76, 77, 78, 79, 80, 81, 82, 83, 84, 85] V V103 := agV69.tr ajV103 (by decide) (by decide)
        have zlZ105 : ZL Z Z105 := zlZ105
        have zoZ105 : ZL Z Z105 := ZL.tr zoZ zlZ105
        have ziZ105 := zlZ105.1
        have zjZ105 := zlZ105.2.1
        have zkZ105 := zlZ105.2.2.1
        have zmZ105 := zoZ105.1
        have znZ105 := zoZ105.2.1
        have zpZ_Z105 := zoZ.1
        have zqZ_Z105 := zoZ.2.1
        have y101 : H.size ≤ Hk95.size + (zcc Z - zcc Z105) := by rw [hHk95]; exact y101
        have y102 : tot H ≤ tot Hk95 + (zss Z - zss Z105) := by rw [hHk95]; exact y102
        refine W.tight (k := zcc Z - zcc Z105) (n := zss Z - zss Z105) (by first | exact tg9 y101 k96 zlZ105.1 zoZ.1 | omega) (by first | exact tg9 y102 k97 zlZ105.2.1 zoZ.2.1 | omega) ?_
        have hl : lv_has ls 4 [(3, .int z20), (2, .int (V 60 (8 * (24 * b + (Int32.toNatClampNeg (V 71 gf))) + (Int32.toNatClampNeg (V 75 gf))))), (0, .ref (ad 5)), (1, .ref (Z105.fa gf))] := by rw [zlZ105.2.2.2.2 gf hgf]; exact hl
        have t107 : MJ V103 Z105 b := t107
        refine W.know (fun kr1 kr2 => ?_)
        refine W.widen (k := zcc Z) (n := zss Z) (Nat.sub_le _ _) (Nat.sub_le _ _) ?_
        exact W.vret hx hb hr (fun t ht hW => ⟨⟨(V103, L, Z105), rfl, ⟨hMV103, agV103, rfl, zoZ105, t107⟩, ⟨by rw [ht]; exact hP, va_K.moved hW.alike hK, hD⟩, by rw [ht]; exact kr1, by rw [ht]; exact kr2⟩, hS.F ht⟩) hS.2.2 dX5_callNeed_119
      · skip
        have f108 : z20.toInt = (-1) := b_eq rfl (by decide) c67
        refine lv_aload_n hx hb dX5_callNeed_77 rfl (lv_at hl 3 rfl) ?_
        refine lv_bipush (v := 7) hx hb dX5_callNeed_78 (by decide) ?_
        refine va_putN (D := D) (ci := 4) (v := .int 7) (ty := tyX4 1) (fs := (xfFrame V gf)) (C := RX4) (T := TX4) (N := 19) hx hb hg inX4 tyX4 tyX4_ok nmX4 hown hK hP hD hS (336 + gf) (xgFrame hgf) rfl 1 (by decide) (hnw.use 1190 n1190 rfl) (fun _ h9 => h9) rfl (tyX4_ok 1 (by decide)) rfl rfl (Nat.le_of_ble_eq_true rfl) dX5_callNeed_80 (fun H locs hP hD hS => ?_)
        obtain ⟨V109, hV109⟩ : ∃ z, z = up2 V 68 gf 7 := ⟨_, rfl⟩
        have ew110 : (xw ad kk V L Z).set (336 + gf) ((Z.fa gf), .inr (4, (xfFrame V gf).set 1 (.int 7))) = xw ad kk V109 L Z := by rw [hV109]; exact xpFrame_phase hgf
        have hP : va_P D vwCl (xw ad kk V109 L Z) H := by rw [← ew110]; exact hP
        have hD : va_D A (xw ad kk V109 L Z) := by rw [← ew110]; exact hD
        have hMV109 : rgd bX V109 := hMV.put hV109 (i_full _)
        have agV109 : agr [(5, 6), (5, 9), (5, 10), (5, 11), (5, 12)] [67, 68, 69, 70, 71, 72, 73, 74, 75, 76, 77, 78, 79, 80, 81, 82, 83, 84, 85] V V109 := agV.up hV109 rfl
        refine lv_aload_n hx hb dX5_callNeed_83 rfl (lv_at hl 2 rfl) ?_
        refine lv_aload_n hx hb dX5_callNeed_84 rfl (lv_at hl 3 rfl) ?_
        have pq111 : (V109 5 6).toInt = ((V 5 6)).toInt := congrArg Int32.toInt (up2_o hV109 (by decide))
        have pq112 : (V109 67 gf).toInt = ((V 67 gf)).toInt := congrArg Int32.toInt (up2_o hV109 (by decide))
        have pq113 : (V109 68 gf).toInt = 7 := (congrArg Int32.toInt (up2_s hV109)).trans (by decide)
        have me114 : ME V V109 gf := (ME.up ME.rf hV109 (Or.inl ⟨by decide, by decide, Nat.le_refl _⟩))
        have pq115 : (V109 70 gf).toInt = ((V 70 gf)).toInt := congrArg Int32.toInt (up2_o hV109 (by decide))
        have pq116 : (V109 71 gf).toInt = ((V 71 gf)).toInt := congrArg Int32.toInt (up2_o hV109 (by decide))
        have pq117 : (V109 75 gf).toInt = ((V 75 gf)).toInt := congrArg Int32.toInt (up2_o hV109 (by decide))
        have pq118 : (V109 76 gf).toInt = ((V 76 gf)).toInt := congrArg Int32.toInt (up2_o hV109 (by decide))
        have pq119 : (V109 80 gf).toInt = ((V 80 gf)).toInt := congrArg Int32.toInt (up2_o hV109 (by decide))
        have pq120 : (V109 84 gf).toInt = ((V 84 gf)).toInt := congrArg Int32.toInt (up2_o hV109 (by decide))
        have pq121 : (V109 5 8).toInt = ((V 5 8)).toInt := congrArg Int32.toInt (up2_o hV109 (by decide))
        have pq122 : (V109 5 9).toInt = ((V 5 9)).toInt := congrArg Int32.toInt (up2_o hV109 (by decide))
        have pq123 : (V109 3 13).toInt = ((V 3 13)).toInt := congrArg Int32.toInt (up2_o hV109 (by decide))
        have pq124 : (V109 43 (5 * b + 2)).toInt = ((V 43 (5 * b + 2))).toInt := congrArg Int32.toInt (up2_o hV109 (by decide))
        have pq125 : (V109 42 b).toInt = ((V 42 b)).toInt := congrArg Int32.toInt (up2_o hV109 (by decide))
        have pq126 : (V109 41 b).toInt = ((V 41 b)).toInt := congrArg Int32.toInt (up2_o hV109 (by decide))
        have ep129 : V109 84 gf = (V 84 gf) := (up2_o hV109 (by decide))
        have af128 : (V109 42 b).toInt ≤ (V109 84 gf).toInt ∨ (bdp V109 b (V109 84 gf).toInt.toNat).1 = true := by rw [ep129, me114.1.bd, me114.1 42 b (by decide) (by decide)]; exact ft
        have mo127 : MO V109 Z b gf True False True := MO.ch mo me114 (up2_o hV109 (by decide)) (up2_o hV109 (by decide)) (fun _ => Or.inl (by omega)) (fun x h => FK.k4 (by omega) (by omega) (by omega) af128 (by omega) (fun _ z => z.elim))
        refine W.know (fun k131 k132 => ?_)
        obtain ⟨Hk130, hHk130⟩ : ∃ z, z = H := ⟨_, rfl⟩
        have k131 : Hk130.size ≤ s.heap.size + (zcc Z - zcc Z) := by rw [hHk130]; exact k131
        have k132 : tot Hk130 ≤ tot s.heap + (zss Z - zss Z) := by rw [hHk130]; exact k132
        refine gZ_void (gA_runV (As := [.ref (Z.fa gf)]) (rest := []) (ci := 5) (q0 := 5) hx hb hml hown hg hP hD hK hS hA hnw hgk (x_getLate l D ks H.size ad kk V109 L Z (b) (gf) hMV109 (show b < 2 from by (first | exact om_f940a4667dd6 hb2 | omega)) (show gf < Z.nf from by (first | exact om_8c5722e49bb1 hgf | omega)) mo127 (show (gf : Int) + 1 = (V109 5 6).toInt from by (first | exact om_6e5bbaaa0e03 gd pq111 | omega)) (show (V109 67 gf).toInt = 4 from by (first | exact om_ac6651f4ff0c gk pq112 | omega)) (show (V109 68 gf).toInt = 7 from by (first | exact om_ba873a6da76b pq113 | omega))) w1443 w1445 w69 w171 w1446 rfl xgMachine hdV_yX5_getLate ⟨Nat.le_of_ble_eq_true rfl, Nat.le_of_ble_eq_true rfl⟩ rfl hl.1 rfl (Nat.le_of_ble_eq_true rfl) dX5_callNeed_85 ⟨z1 zoZ.1, z1 zoZ.2.1⟩) hD hS hA (fun u134 H locs w135 hP hD hK hS y136 y137 => ?_)
        obtain ⟨V138, L139, Z140⟩ := u134
        obtain ⟨hMV138, ajV138, axL139, zlZ140, t142⟩ := w135
        have axL139 : L = L139 := Eq.symm axL139
        subst axL139
        have hP : va_P D vwCl (xw ad kk V138 L Z140) H := hP
        have hD : va_D A (xw ad kk V138 L Z140) := hD
        have hK : va_K D vwCl (xty kk Z140) s := hK
        have hMV138 : rgd bX V138 := hMV138
        have ajV138 : agr [(5, 6), (5, 9), (5, 11), (5, 12)] [67, 68, 69, 70, 71, 72, 73, 74, 75, 76, 77, 78, 79, 80, 81, 82, 83, 84, 85] V109 V138 := ajV138
        have agV138 : agr [(5, 6), (5, 9), (5, 10), (5, 11), (5, 12)] [67, 68, 69, 70, 71, 72, 73, 74, 75, 76, 77, 78, 79, 80, 81, 82, 83, 84, 85] V V138 := agV109.tr ajV138 (by decide) (by decide)
        have zlZ140 : ZL Z Z140 := zlZ140
        have zoZ140 : ZL Z Z140 := ZL.tr zoZ zlZ140
        have ziZ140 := zlZ140.1
        have zjZ140 := zlZ140.2.1
        have zkZ140 := zlZ140.2.2.1
        have zmZ140 := zoZ140.1
        have znZ140 := zoZ140.2.1
        have zpZ_Z140 := zoZ.1
        have zqZ_Z140 := zoZ.2.1
        have y136 : H.size ≤ Hk130.size + (zcc Z - zcc Z140) := by rw [hHk130]; exact y136
        have y137 : tot H ≤ tot Hk130 + (zss Z - zss Z140) := by rw [hHk130]; exact y137
        refine W.tight (k := zcc Z - zcc Z140) (n := zss Z - zss Z140) (by first | exact tg9 y136 k131 zlZ140.1 zoZ.1 | omega) (by first | exact tg9 y137 k132 zlZ140.2.1 zoZ.2.1 | omega) ?_
        have hl : lv_has ls 4 [(3, .int z20), (2, .int (V 60 (8 * (24 * b + (Int32.toNatClampNeg (V 71 gf))) + (Int32.toNatClampNeg (V 75 gf))))), (0, .ref (ad 5)), (1, .ref (Z140.fa gf))] := by rw [zlZ140.2.2.2.2 gf hgf]; exact hl
        have t142 : MJ V138 Z140 b := t142
        refine lv_goto (tgt := 119) hx hb dX5_callNeed_88 (by decide) ?_
        refine W.know (fun kr1 kr2 => ?_)
        refine W.widen (k := zcc Z) (n := zss Z) (Nat.sub_le _ _) (Nat.sub_le _ _) ?_
        exact W.vret hx hb hr (fun t ht hW => ⟨⟨(V138, L, Z140), rfl, ⟨hMV138, agV138, rfl, zoZ140, t142⟩, ⟨by rw [ht]; exact hP, va_K.moved hW.alike hK, hD⟩, by rw [ht]; exact kr1, by rw [ht]; exact kr2⟩, hS.F ht⟩) hS.2.2 dX5_callNeed_119
  · skip
    have f143 : ((V 60 (8 * (24 * b + (Int32.toNatClampNeg (V 71 gf))) + (Int32.toNatClampNeg (V 75 gf))))).toInt = 2 := b_eq rfl (by decide) c23
    refine lv_aload_n hx hb dX5_callNeed_43 rfl (lv_at hl 3 rfl) ?_
    refine lv_bipush (v := 8) hx hb dX5_callNeed_44 (by decide) ?_
    refine va_putN (D := D) (ci := 4) (v := .int 8) (ty := tyX4 1) (fs := (xfFrame V gf)) (C := RX4) (T := TX4) (N := 19) hx hb hg inX4 tyX4 tyX4_ok nmX4 hown hK hP hD hS (336 + gf) (xgFrame hgf) rfl 1 (by decide) (hnw.use 1190 n1190 rfl) (fun _ h9 => h9) rfl (tyX4_ok 1 (by decide)) rfl rfl (Nat.le_of_ble_eq_true rfl) dX5_callNeed_46 (fun H locs hP hD hS => ?_)
    obtain ⟨V144, hV144⟩ : ∃ z, z = up2 V 68 gf 8 := ⟨_, rfl⟩
    have ew145 : (xw ad kk V L Z).set (336 + gf) ((Z.fa gf), .inr (4, (xfFrame V gf).set 1 (.int 8))) = xw ad kk V144 L Z := by rw [hV144]; exact xpFrame_phase hgf
    have hP : va_P D vwCl (xw ad kk V144 L Z) H := by rw [← ew145]; exact hP
    have hD : va_D A (xw ad kk V144 L Z) := by rw [← ew145]; exact hD
    have hMV144 : rgd bX V144 := hMV.put hV144 (i_full _)
    have agV144 : agr [(5, 6), (5, 9), (5, 10), (5, 11), (5, 12)] [67, 68, 69, 70, 71, 72, 73, 74, 75, 76, 77, 78, 79, 80, 81, 82, 83, 84, 85] V V144 := agV.up hV144 rfl
    refine lv_aload_n hx hb dX5_callNeed_49 rfl (lv_at hl 3 rfl) ?_
    refine lv_iconst (v := 0) hx hb dX5_callNeed_50 (by decide) ?_
    refine va_putN (D := D) (ci := 4) (v := .int 0) (ty := tyX4 9) (fs := (xfFrame V144 gf)) (C := RX4) (T := TX4) (N := 19) hx hb hg inX4 tyX4 tyX4_ok nmX4 hown hK hP hD hS (336 + gf) (xgFrame hgf) rfl 9 (by decide) (hnw.use 1198 n1198 rfl) (fun _ h9 => h9) rfl (tyX4_ok 9 (by decide)) rfl rfl (Nat.le_of_ble_eq_true rfl) dX5_callNeed_51 (fun H locs hP hD hS => ?_)
    obtain ⟨V146, hV146⟩ : ∃ z, z = up2 V144 76 gf 0 := ⟨_, rfl⟩
    have ew147 : (xw ad kk V144 L Z).set (336 + gf) ((Z.fa gf), .inr (4, (xfFrame V144 gf).set 9 (.int 0))) = xw ad kk V146 L Z := by rw [hV146]; exact xpFrame_item hgf
    have hP : va_P D vwCl (xw ad kk V146 L Z) H := by rw [← ew147]; exact hP
    have hD : va_D A (xw ad kk V146 L Z) := by rw [← ew147]; exact hD
    have hMV146 : rgd bX V146 := hMV144.put hV146 (i_full _)
    have agV146 : agr [(5, 6), (5, 9), (5, 10), (5, 11), (5, 12)] [67, 68, 69, 70, 71, 72, 73, 74, 75, 76, 77, 78, 79, 80, 81, 82, 83, 84, 85] V V146 := agV144.up hV146 rfl
    refine lv_aload_n hx hb dX5_callNeed_54 rfl (lv_at hl 3 rfl) ?_
    refine lv_iconst (v := 0) hx hb dX5_callNeed_55 (by decide) ?_
    refine va_putN (D := D) (ci := 4) (v := .int 0) (ty := tyX4 12) (fs := (xfFrame V146 gf)) (C := RX4) (T := TX4) (N := 19) hx hb hg inX4 tyX4 tyX4_ok nmX4 hown hK hP hD hS (336 + gf) (xgFrame hgf) rfl 12 (by decide) (hnw.use 1201 n1201 rfl) (fun _ h9 => h9) rfl (tyX4_ok 12 (by decide)) rfl rfl (Nat.le_of_ble_eq_true rfl) dX5_callNeed_56 (fun H locs hP hD hS => ?_)
    obtain ⟨V148, hV148⟩ : ∃ z, z = up2 V146 79 gf 0 := ⟨_, rfl⟩
    have ew149 : (xw ad kk V146 L Z).set (336 + gf) ((Z.fa gf), .inr (4, (xfFrame V146 gf).set 12 (.int 0))) = xw ad kk V148 L Z := by rw [hV148]; exact xpFrame_sum hgf
    have hP : va_P D vwCl (xw ad kk V148 L Z) H := by rw [← ew149]; exact hP
    have hD : va_D A (xw ad kk V148 L Z) := by rw [← ew149]; exact hD
    have hMV148 : rgd bX V148 := hMV146.put hV148 (i_full _)
    have agV148 : agr [(5, 6), (5, 9), (5, 10), (5, 11), (5, 12)] [67, 68, 69, 70, 71, 72, 73, 74, 75, 76, 77, 78, 79, 80, 81, 82, 83, 84, 85] V V148 := agV146.up hV148 rfl
    refine lv_aload_n hx hb dX5_callNeed_59 rfl (lv_at hl 2 rfl) ?_
    refine lv_iconst (v := 0) hx hb dX5_callNeed_60 (by decide) ?_
    refine gA_void (gA_runV (As := [.int 0]) (rest := []) (ci := 5) (q0 := 5) hx hb hml hown hg hP hD hK hS hA hnw hgk (x_answerWith2 l D ks H.size ad kk V148 L Z 0 hMV148 ) w1304 w1306 w49 w171 w1307 rfl xgMachine hdV_yX5_answerWith ⟨Nat.le_of_ble_eq_true rfl, Nat.le_of_ble_eq_true rfl⟩ rfl hl.1 rfl (Nat.le_of_ble_eq_true rfl) dX5_callNeed_61 ⟨z0, z0⟩) hP hD hK hS hA (fun u151 H locs w152 hP hD hK hS => ?_)
    obtain ⟨V155, L156⟩ := u151
    obtain ⟨hMV155, ajV155, axL156, t153, t154⟩ := w152
    have axL156 : L = L156 := Eq.symm axL156
    subst axL156
    have hP : va_P D vwCl (xw ad kk V155 L Z) H := hP
    have hD : va_D A (xw ad kk V155 L Z) := hD
    have hMV155 : rgd bX V155 := hMV155
    have ajV155 : agr [(5, 9), (5, 10)] [] V148 V155 := ajV155
    have agV155 : agr [(5, 6), (5, 9), (5, 10), (5, 11), (5, 12)] [67, 68, 69, 70, 71, 72, 73, 74, 75, 76, 77, 78, 79, 80, 81, 82, 83, 84, 85] V V155 := agV148.tr ajV155 (by decide) (by decide)
    have t153 : (V155 5 9).toInt = 1 := t153
    have t154 : (V155 5 10).toInt = (Int32.toInt 0) := t154
    have r157 : 0 ≤ ((V155 5 9)).toInt ∧ ((V155 5 9)).toInt ≤ 3 := hMV155 5 9
    refine lv_goto (tgt := 119) hx hb dX5_callNeed_64 (by decide) ?_
    have me158 : ME V V155 gf := (ME.tr (ME.up (ME.up (ME.up ME.rf hV144 (Or.inl ⟨by decide, by decide, Nat.le_refl _⟩)) hV146 (Or.inl ⟨by decide, by decide, Nat.le_refl _⟩)) hV148 (Or.inl ⟨by decide, by decide, Nat.le_refl _⟩)) (ME.ag ajV155 (by decide)))
    have pq159 : (V155 67 gf).toInt = ((V 67 gf)).toInt := congrArg Int32.toInt ((ajV155 67 gf rfl).trans ((up2_o hV148 (by decide)).trans ((up2_o hV146 (by decide)).trans (up2_o hV144 (by decide)))))
    have pq160 : (V155 68 gf).toInt = 8 := (congrArg Int32.toInt ((ajV155 68 gf rfl).trans ((up2_o hV148 (by decide)).trans ((up2_o hV146 (by decide)).trans (up2_s hV144))))).trans (by decide)
    have pq161 : (V155 70 gf).toInt = ((V 70 gf)).toInt := congrArg Int32.toInt ((ajV155 70 gf rfl).trans ((up2_o hV148 (by decide)).trans ((up2_o hV146 (by decide)).trans (up2_o hV144 (by decide)))))
    have pq162 : (V155 71 gf).toInt = ((V 71 gf)).toInt := congrArg Int32.toInt ((ajV155 71 gf rfl).trans ((up2_o hV148 (by decide)).trans ((up2_o hV146 (by decide)).trans (up2_o hV144 (by decide)))))
    have pq163 : (V155 75 gf).toInt = ((V 75 gf)).toInt := congrArg Int32.toInt ((ajV155 75 gf rfl).trans ((up2_o hV148 (by decide)).trans ((up2_o hV146 (by decide)).trans (up2_o hV144 (by decide)))))
    have pq164 : (V155 76 gf).toInt = 0 := (congrArg Int32.toInt ((ajV155 76 gf rfl).trans ((up2_o hV148 (by decide)).trans (up2_s hV146)))).trans (by decide)
    have pq165 : (V155 80 gf).toInt = ((V 80 gf)).toInt := congrArg Int32.toInt ((ajV155 80 gf rfl).trans ((up2_o hV148 (by decide)).trans ((up2_o hV146 (by decide)).trans (up2_o hV144 (by decide)))))
    have pq166 : (V155 84 gf).toInt = ((V 84 gf)).toInt := congrArg Int32.toInt ((ajV155 84 gf rfl).trans ((up2_o hV148 (by decide)).trans ((up2_o hV146 (by decide)).trans (up2_o hV144 (by decide)))))
    have pq167 : (V155 5 6).toInt = ((V 5 6)).toInt := congrArg Int32.toInt ((ajV155 5 6 rfl).trans ((up2_o hV148 (by decide)).trans ((up2_o hV146 (by decide)).trans (up2_o hV144 (by decide)))))
    have pq168 : (V155 5 8).toInt = ((V 5 8)).toInt := congrArg Int32.toInt ((ajV155 5 8 rfl).trans ((up2_o hV148 (by decide)).trans ((up2_o hV146 (by decide)).trans (up2_o hV144 (by decide)))))
    have pq169 : (V155 3 13).toInt = ((V 3 13)).toInt := congrArg Int32.toInt ((ajV155 3 13 rfl).trans ((up2_o hV148 (by decide)).trans ((up2_o hV146 (by decide)).trans (up2_o hV144 (by decide)))))
    have pq170 : (V155 43 (5 * b + 2)).toInt = ((V 43 (5 * b + 2))).toInt := congrArg Int32.toInt ((ajV155 43 (5 * b + 2) rfl).trans ((up2_o hV148 (by decide)).trans ((up2_o hV146 (by decide)).trans (up2_o hV144 (by decide)))))
    have pq171 : (V155 42 b).toInt = ((V 42 b)).toInt := congrArg Int32.toInt ((ajV155 42 b rfl).trans ((up2_o hV148 (by decide)).trans ((up2_o hV146 (by decide)).trans (up2_o hV144 (by decide)))))
    have pq172 : (V155 41 b).toInt = ((V 41 b)).toInt := congrArg Int32.toInt ((ajV155 41 b rfl).trans ((up2_o hV148 (by decide)).trans ((up2_o hV146 (by decide)).trans (up2_o hV144 (by decide)))))
    have ep175 : V155 84 gf = (V 84 gf) := ((ajV155 84 gf rfl).trans ((up2_o hV148 (by decide)).trans ((up2_o hV146 (by decide)).trans (up2_o hV144 (by decide)))))
    have af174 : (V155 42 b).toInt ≤ (V155 84 gf).toInt ∨ (bdp V155 b (V155 84 gf).toInt.toNat).1 = true := by rw [ep175, me158.1.bd, me158.1 42 b (by decide) (by decide)]; exact ft
    have mo173 : MO V155 Z b gf True (QN V155 b) (QN V155 b) := MO.ch mo me158 ((ajV155 67 gf rfl).trans ((up2_o hV148 (by decide)).trans ((up2_o hV146 (by decide)).trans (up2_o hV144 (by decide))))) ((ajV155 80 gf rfl).trans ((up2_o hV148 (by decide)).trans ((up2_o hV146 (by decide)).trans (up2_o hV144 (by decide))))) (fun _ => Or.inl (by omega)) (fun x h => FK.k4 (by omega) (by omega) (by omega) af174 (by omega) (fun hph => absurd hph (by omega)))
    have rp176 : MJ V155 Z b := MO.mj mo173 (by (first | exact om_c09d41618ed8 hgf | omega)) (by (first | exact om_82fa09255765 gd pq167 | omega)) id id Or.inr
    refine W.know (fun kr1 kr2 => ?_)
    refine W.widen (k := zcc Z) (n := zss Z) (Nat.sub_le _ _) (Nat.sub_le _ _) ?_
    exact W.vret hx hb hr (fun t ht hW => ⟨⟨(V155, L, Z), rfl, ⟨hMV155, agV155, rfl, zoZ, rp176⟩, ⟨by rw [ht]; exact hP, va_K.moved hW.alike hK, hD⟩, by rw [ht]; exact kr1, by rw [ht]; exact kr2⟩, hS.F ht⟩) hS.2.2 dX5_callNeed_119
abbrev r_x_goOnWorking (Z : XZ) : Room := { frames := 6, cells := zcc Z, slots := zss Z, locals := 137 }
abbrev q_x_goOnWorking (D : va_G) (ks : KS) (ad : Nat → Nat) (kk : Nat → ClassId) (V : Vf) (L : Lf) (Z : XZ) (b : Nat) (gf : Nat) (A : Nat → Prop) : Array Value → State → Outcome → State → Prop := qZv D (fun (u : Vf × Lf × XZ) => rgd bX u.1 ∧ agr [(3, 15), (5, 6), (5, 7), (5, 9), (5, 10), (5, 11), (5, 12), (5, 13), (5, 14)] [30, 31, 32, 39, 67, 68, 69, 70, 71, 72, 73, 74, 75, 76, 77, 78, 79, 80, 81, 82, 83, 84, 85] V u.1 ∧ u.2.1 = L ∧ ZL Z u.2.2 ∧ (MJ u.1 u.2.2 b)) (fun u => xw ad kk u.1 u.2.1 u.2.2) (fun u => xty kk u.2.2) (fun u => zcc Z - zcc u.2.2) (fun u => zss Z - zss u.2.2) A
set_option maxHeartbeats 4000000 in
set_option maxRecDepth 100000 in
theorem x_goOnWorking (l : Launch) (D : va_G) (ks : KS) (sz : Nat) (ad : Nat → Nat) (kk : Nat → ClassId) (V : Vf) (L : Lf) (Z : XZ) (b : Nat) (gf : Nat) (hMV : rgd bX V) (hb2 : b < 2) (hgf : gf < Z.nf) (mo : MO V Z b gf True (QN V b) (QN V b)) (gd : (gf : Int) + 1 = (V 5 6).toInt) (gk : (V 67 gf).toInt = 4)  : Met l yX5_goOnWorking (Cond.code yX5_goOnWorking cX5_goOnWorking 2 none :: GW) (r_x_goOnWorking Z) (va_Pc [.ref (ad 5), .ref (Z.fa gf)] (gp D ks (xw ad kk V L Z) (xty kk Z) sz)) (q_x_goOnWorking D ks ad kk V L Z  b gf (va_A (xw ad kk V L Z) sz)) (zcc Z) (zss Z) (va_A (xw ad kk V L Z) sz) := by
  refine g_met (q_x_goOnWorking D ks ad kk V L Z  b gf) (by decide) (Nat.le_of_ble_eq_true rfl) ?_
  intro p e s m below meth c A ls H locs hx hb hr hml hown hg hlocks hin hnw hgk hP hK hD hS hA hl
  have hown : s.vm.findClass RX5 = some m.cls := hown
  have hl : lv_has ls 2 [(0, .ref (ad 5)), (1, .ref (Z.fa gf))] := hl
  have hP : va_P D vwCl (xw ad kk V L Z) H := hP
  have hD : va_D A (xw ad kk V L Z) := hD
  have hK : va_K D vwCl (xty kk Z) s := hK
  have agV : agr [(3, 15), (5, 6), (5, 7), (5, 9), (5, 10), (5, 11), (5, 12), (5, 13), (5, 14)] [30, 31, 32, 39, 67, 68, 69, 70, 71, 72, 73, 74, 75, 76, 77, 78, 79, 80, 81, 82, 83, 84, 85] V V := agr.rf
  have zoZ : ZL Z Z := ZL.rf
  refine W.know (fun ka kb => ?_)
  refine W.tight (k := zcc Z - zcc Z) (n := zss Z - zss Z) (by omega) (by omega) ?_
  have r1 : 0 ≤ ((V 5 6)).toInt ∧ ((V 5 6)).toInt ≤ 400 := hMV 5 6
  have kdp := i_clamp (x := V 5 6) rfl (by (first | exact om_c66f1b494bd9 gd | omega))
  have hdn : (gf : Int) + 1 ≤ (Z.nf : Int) := by (first | exact om_29efded833ec hgf | omega)
  have mup := MO.up mo
  have msz := mup.1
  have mbk := mup.2.2.2.1
  obtain ⟨xk, fk⟩ := MO.fk mo
  have r2 : (-1) ≤ ((V 71 gf)).toInt ∧ ((V 71 gf)).toInt ≤ 23 := hMV 71 gf
  have r3 : 0 ≤ ((V 75 gf)).toInt ∧ ((V 75 gf)).toInt ≤ 12 := hMV 75 gf
  have r4 : 0 ≤ ((V 80 gf)).toInt ∧ ((V 80 gf)).toInt ≤ 300 := hMV 80 gf
  have r5 : 0 ≤ ((V 84 gf)).toInt ∧ ((V 84 gf)).toInt ≤ 2147483647 := hMV 84 gf
  have r6 : 0 ≤ ((V 5 8)).toInt ∧ ((V 5 8)).toInt ≤ 300 := hMV 5 8
  have r7 : 0 ≤ ((V 5 9)).toInt ∧ ((V 5 9)).toInt ≤ 3 := hMV 5 9
  have r8 : 0 ≤ ((V 3 13)).toInt ∧ ((V 3 13)).toInt ≤ 300 := hMV 3 13
  have r9 : 0 ≤ ((V 43 (5 * b + 2))).toInt ∧ ((V 43 (5 * b + 2))).toInt ≤ ((xcap (5 * b + 2) : Nat) : Int) := hMV 43 (5 * b + 2)
  have r10 : xcap (5 * b + 2) = 24 := xcap_2
  have r11 : 0 ≤ ((V 41 b)).toInt ∧ ((V 41 b)).toInt ≤ 12 := hMV 41 b
  have r12 : 0 ≤ ((V 42 b)).toInt ∧ ((V 42 b)).toInt ≤ 8200 := hMV 42 b
  have fc := fk.1 (by omega)
  have fo := fk.2.1 (by omega) (by omega)
  have ft := fk.2.2.1 (by omega)
  have fq := fk.2.2.2.1 (by omega)
  refine lv_aload_n hx hb dX5_goOnWorking_0 rfl (lv_at hl 1 rfl) ?_
  refine va_getN (D := D) (ci := 4) (v := .int (V 68 gf)) (fs := (xfFrame V gf)) (C := RX4) (T := TX4) (N := 19) hx hb hg inX4 hown hK hP (336 + gf) (xgFrame hgf) rfl 1 (by decide) (hnw.use 1190 n1190 rfl) (fun _ h9 => h9) rfl dX5_goOnWorking_1 ?_
  refine lv_bipush (v := 6) hx hb dX5_goOnWorking_4 (by decide) ?_
  refine lv_icmp_ne (tgt := 15) hx hb dX5_goOnWorking_6 (by decide) (fun c13 => ?_) (fun c13 => ?_)
  · skip
    have f14 : ((V 68 gf)).toInt ≠ 6 := b_neq rfl (by decide) c13
    refine lv_aload_n hx hb dX5_goOnWorking_15 rfl (lv_at hl 1 rfl) ?_
    refine va_getN (D := D) (ci := 4) (v := .int (V 68 gf)) (fs := (xfFrame V gf)) (C := RX4) (T := TX4) (N := 19) hx hb hg inX4 hown hK hP (336 + gf) (xgFrame hgf) rfl 1 (by decide) (hnw.use 1190 n1190 rfl) (fun _ h9 => h9) rfl dX5_goOnWorking_16 ?_
    refine lv_if_eq (tgt := 45) hx hb dX5_goOnWorking_19 (by decide) (fun c15 => ?_) (fun c15 => ?_)
    · skip
      have f16 : ((V 68 gf)).toInt = 0 := b_eq rfl (by decide) c15
      refine lv_aload_n hx hb dX5_goOnWorking_45 rfl (lv_at hl 1 rfl) ?_
      refine lv_iconst (v := 0) hx hb dX5_goOnWorking_46 (by decide) ?_
      refine va_putN (D := D) (ci := 4) (v := .int 0) (ty := tyX4 1) (fs := (xfFrame V gf)) (C := RX4) (T := TX4) (N := 19) hx hb hg inX4 tyX4 tyX4_ok nmX4 hown hK hP hD hS (336 + gf) (xgFrame hgf) rfl 1 (by decide) (hnw.use 1190 n1190 rfl) (fun _ h9 => h9) rfl (tyX4_ok 1 (by decide)) rfl rfl (Nat.le_of_ble_eq_true rfl) dX5_goOnWorking_47 (fun H locs hP hD hS => ?_)
      obtain ⟨V17, hV17⟩ : ∃ z, z = up2 V 68 gf 0 := ⟨_, rfl⟩
      have ew18 : (xw ad kk V L Z).set (336 + gf) ((Z.fa gf), .inr (4, (xfFrame V gf).set 1 (.int 0))) = xw ad kk V17 L Z := by rw [hV17]; exact xpFrame_phase hgf
      have hP : va_P D vwCl (xw ad kk V17 L Z) H := by rw [← ew18]; exact hP
      have hD : va_D A (xw ad kk V17 L Z) := by rw [← ew18]; exact hD
      have hMV17 : rgd bX V17 := hMV.put hV17 (i_full _)
      have agV17 : agr [(3, 15), (5, 6), (5, 7), (5, 9), (5, 10), (5, 11), (5, 12), (5, 13), (5, 14)] [30, 31, 32, 39, 67, 68, 69, 70, 71, 72, 73, 74, 75, 76, 77, 78, 79, 80, 81, 82, 83, 84, 85] V V17 := agV.up hV17 rfl
      refine lv_aload_n hx hb dX5_goOnWorking_50 rfl (lv_at hl 0 rfl) ?_
      refine lv_aload_n hx hb dX5_goOnWorking_51 rfl (lv_at hl 1 rfl) ?_
      have pq19 : (V17 5 6).toInt = ((V 5 6)).toInt := congrArg Int32.toInt (up2_o hV17 (by decide))
      have pq20 : (V17 67 gf).toInt = ((V 67 gf)).toInt := congrArg Int32.toInt (up2_o hV17 (by decide))
      have pq21 : (V17 68 gf).toInt = 0 := (congrArg Int32.toInt (up2_s hV17)).trans (by decide)
      have me22 : ME V V17 gf := (ME.up ME.rf hV17 (Or.inl ⟨by decide, by decide, Nat.le_refl _⟩))
      have pq23 : (V17 70 gf).toInt = ((V 70 gf)).toInt := congrArg Int32.toInt (up2_o hV17 (by decide))
      have pq24 : (V17 71 gf).toInt = ((V 71 gf)).toInt := congrArg Int32.toInt (up2_o hV17 (by decide))
      have pq25 : (V17 75 gf).toInt = ((V 75 gf)).toInt := congrArg Int32.toInt (up2_o hV17 (by decide))
      have pq26 : (V17 76 gf).toInt = ((V 76 gf)).toInt := congrArg Int32.toInt (up2_o hV17 (by decide))
      have pq27 : (V17 80 gf).toInt = ((V 80 gf)).toInt := congrArg Int32.toInt (up2_o hV17 (by decide))
      have pq28 : (V17 84 gf).toInt = ((V 84 gf)).toInt := congrArg Int32.toInt (up2_o hV17 (by decide))
      have pq29 : (V17 5 8).toInt = ((V 5 8)).toInt := congrArg Int32.toInt (up2_o hV17 (by decide))
      have pq30 : (V17 5 9).toInt = ((V 5 9)).toInt := congrArg Int32.toInt (up2_o hV17 (by decide))
      have pq31 : (V17 3 13).toInt = ((V 3 13)).toInt := congrArg Int32.toInt (up2_o hV17 (by decide))
      have pq32 : (V17 43 (5 * b + 2)).toInt = ((V 43 (5 * b + 2))).toInt := congrArg Int32.toInt (up2_o hV17 (by decide))
      have pq33 : (V17 42 b).toInt = ((V 42 b)).toInt := congrArg Int32.toInt (up2_o hV17 (by decide))
      have pq34 : (V17 41 b).toInt = ((V 41 b)).toInt := congrArg Int32.toInt (up2_o hV17 (by decide))
      have ep37 : V17 84 gf = (V 84 gf) := (up2_o hV17 (by decide))
      have af36 : (V17 42 b).toInt ≤ (V17 84 gf).toInt ∨ (bdp V17 b (V17 84 gf).toInt.toNat).1 = true := by rw [ep37, me22.1.bd, me22.1 42 b (by decide) (by decide)]; exact ft
      have mo35 : MO V17 Z b gf True True True := MO.ch mo me22 (up2_o hV17 (by decide)) (up2_o hV17 (by decide)) (fun _ => Or.inl (by omega)) (fun x h => FK.k4 (by omega) (by omega) (by omega) af36 (by omega) (fun hph => absurd hph (by omega)))
      refine W.know (fun k39 k40 => ?_)
      obtain ⟨Hk38, hHk38⟩ : ∃ z, z = H := ⟨_, rfl⟩
      have k39 : Hk38.size ≤ s.heap.size + (zcc Z - zcc Z) := by rw [hHk38]; exact k39
      have k40 : tot Hk38 ≤ tot s.heap + (zss Z - zss Z) := by rw [hHk38]; exact k40
      refine gZ_void (gA_runV (As := [.ref (Z.fa gf)]) (rest := []) (ci := 5) (q0 := 5) hx hb hml hown hg hP hD hK hS hA hnw hgk (x_work l D ks H.size ad kk V17 L Z (b) (gf) hMV17 (show b < 2 from by (first | exact om_f940a4667dd6 hb2 | omega)) (show gf < Z.nf from by (first | exact om_8c5722e49bb1 hgf | omega)) mo35 (show (gf : Int) + 1 = (V17 5 6).toInt from by (first | exact om_6e5bbaaa0e03 gd pq19 | omega)) (show (V17 67 gf).toInt = 4 from by (first | exact om_ac6651f4ff0c gk pq20 | omega)) (show (V17 68 gf).toInt = 0 from by (first | exact om_b66ba74381d5 pq21 | omega))) w1474 w1476 w74 w171 w1477 rfl xgMachine hdV_yX5_work ⟨Nat.le_of_ble_eq_true rfl, Nat.le_of_ble_eq_true rfl⟩ rfl hl.1 rfl (Nat.le_of_ble_eq_true rfl) dX5_goOnWorking_52 ⟨z1 zoZ.1, z1 zoZ.2.1⟩) hD hS hA (fun u42 H locs w43 hP hD hK hS y44 y45 => ?_)
      obtain ⟨V46, L47, Z48⟩ := u42
      obtain ⟨hMV46, ajV46, axL47, zlZ48, t50⟩ := w43
      have axL47 : L = L47 := Eq.symm axL47
      subst axL47
      have hP : va_P D vwCl (xw ad kk V46 L Z48) H := hP
      have hD : va_D A (xw ad kk V46 L Z48) := hD
      have hK : va_K D vwCl (xty kk Z48) s := hK
      have hMV46 : rgd bX V46 := hMV46
      have ajV46 : agr [(5, 6), (5, 7), (5, 9), (5, 10), (5, 11), (5, 12), (5, 13), (5, 14)] [39, 67, 68, 69, 70, 71, 72, 73, 74, 75, 76, 77, 78, 79, 80, 81, 82, 83, 84, 85] V17 V46 := ajV46
      have agV46 : agr [(3, 15), (5, 6), (5, 7), (5, 9), (5, 10), (5, 11), (5, 12), (5, 13), (5, 14)] [30, 31, 32, 39, 67, 68, 69, 70, 71, 72, 73, 74, 75, 76, 77, 78, 79, 80, 81, 82, 83, 84, 85] V V46 := agV17.tr ajV46 (by decide) (by decide)
      have zlZ48 : ZL Z Z48 := zlZ48
      have zoZ48 : ZL Z Z48 := ZL.tr zoZ zlZ48
      have ziZ48 := zlZ48.1
      have zjZ48 := zlZ48.2.1
      have zkZ48 := zlZ48.2.2.1
      have zmZ48 := zoZ48.1
      have znZ48 := zoZ48.2.1
      have zpZ_Z48 := zoZ.1
      have zqZ_Z48 := zoZ.2.1
      have y44 : H.size ≤ Hk38.size + (zcc Z - zcc Z48) := by rw [hHk38]; exact y44
      have y45 : tot H ≤ tot Hk38 + (zss Z - zss Z48) := by rw [hHk38]; exact y45
      refine W.tight (k := zcc Z - zcc Z48) (n := zss Z - zss Z48) (by first | exact tg9 y44 k39 zlZ48.1 zoZ.1 | omega) (by first | exact tg9 y45 k40 zlZ48.2.1 zoZ.2.1 | omega) ?_
      have hl : lv_has ls 2 [(0, .ref (ad 5)), (1, .ref (Z48.fa gf))] := by rw [zlZ48.2.2.2.2 gf hgf]; exact hl
      have t50 : MJ V46 Z48 b := t50
      refine W.know (fun kr1 kr2 => ?_)
      refine W.widen (k := zcc Z) (n := zss Z) (Nat.sub_le _ _) (Nat.sub_le _ _) ?_
      exact W.vret hx hb hr (fun t ht hW => ⟨⟨(V46, L, Z48), rfl, ⟨hMV46, agV46, rfl, zoZ48, t50⟩, ⟨by rw [ht]; exact hP, va_K.moved hW.alike hK, hD⟩, by rw [ht]; exact kr1, by rw [ht]; exact kr2⟩, hS.F ht⟩) hS.2.2 dX5_goOnWorking_55
    · skip
      have f51 : ((V 68 gf)).toInt ≠ 0 := b_neq rfl (by decide) c15
      refine lv_aload_n hx hb dX5_goOnWorking_22 rfl (lv_at hl 0 rfl) ?_
      refine va_get (D := D) (ci := 5) (v := .int (V 5 9)) (fs := (xfMachine ad V L Z)) (C := RX5) (T := TX5) (N := 15) hx hb hg inX5 hown hK hP 5 xgMachine rfl 9 (by decide) (hg _ w676) (fun _ h9 => h9) rfl dX5_goOnWorking_23 ?_
      refine lv_iconst (v := 1) hx hb dX5_goOnWorking_26 (by decide) ?_
      refine lv_icmp_eq (tgt := 36) hx hb dX5_goOnWorking_27 (by decide) (fun c52 => ?_) (fun c52 => ?_)
      · skip
        have f53 : ((V 5 9)).toInt = 1 := b_eq rfl (by decide) c52
        have mot : MO V Z b gf True (¬ NN V b) True := MO.w mo (fun _ => trivial) (fun z => ⟨by omega, z⟩) (fun _ => Or.inl (by omega))
        refine lv_aload_n hx hb dX5_goOnWorking_36 rfl (lv_at hl 0 rfl) ?_
        refine lv_aload_n hx hb dX5_goOnWorking_37 rfl (lv_at hl 1 rfl) ?_
        refine W.know (fun k55 k56 => ?_)
        obtain ⟨Hk54, hHk54⟩ : ∃ z, z = H := ⟨_, rfl⟩
        have k55 : Hk54.size ≤ s.heap.size + (zcc Z - zcc Z) := by rw [hHk54]; exact k55
        have k56 : tot Hk54 ≤ tot s.heap + (zss Z - zss Z) := by rw [hHk54]; exact k56
        refine gZ_int (gA_runV (As := [.ref (Z.fa gf)]) (rest := []) (ci := 5) (q0 := 5) hx hb hml hown hg hP hD hK hS hA hnw hgk (x_takesAnswer l D ks H.size ad kk V L Z (b) (gf) hMV (show b < 2 from by (first | exact om_f940a4667dd6 hb2 | omega)) (show gf < Z.nf from by (first | exact om_8c5722e49bb1 hgf | omega)) mot (show (gf : Int) + 1 = (V 5 6).toInt from by (first | exact om_b7eb86266639 gd | omega)) (show (V 67 gf).toInt = 4 from by (first | exact om_c88e7ce0b8a2 gk | omega)) (show (V 68 gf).toInt ≠ 0 ∧ (V 68 gf).toInt ≠ 6 from by omega)) w1462 w1464 w71 w171 w1465 rfl xgMachine hdV_yX5_takesAnswer ⟨Nat.le_of_ble_eq_true rfl, Nat.le_of_ble_eq_true rfl⟩ rfl hl.1 rfl (Nat.le_of_ble_eq_true rfl) dX5_goOnWorking_38 ⟨z1 zoZ.1, z1 zoZ.2.1⟩) hD hS hA (fun z57 u58 H locs w59 hP hD hK hS y60 y61 => ?_)
        obtain ⟨V62, L63, Z64⟩ := u58
        obtain ⟨hMV62, ajV62, axL63, zlZ64, rgz57, t66, t67, t68, t69⟩ := w59
        have axL63 : L = L63 := Eq.symm axL63
        subst axL63
        have hP : va_P D vwCl (xw ad kk V62 L Z64) H := hP
        have hD : va_D A (xw ad kk V62 L Z64) := hD
        have hK : va_K D vwCl (xty kk Z64) s := hK
        have hMV62 : rgd bX V62 := hMV62
        have ajV62 : agr [(3, 15), (5, 6), (5, 7), (5, 9)] [30, 31, 32, 39, 67, 68, 69, 70, 71, 72, 73, 74, 75, 76, 77, 78, 79, 80, 81, 82, 83, 84, 85] V V62 := ajV62
        have agV62 : agr [(3, 15), (5, 6), (5, 7), (5, 9), (5, 10), (5, 11), (5, 12), (5, 13), (5, 14)] [30, 31, 32, 39, 67, 68, 69, 70, 71, 72, 73, 74, 75, 76, 77, 78, 79, 80, 81, 82, 83, 84, 85] V V62 := agV.tr ajV62 (by decide) (by decide)
        have zlZ64 : ZL Z Z64 := zlZ64
        have zoZ64 : ZL Z Z64 := ZL.tr zoZ zlZ64
        have ziZ64 := zlZ64.1
        have zjZ64 := zlZ64.2.1
        have zkZ64 := zlZ64.2.2.1
        have zmZ64 := zoZ64.1
        have znZ64 := zoZ64.2.1
        have zpZ_Z64 := zoZ.1
        have zqZ_Z64 := zoZ.2.1
        have y60 : H.size ≤ Hk54.size + (zcc Z - zcc Z64) := by rw [hHk54]; exact y60
        have y61 : tot H ≤ tot Hk54 + (zss Z - zss Z64) := by rw [hHk54]; exact y61
        refine W.tight (k := zcc Z - zcc Z64) (n := zss Z - zss Z64) (by first | exact tg9 y60 k55 zlZ64.1 zoZ.1 | omega) (by first | exact tg9 y61 k56 zlZ64.2.1 zoZ.2.1 | omega) ?_
        have hl : lv_has ls 2 [(0, .ref (ad 5)), (1, .ref (Z64.fa gf))] := by rw [zlZ64.2.2.2.2 gf hgf]; exact hl
        have rgz57 : 0 ≤ z57.toInt ∧ z57.toInt ≤ 1 := rgz57
        have t66 : Imp (z57.toInt = 1) (MO V62 Z64 b gf True True True) := t66
        have t67 : Imp (z57.toInt = 0) (MJ V62 Z64 b) := t67
        have t68 : Imp (z57.toInt = 1) ((V62 5 6).toInt = (V 5 6).toInt ∧ (V62 67 gf).toInt = 4) := t68
        have t69 : Imp (z57.toInt = 1) (Z64 = Z) := t69
        have r70 : 0 ≤ ((V62 5 6)).toInt ∧ ((V62 5 6)).toInt ≤ 400 := hMV62 5 6
        refine lv_if_ne (tgt := 45) hx hb dX5_goOnWorking_41 (by decide) (fun c71 => ?_) (fun c71 => ?_)
        · skip
          have f72 : z57.toInt ≠ 0 := b_neq rfl (by decide) c71
          have hr1 : z57.toInt = 1 := by (first | exact om_2ebe32d50835 rgz57.1 rgz57.2 f72 | omega)
          have ezz : Z64 = Z := Imp.go t69 hr1
          have hP : va_P D vwCl (xw ad kk V62 L Z) H := by rw [← ezz]; exact hP
          have hD : va_D A (xw ad kk V62 L Z) := by rw [← ezz]; exact hD
          have hK : va_K D vwCl (xty kk Z) s := by rw [← ezz]; exact hK
          have hl : lv_has ls 2 [(0, .ref (ad 5)), (1, .ref (Z.fa gf))] := by rw [← ezz]; exact hl
          rw [ezz]
          have mo73 : MO V62 Z b gf True True True := by rw [← ezz]; exact Imp.go t66 hr1
          have hpk := Imp.go t68 hr1
          have mup := MO.up mo73
          have msz := mup.1
          have mbk := mup.2.2.2.1
          obtain ⟨xk, fk⟩ := MO.fk mo73
          have r74 : (-1) ≤ ((V62 71 gf)).toInt ∧ ((V62 71 gf)).toInt ≤ 23 := hMV62 71 gf
          have r75 : 0 ≤ ((V62 75 gf)).toInt ∧ ((V62 75 gf)).toInt ≤ 12 := hMV62 75 gf
          have r76 : 0 ≤ ((V62 80 gf)).toInt ∧ ((V62 80 gf)).toInt ≤ 300 := hMV62 80 gf
          have r77 : 0 ≤ ((V62 84 gf)).toInt ∧ ((V62 84 gf)).toInt ≤ 2147483647 := hMV62 84 gf
          have pq78 : (V62 5 8).toInt = ((V 5 8)).toInt := congrArg Int32.toInt (ajV62 5 8 rfl)
          have r79 : 0 ≤ ((V62 5 9)).toInt ∧ ((V62 5 9)).toInt ≤ 3 := hMV62 5 9
          have pq80 : (V62 3 13).toInt = ((V 3 13)).toInt := congrArg Int32.toInt (ajV62 3 13 rfl)
          have pq81 : (V62 43 (5 * b + 2)).toInt = ((V 43 (5 * b + 2))).toInt := congrArg Int32.toInt (ajV62 43 (5 * b + 2) rfl)
          have pq82 : (V62 41 b).toInt = ((V 41 b)).toInt := congrArg Int32.toInt (ajV62 41 b rfl)
          have pq83 : (V62 42 b).toInt = ((V 42 b)).toInt := congrArg Int32.toInt (ajV62 42 b rfl)
          have fc := fk.1 (by omega)
          have fo := fk.2.1 (by omega) (by omega)
          have ft := fk.2.2.1 (by omega)
          have fq := fk.2.2.2.1 (by omega)
          refine lv_aload_n hx hb dX5_goOnWorking_45 rfl (lv_at hl 1 rfl) ?_
          refine lv_iconst (v := 0) hx hb dX5_goOnWorking_46 (by decide) ?_
          refine va_putN (D := D) (ci := 4) (v := .int 0) (ty := tyX4 1) (fs := (xfFrame V62 gf)) (C := RX4) (T := TX4) (N := 19) hx hb hg inX4 tyX4 tyX4_ok nmX4 hown hK hP hD hS (336 + gf) (xgFrame hgf) rfl 1 (by decide) (hnw.use 1190 n1190 rfl) (fun _ h9 => h9) rfl (tyX4_ok 1 (by decide)) rfl rfl (Nat.le_of_ble_eq_true rfl) dX5_goOnWorking_47 (fun H locs hP hD hS => ?_)
          obtain ⟨V84, hV84⟩ : ∃ z, z = up2 V62 68 gf 0 := ⟨_, rfl⟩
          have ew85 : (xw ad kk V62 L Z).set (336 + gf) ((Z.fa gf), .inr (4, (xfFrame V62 gf).set 1 (.int 0))) = xw ad kk V84 L Z := by rw [hV84]; exact xpFrame_phase hgf
          have hP : va_P D vwCl (xw ad kk V84 L Z) H := by rw [← ew85]; exact hP
          have hD : va_D A (xw ad kk V84 L Z) := by rw [← ew85]; exact hD
          have hMV84 : rgd bX V84 := hMV62.put hV84 (i_full _)
          have agV84 : agr [(3, 15), (5, 6), (5, 7), (5, 9), (5, 10), (5, 11), (5, 12), (5, 13), (5, 14)] [30, 31, 32, 39, 67, 68, 69, 70, 71, 72, 73, 74, 75, 76, 77, 78, 79, 80, 81, 82, 83, 84, 85] V V84 := agV62.up hV84 rfl
          refine lv_aload_n hx hb dX5_goOnWorking_50 rfl (lv_at hl 0 rfl) ?_
          refine lv_aload_n hx hb dX5_goOnWorking_51 rfl (lv_at hl 1 rfl) ?_
          have pq86 : (V84 5 6).toInt = ((V62 5 6)).toInt := congrArg Int32.toInt (up2_o hV84 (by decide))
          have pq87 : (V84 67 gf).toInt = ((V62 67 gf)).toInt := congrArg Int32.toInt (up2_o hV84 (by decide))
          have pq88 : (V84 68 gf).toInt = 0 := (congrArg Int32.toInt (up2_s hV84)).trans (by decide)
          have me89 : ME V62 V84 gf := (ME.up ME.rf hV84 (Or.inl ⟨by decide, by decide, Nat.le_refl _⟩))
          have pq90 : (V84 70 gf).toInt = ((V62 70 gf)).toInt := congrArg Int32.toInt (up2_o hV84 (by decide))
          have pq91 : (V84 71 gf).toInt = ((V62 71 gf)).toInt := congrArg Int32.toInt (up2_o hV84 (by decide))
          have pq92 : (V84 75 gf).toInt = ((V62 75 gf)).toInt := congrArg Int32.toInt (up2_o hV84 (by decide))
          have pq93 : (V84 76 gf).toInt = ((V62 76 gf)).toInt := congrArg Int32.toInt (up2_o hV84 (by decide))
          have pq94 : (V84 80 gf).toInt = ((V62 80 gf)).toInt := congrArg Int32.toInt (up2_o hV84 (by decide))
          have pq95 : (V84 84 gf).toInt = ((V62 84 gf)).toInt := congrArg Int32.toInt (up2_o hV84 (by decide))
          have pq96 : (V84 5 8).toInt = ((V 5 8)).toInt := congrArg Int32.toInt ((up2_o hV84 (by decide)).trans (ajV62 5 8 rfl))
          have pq97 : (V84 5 9).toInt = ((V62 5 9)).toInt := congrArg Int32.toInt (up2_o hV84 (by decide))
          have pq98 : (V84 3 13).toInt = ((V 3 13)).toInt := congrArg Int32.toInt ((up2_o hV84 (by decide)).trans (ajV62 3 13 rfl))
          have pq99 : (V84 43 (5 * b + 2)).toInt = ((V 43 (5 * b + 2))).toInt := congrArg Int32.toInt ((up2_o hV84 (by decide)).trans (ajV62 43 (5 * b + 2) rfl))
          have pq100 : (V84 42 b).toInt = ((V 42 b)).toInt := congrArg Int32.toInt ((up2_o hV84 (by decide)).trans (ajV62 42 b rfl))
          have pq101 : (V84 41 b).toInt = ((V 41 b)).toInt := congrArg Int32.toInt ((up2_o hV84 (by decide)).trans (ajV62 41 b rfl))
          have ep104 : V84 84 gf = (V62 84 gf) := (up2_o hV84 (by decide))
          have af103 : (V84 42 b).toInt ≤ (V84 84 gf).toInt ∨ (bdp V84 b (V84 84 gf).toInt.toNat).1 = true := by rw [ep104, me89.1.bd, me89.1 42 b (by decide) (by decide)]; exact ft
          have mo102 : MO V84 Z b gf True True True := MO.ch mo73 me89 (up2_o hV84 (by decide)) (up2_o hV84 (by decide)) (fun _ => Or.inl (by omega)) (fun x h => FK.k4 (by first | omega | ((try (have i_t68 := Imp.go t68 (by omega))); omega)) (by first | omega | ((try (have i_t68 := Imp.go t68 (by omega))); omega)) (by first | omega | ((try (have i_t68 := Imp.go t68 (by omega))); omega)) af103 (by first | omega | ((try (have i_t68 := Imp.go t68 (by omega))); omega)) (fun hph => absurd hph (by omega)))
          refine W.know (fun k106 k107 => ?_)
          obtain ⟨Hk105, hHk105⟩ : ∃ z, z = H := ⟨_, rfl⟩
          have k106 : Hk105.size ≤ s.heap.size + (zcc Z - zcc Z) := by rw [hHk105]; exact k106
          have k107 : tot Hk105 ≤ tot s.heap + (zss Z - zss Z) := by rw [hHk105]; exact k107
          refine gZ_void (gA_runV (As := [.ref (Z.fa gf)]) (rest := []) (ci := 5) (q0 := 5) hx hb hml hown hg hP hD hK hS hA hnw hgk (x_work l D ks H.size ad kk V84 L Z (b) (gf) hMV84 (show b < 2 from by first | exact om_f940a4667dd6 hb2 | first | omega | ((try (have i_t68 := Imp.go t68 (by omega))); omega)) (show gf < Z.nf from by first | exact om_8c5722e49bb1 hgf | first | omega | ((try (have i_t68 := Imp.go t68 (by omega))); omega)) mo102 (show (gf : Int) + 1 = (V84 5 6).toInt from by first | exact om_fd5cdca56366 gd pq86 ((Imp.go t68 (hr1)).1) | first | omega | ((try (have i_t68 := Imp.go t68 (by omega))); omega)) (show (V84 67 gf).toInt = 4 from by first | exact om_e8dcd4d58a75 pq87 ((Imp.go t68 (hr1)).2) | first | omega | ((try (have i_t68 := Imp.go t68 (by omega))); omega)) (show (V84 68 gf).toInt = 0 from by first | exact om_b66ba74381d5 pq88 | first | omega | ((try (have i_t68 := Imp.go t68 (by omega))); omega))) w1474 w1476 w74 w171 w1477 rfl xgMachine hdV_yX5_work ⟨Nat.le_of_ble_eq_true rfl, Nat.le_of_ble_eq_true rfl⟩ rfl hl.1 rfl (Nat.le_of_ble_eq_true rfl) dX5_goOnWorking_52 ⟨z1 zoZ.1, z1 zoZ.2.1⟩) hD hS hA (fun u109 H locs w110 hP hD hK hS y111 y112 => ?_)
          obtain ⟨V113, L114, Z115⟩ := u109
          obtain ⟨hMV113, ajV113, axL114, zlZ115, t117⟩ := w110
          have axL114 : L = L114 := Eq.symm axL114
          subst axL114
          have hP : va_P D vwCl (xw ad kk V113 L Z115) H := hP
          have hD : va_D A (xw ad kk V113 L Z115) := hD
          have hK : va_K D vwCl (xty kk Z115) s := hK
          have hMV113 : rgd bX V113 := hMV113
          have ajV113 : agr [(5, 6), (5, 7), (5, 9), (5, 10), (5, 11), (5, 12), (5, 13), (5, 14)] [39, 67, 68, 69, 70, 71, 72, 73, 74, 75, 76, 77, 78, 79, 80, 81, 82, 83, 84, 85] V84 V113 := ajV113
          have agV113 : agr [(3, 15), (5, 6), (5, 7), (5, 9), (5, 10), (5, 11), (5, 12), (5, 13), (5, 14)] [30, 31, 32, 39, 67, 68, 69, 70, 71, 72, 73, 74, 75, 76, 77, 78, 79, 80, 81, 82, 83, 84, 85] V V113 := agV84.tr ajV113 (by decide) (by decide)
          have zlZ115 : ZL Z Z115 := zlZ115
          have zoZ115 : ZL Z Z115 := ZL.tr zoZ zlZ115
          have ziZ115 := zlZ115.1
          have zjZ115 := zlZ115.2.1
          have zkZ115 := zlZ115.2.2.1
          have zmZ115 := zoZ115.1
          have znZ115 := zoZ115.2.1
          have zpZ_Z115 := zoZ.1
          have zqZ_Z115 := zoZ.2.1
          have y111 : H.size ≤ Hk105.size + (zcc Z - zcc Z115) := by rw [hHk105]; exact y111
          have y112 : tot H ≤ tot Hk105 + (zss Z - zss Z115) := by rw [hHk105]; exact y112
          refine W.tight (k := zcc Z - zcc Z115) (n := zss Z - zss Z115) (by first | exact tg9 y111 k106 zlZ115.1 zoZ.1 | omega) (by first | exact tg9 y112 k107 zlZ115.2.1 zoZ.2.1 | omega) ?_
          have hl : lv_has ls 2 [(0, .ref (ad 5)), (1, .ref (Z115.fa gf))] := by rw [zlZ115.2.2.2.2 gf hgf]; exact hl
          have t117 : MJ V113 Z115 b := t117
          refine W.know (fun kr1 kr2 => ?_)
          refine W.widen (k := zcc Z) (n := zss Z) (Nat.sub_le _ _) (Nat.sub_le _ _) ?_
          exact W.vret hx hb hr (fun t ht hW => ⟨⟨(V113, L, Z115), rfl, ⟨hMV113, agV113, rfl, zoZ115, t117⟩, ⟨by rw [ht]; exact hP, va_K.moved hW.alike hK, hD⟩, by rw [ht]; exact kr1, by rw [ht]; exact kr2⟩, hS.F ht⟩) hS.2.2 dX5_goOnWorking_55
        · skip
          have f118 : z57.toInt = 0 := b_eq rfl (by decide) c71
          refine W.know (fun kr1 kr2 => ?_)
          refine W.widen (k := zcc Z) (n := zss Z) (Nat.sub_le _ _) (Nat.sub_le _ _) ?_
          exact W.vret hx hb hr (fun t ht hW => ⟨⟨(V62, L, Z64), rfl, ⟨hMV62, agV62, rfl, zoZ64, (Imp.go t67 (by (first | exact om_b1799fcf2d63 rgz57.1 f118 | omega)))⟩, ⟨by rw [ht]; exact hP, va_K.moved hW.alike hK, hD⟩, by rw [ht]; exact kr1, by rw [ht]; exact kr2⟩, hS.F ht⟩) hS.2.2 dX5_goOnWorking_44
      · skip
        have f119 : ((V 5 9)).toInt ≠ 1 := b_neq rfl (by decide) c52
        refine lv_aload_n hx hb dX5_goOnWorking_30 rfl (lv_at hl 0 rfl) ?_
        refine lv_aload_n hx hb dX5_goOnWorking_31 rfl (lv_at hl 1 rfl) ?_
        have me120 : ME V V gf := ME.rf
        have af122 : (V 42 b).toInt ≤ (V 84 gf).toInt ∨ (bdp V b (V 84 gf).toInt.toNat).1 = true := by rw [me120.1.bd, me120.1 42 b (by decide) (by decide)]; exact ft
        have mo121 : MO V Z b gf True False True := MO.ch mo me120 rfl rfl (fun _ => Or.inl (by omega)) (fun x h => FK.k4 (by omega) (by omega) (by omega) af122 (by omega) (fun _ z => z.elim))
        refine gA_void (gA_runV (As := [.ref (Z.fa gf)]) (rest := []) (ci := 5) (q0 := 5) hx hb hml hown hg hP hD hK hS hA hnw hgk (x_endWork2 l D ks H.size ad kk V L Z (b) (gf) hMV (show b < 2 from by (first | exact om_f940a4667dd6 hb2 | omega)) (show gf < Z.nf from by (first | exact om_8c5722e49bb1 hgf | omega)) mo121 (show (gf : Int) + 1 = (V 5 6).toInt from by (first | exact om_b7eb86266639 gd | omega)) (show (V 67 gf).toInt = 4 from by (first | exact om_c88e7ce0b8a2 gk | omega))) w1458 w1460 w70 w171 w1461 rfl xgMachine hdV_yX5_endWork ⟨Nat.le_of_ble_eq_true rfl, Nat.le_of_ble_eq_true rfl⟩ rfl hl.1 rfl (Nat.le_of_ble_eq_true rfl) dX5_goOnWorking_32 ⟨z0, z0⟩) hP hD hK hS hA (fun u124 H locs w125 hP hD hK hS => ?_)
        obtain ⟨V127, L128⟩ := u124
        obtain ⟨hMV127, ajV127, axL128, t126⟩ := w125
        have axL128 : L = L128 := Eq.symm axL128
        subst axL128
        have hP : va_P D vwCl (xw ad kk V127 L Z) H := hP
        have hD : va_D A (xw ad kk V127 L Z) := hD
        have hMV127 : rgd bX V127 := hMV127
        have ajV127 : agr [(5, 6), (5, 7)] [] V V127 := ajV127
        have agV127 : agr [(3, 15), (5, 6), (5, 7), (5, 9), (5, 10), (5, 11), (5, 12), (5, 13), (5, 14)] [30, 31, 32, 39, 67, 68, 69, 70, 71, 72, 73, 74, 75, 76, 77, 78, 79, 80, 81, 82, 83, 84, 85] V V127 := agV.tr ajV127 (by decide) (by decide)
        have t126 : MJ V127 Z b := t126
        refine W.know (fun kr1 kr2 => ?_)
        refine W.widen (k := zcc Z) (n := zss Z) (Nat.sub_le _ _) (Nat.sub_le _ _) ?_
        exact W.vret hx hb hr (fun t ht hW => ⟨⟨(V127, L, Z), rfl, ⟨hMV127, agV127, rfl, zoZ, t126⟩, ⟨by rw [ht]; exact hP, va_K.moved hW.alike hK, hD⟩, by rw [ht]; exact kr1, by rw [ht]; exact kr2⟩, hS.F ht⟩) hS.2.2 dX5_goOnWorking_35
  · skip
    have f129 : ((V 68 gf)).toInt = 6 := b_eq rfl (by decide) c13
    refine lv_aload_n hx hb dX5_goOnWorking_9 rfl (lv_at hl 0 rfl) ?_
    refine lv_aload_n hx hb dX5_goOnWorking_10 rfl (lv_at hl 1 rfl) ?_
    refine W.know (fun k131 k132 => ?_)
    obtain ⟨Hk130, hHk130⟩ : ∃ z, z = H := ⟨_, rfl⟩
    have k131 : Hk130.size ≤ s.heap.size + (zcc Z - zcc Z) := by rw [hHk130]; exact k131
    have k132 : tot Hk130 ≤ tot s.heap + (zss Z - zss Z) := by rw [hHk130]; exact k132
    refine gZ_void (gA_runV (As := [.ref (Z.fa gf)]) (rest := []) (ci := 5) (q0 := 5) hx hb hml hown hg hP hD hK hS hA hnw hgk (x_callNeed l D ks H.size ad kk V L Z (b) (gf) hMV (show b < 2 from by (first | exact om_f940a4667dd6 hb2 | omega)) (show gf < Z.nf from by (first | exact om_8c5722e49bb1 hgf | omega)) mo (show (gf : Int) + 1 = (V 5 6).toInt from by (first | exact om_b7eb86266639 gd | omega)) (show (V 67 gf).toInt = 4 from by (first | exact om_c88e7ce0b8a2 gk | omega)) (show (V 68 gf).toInt = 6 from by (first | exact om_4b6cdf2bfd6b f129 | omega))) w1435 w1437 w68 w171 w1438 rfl xgMachine hdV_yX5_callNeed ⟨Nat.le_of_ble_eq_true rfl, Nat.le_of_ble_eq_true rfl⟩ rfl hl.1 rfl (Nat.le_of_ble_eq_true rfl) dX5_goOnWorking_11 ⟨z1 zoZ.1, z1 zoZ.2.1⟩) hD hS hA (fun u134 H locs w135 hP hD hK hS y136 y137 => ?_)
    obtain ⟨V138, L139, Z140⟩ := u134
    obtain ⟨hMV138, ajV138, axL139, zlZ140, t142⟩ := w135
    have axL139 : L = L139 := Eq.symm axL139
    subst axL139
    have hP : va_P D vwCl (xw ad kk V138 L Z140) H := hP
    have hD : va_D A (xw ad kk V138 L Z140) := hD
    have hK : va_K D vwCl (xty kk Z140) s := hK
    have hMV138 : rgd bX V138 := hMV138
    have ajV138 : agr [(5, 6), (5, 9), (5, 10), (5, 11), (5, 12)] [67, 68, 69, 70, 71, 72, 73, 74, 75, 76, 77, 78, 79, 80, 81, 82, 83, 84, 85] V V138 := ajV138
    have agV138 : agr [(3, 15), (5, 6), (5, 7), (5, 9), (5, 10), (5, 11), (5, 12), (5, 13), (5, 14)] [30, 31, 32, 39, 67, 68, 69, 70, 71, 72, 73, 74, 75, 76, 77, 78, 79, 80, 81, 82, 83, 84, 85] V V138 := agV.tr ajV138 (by decide) (by decide)
    have zlZ140 : ZL Z Z140 := zlZ140
    have zoZ140 : ZL Z Z140 := ZL.tr zoZ zlZ140
    have ziZ140 := zlZ140.1
    have zjZ140 := zlZ140.2.1
    have zkZ140 := zlZ140.2.2.1
    have zmZ140 := zoZ140.1
    have znZ140 := zoZ140.2.1
    have zpZ_Z140 := zoZ.1
    have zqZ_Z140 := zoZ.2.1
    have y136 : H.size ≤ Hk130.size + (zcc Z - zcc Z140) := by rw [hHk130]; exact y136
    have y137 : tot H ≤ tot Hk130 + (zss Z - zss Z140) := by rw [hHk130]; exact y137
    refine W.tight (k := zcc Z - zcc Z140) (n := zss Z - zss Z140) (by first | exact tg9 y136 k131 zlZ140.1 zoZ.1 | omega) (by first | exact tg9 y137 k132 zlZ140.2.1 zoZ.2.1 | omega) ?_
    have hl : lv_has ls 2 [(0, .ref (ad 5)), (1, .ref (Z140.fa gf))] := by rw [zlZ140.2.2.2.2 gf hgf]; exact hl
    have t142 : MJ V138 Z140 b := t142
    refine W.know (fun kr1 kr2 => ?_)
    refine W.widen (k := zcc Z) (n := zss Z) (Nat.sub_le _ _) (Nat.sub_le _ _) ?_
    exact W.vret hx hb hr (fun t ht hW => ⟨⟨(V138, L, Z140), rfl, ⟨hMV138, agV138, rfl, zoZ140, t142⟩, ⟨by rw [ht]; exact hP, va_K.moved hW.alike hK, hD⟩, by rw [ht]; exact kr1, by rw [ht]; exact kr2⟩, hS.F ht⟩) hS.2.2 dX5_goOnWorking_14
end
section
theorem w1251 : Cond.constant RX5 70 1000000 ∈ GW := gw_k tk9_5 136 (by decide +kernel) rfl
theorem w1255 : Cond.code yX5_goOnGetting cX5_goOnGetting 2 none ∈ GW := gw_k tk9_5 140 (rfl) rfl
theorem w1252 : Cond.methodLink RX5 74 yX5_goOnGetting ∈ GW := gw_k tk9_5 137 (by decide +kernel) rfl
theorem w1254 : Cond.instanceMethod yX5_goOnGetting ∈ GW := gw_k tk9_5 139 (by decide +kernel) rfl
theorem w44 : Cond.selects RX5 yX5_goOnGetting yX5_goOnGetting ∈ GW := gw_mem 44 (by decide +kernel) rfl
theorem hdV_yX5_goOnGetting : yX5_goOnGetting.cls = RX5 ∧ yX5_goOnGetting.cls ≠ "java/lang/invoke/MethodHandle" ∧ yX5_goOnGetting.cls ≠ "java/lang/invoke/VarHandle" ∧ (parseMethodDescriptor yX5_goOnGetting.desc).map (fun d => d.parameters.length) = some 1 := by decide +kernel
theorem w1331 : Cond.code yX5_goOnMaking cX5_goOnMaking 5 none ∈ GW := gw_k tk9_5 216 (rfl) rfl
theorem w1328 : Cond.methodLink RX5 78 yX5_goOnMaking ∈ GW := gw_k tk9_5 213 (by decide +kernel) rfl
theorem w1330 : Cond.instanceMethod yX5_goOnMaking ∈ GW := gw_k tk9_5 215 (by decide +kernel) rfl
theorem w53 : Cond.selects RX5 yX5_goOnMaking yX5_goOnMaking ∈ GW := gw_mem 53 (by decide +kernel) rfl
theorem hdV_yX5_goOnMaking : yX5_goOnMaking.cls = RX5 ∧ yX5_goOnMaking.cls ≠ "java/lang/invoke/MethodHandle" ∧ yX5_goOnMaking.cls ≠ "java/lang/invoke/VarHandle" ∧ (parseMethodDescriptor yX5_goOnMaking.desc).map (fun d => d.parameters.length) = some 1 := by decide +kernel
theorem w1383 : Cond.code yX5_goOnCalling cX5_goOnCalling 3 none ∈ GW := gw_k tk9_6 28 (rfl) rfl
theorem w1380 : Cond.methodLink RX5 81 yX5_goOnCalling ∈ GW := gw_k tk9_6 25 (by decide +kernel) rfl
theorem w1382 : Cond.instanceMethod yX5_goOnCalling ∈ GW := gw_k tk9_6 27 (by decide +kernel) rfl
theorem w58 : Cond.selects RX5 yX5_goOnCalling yX5_goOnCalling ∈ GW := gw_mem 58 (by decide +kernel) rfl
theorem hdV_yX5_goOnCalling : yX5_goOnCalling.cls = RX5 ∧ yX5_goOnCalling.cls ≠ "java/lang/invoke/MethodHandle" ∧ yX5_goOnCalling.cls ≠ "java/lang/invoke/VarHandle" ∧ (parseMethodDescriptor yX5_goOnCalling.desc).map (fun d => d.parameters.length) = some 1 := by decide +kernel
theorem w1414 : Cond.code yX5_goOnInside cX5_goOnInside 2 none ∈ GW := gw_k tk9_6 59 (rfl) rfl
theorem w1411 : Cond.methodLink RX5 84 yX5_goOnInside ∈ GW := gw_k tk9_6 56 (by decide +kernel) rfl
theorem w1413 : Cond.instanceMethod yX5_goOnInside ∈ GW := gw_k tk9_6 58 (by decide +kernel) rfl
theorem w63 : Cond.selects RX5 yX5_goOnInside yX5_goOnInside ∈ GW := gw_mem 63 (by decide +kernel) rfl
theorem hdV_yX5_goOnInside : yX5_goOnInside.cls = RX5 ∧ yX5_goOnInside.cls ≠ "java/lang/invoke/MethodHandle" ∧ yX5_goOnInside.cls ≠ "java/lang/invoke/VarHandle" ∧ (parseMethodDescriptor yX5_goOnInside.desc).map (fun d => d.parameters.length) = some 1 := by decide +kernel
theorem w1434 : Cond.code yX5_goOnWorking cX5_goOnWorking 2 none ∈ GW := gw_k tk9_6 79 (rfl) rfl
theorem w1431 : Cond.methodLink RX5 87 yX5_goOnWorking ∈ GW := gw_k tk9_6 76 (by decide +kernel) rfl
theorem w1433 : Cond.instanceMethod yX5_goOnWorking ∈ GW := gw_k tk9_6 78 (by decide +kernel) rfl
theorem w67 : Cond.selects RX5 yX5_goOnWorking yX5_goOnWorking ∈ GW := gw_mem 67 (by decide +kernel) rfl
theorem hdV_yX5_goOnWorking : yX5_goOnWorking.cls = RX5 ∧ yX5_goOnWorking.cls ≠ "java/lang/invoke/MethodHandle" ∧ yX5_goOnWorking.cls ≠ "java/lang/invoke/VarHandle" ∧ (parseMethodDescriptor yX5_goOnWorking.desc).map (fun d => d.parameters.length) = some 1 := by decide +kernel
theorem w1496 : Cond.code yX5_goOnClosing cX5_goOnClosing 4 none ∈ GW := gw_k tk9_6 141 (rfl) rfl
theorem w1493 : Cond.methodLink RX5 90 yX5_goOnClosing ∈ GW := gw_k tk9_6 138 (by decide +kernel) rfl
theorem w1495 : Cond.instanceMethod yX5_goOnClosing ∈ GW := gw_k tk9_6 140 (by decide +kernel) rfl
theorem w78 : Cond.selects RX5 yX5_goOnClosing yX5_goOnClosing ∈ GW := gw_mem 78 (by decide +kernel) rfl
theorem hdV_yX5_goOnClosing : yX5_goOnClosing.cls = RX5 ∧ yX5_goOnClosing.cls ≠ "java/lang/invoke/MethodHandle" ∧ yX5_goOnClosing.cls ≠ "java/lang/invoke/VarHandle" ∧ (parseMethodDescriptor yX5_goOnClosing.desc).map (fun d => d.parameters.length) = some 1 := by decide +kernel
theorem dk9_dX5_run_0_0 : dOk cX5_run [(0, .iconst 0, 1), (1, .istore_n 1, 1), (2, .iload_n 1, 1), (3, .ldc 70, 2), (5, .if_icmp .ge 110, 3), (115, .return_, 1), (8, .aload_n 0, 1), (9, .getfield 39, 3), (12, .ifCond .le 103, 3), (15, .aload_n 0, 1), (16, .getfield 13, 3), (19, .aload_n 0, 1), (20, .getfield 39, 3), (23, .iconst 1, 1), (24, .isub, 1), (25, .aaload, 1), (26, .astore_n 2, 1), (27, .aload_n 2, 1), (28, .getfield 71, 3), (31, .tableswitch 73 0 4 #[33, 41, 49, 57, 65], 33), (64, .aload_n 0, 1), (65, .aload_n 2, 1), (66, .invokevirtual 74, 3), (69, .goto 40, 3)] = true ∧ dOk cX5_run [(109, .iinc 1 1, 3), (112, .goto (-110), 3), (72, .aload_n 0, 1), (73, .aload_n 2, 1), (74, .invokevirtual 78, 3), (77, .goto 32, 3), (80, .aload_n 0, 1), (81, .aload_n 2, 1), (82, .invokevirtual 81, 3), (85, .goto 24, 3), (88, .aload_n 0, 1), (89, .aload_n 2, 1), (90, .invokevirtual 84, 3), (93, .goto 16, 3), (96, .aload_n 0, 1), (97, .aload_n 2, 1), (98, .invokevirtual 87, 3), (101, .goto 8, 3), (104, .aload_n 0, 1), (105, .aload_n 2, 1), (106, .invokevirtual 90, 3)] = true := by decide +kernel
theorem dX5_run_0 : decode cX5_run 0 = .ok (.iconst 0, 1) := dr9 dk9_dX5_run_0_0.1 0 (0, .iconst 0, 1) rfl
theorem dX5_run_1 : decode cX5_run 1 = .ok (.istore_n 1, 1) := dr9 dk9_dX5_run_0_0.1 1 (1, .istore_n 1, 1) rfl
theorem dX5_run_2 : decode cX5_run 2 = .ok (.iload_n 1, 1) := dr9 dk9_dX5_run_0_0.1 2 (2, .iload_n 1, 1) rfl
theorem dX5_run_3 : decode cX5_run 3 = .ok (.ldc 70, 2) := dr9 dk9_dX5_run_0_0.1 3 (3, .ldc 70, 2) rfl
theorem dX5_run_5 : decode cX5_run 5 = .ok (.if_icmp .ge 110, 3) := dr9 dk9_dX5_run_0_0.1 4 (5, .if_icmp .ge 110, 3) rfl
theorem dX5_run_115 : decode cX5_run 115 = .ok (.return_, 1) := dr9 dk9_dX5_run_0_0.1 5 (115, .return_, 1) rfl
theorem dX5_run_8 : decode cX5_run 8 = .ok (.aload_n 0, 1) := dr9 dk9_dX5_run_0_0.1 6 (8, .aload_n 0, 1) rfl
theorem dX5_run_9 : decode cX5_run 9 = .ok (.getfield 39, 3) := dr9 dk9_dX5_run_0_0.1 7 (9, .getfield 39, 3) rfl
theorem dX5_run_12 : decode cX5_run 12 = .ok (.ifCond .le 103, 3) := dr9 dk9_dX5_run_0_0.1 8 (12, .ifCond .le 103, 3) rfl
theorem dX5_run_15 : decode cX5_run 15 = .ok (.aload_n 0, 1) := dr9 dk9_dX5_run_0_0.1 9 (15, .aload_n 0, 1) rfl
theorem dX5_run_16 : decode cX5_run 16 = .ok (.getfield 13, 3) := dr9 dk9_dX5_run_0_0.1 10 (16, .getfield 13, 3) rfl
theorem dX5_run_19 : decode cX5_run 19 = .ok (.aload_n 0, 1) := dr9 dk9_dX5_run_0_0.1 11 (19, .aload_n 0, 1) rfl
theorem dX5_run_20 : decode cX5_run 20 = .ok (.getfield 39, 3) := dr9 dk9_dX5_run_0_0.1 12 (20, .getfield 39, 3) rfl
theorem dX5_run_23 : decode cX5_run 23 = .ok (.iconst 1, 1) := dr9 dk9_dX5_run_0_0.1 13 (23, .iconst 1, 1) rfl
theorem dX5_run_24 : decode cX5_run 24 = .ok (.isub, 1) := dr9 dk9_dX5_run_0_0.1 14 (24, .isub, 1) rfl
theorem dX5_run_25 : decode cX5_run 25 = .ok (.aaload, 1) := dr9 dk9_dX5_run_0_0.1 15 (25, .aaload, 1) rfl
theorem dX5_run_26 : decode cX5_run 26 = .ok (.astore_n 2, 1) := dr9 dk9_dX5_run_0_0.1 16 (26, .astore_n 2, 1) rfl
theorem dX5_run_27 : decode cX5_run 27 = .ok (.aload_n 2, 1) := dr9 dk9_dX5_run_0_0.1 17 (27, .aload_n 2, 1) rfl
theorem dX5_run_28 : decode cX5_run 28 = .ok (.getfield 71, 3) := dr9 dk9_dX5_run_0_0.1 18 (28, .getfield 71, 3) rfl
theorem dX5_run_31 : decode cX5_run 31 = .ok (.tableswitch 73 0 4 #[33, 41, 49, 57, 65], 33) := dr9 dk9_dX5_run_0_0.1 19 (31, .tableswitch 73 0 4 #[33, 41, 49, 57, 65], 33) rfl
theorem dX5_run_64 : decode cX5_run 64 = .ok (.aload_n 0, 1) := dr9 dk9_dX5_run_0_0.1 20 (64, .aload_n 0, 1) rfl
theorem dX5_run_65 : decode cX5_run 65 = .ok (.aload_n 2, 1) := dr9 dk9_dX5_run_0_0.1 21 (65, .aload_n 2, 1) rfl
theorem dX5_run_66 : decode cX5_run 66 = .ok (.invokevirtual 74, 3) := dr9 dk9_dX5_run_0_0.1 22 (66, .invokevirtual 74, 3) rfl
theorem dX5_run_69 : decode cX5_run 69 = .ok (.goto 40, 3) := dr9 dk9_dX5_run_0_0.1 23 (69, .goto 40, 3) rfl
theorem dX5_run_109 : decode cX5_run 109 = .ok (.iinc 1 1, 3) := dr9 dk9_dX5_run_0_0.2 0 (109, .iinc 1 1, 3) rfl
theorem dX5_run_112 : decode cX5_run 112 = .ok (.goto (-110), 3) := dr9 dk9_dX5_run_0_0.2 1 (112, .goto (-110), 3) rfl
theorem dX5_run_72 : decode cX5_run 72 = .ok (.aload_n 0, 1) := dr9 dk9_dX5_run_0_0.2 2 (72, .aload_n 0, 1) rfl
theorem dX5_run_73 : decode cX5_run 73 = .ok (.aload_n 2, 1) := dr9 dk9_dX5_run_0_0.2 3 (73, .aload_n 2, 1) rfl
theorem dX5_run_74 : decode cX5_run 74 = .ok (.invokevirtual 78, 3) := dr9 dk9_dX5_run_0_0.2 4 (74, .invokevirtual 78, 3) rfl
theorem dX5_run_77 : decode cX5_run 77 = .ok (.goto 32, 3) := dr9 dk9_dX5_run_0_0.2 5 (77, .goto 32, 3) rfl
theorem dX5_run_80 : decode cX5_run 80 = .ok (.aload_n 0, 1) := dr9 dk9_dX5_run_0_0.2 6 (80, .aload_n 0, 1) rfl
theorem dX5_run_81 : decode cX5_run 81 = .ok (.aload_n 2, 1) := dr9 dk9_dX5_run_0_0.2 7 (81, .aload_n 2, 1) rfl
theorem dX5_run_82 : decode cX5_run 82 = .ok (.invokevirtual 81, 3) := dr9 dk9_dX5_run_0_0.2 8 (82, .invokevirtual 81, 3) rfl
theorem dX5_run_85 : decode cX5_run 85 = .ok (.goto 24, 3) := dr9 dk9_dX5_run_0_0.2 9 (85, .goto 24, 3) rfl
theorem dX5_run_88 : decode cX5_run 88 = .ok (.aload_n 0, 1) := dr9 dk9_dX5_run_0_0.2 10 (88, .aload_n 0, 1) rfl
theorem dX5_run_89 : decode cX5_run 89 = .ok (.aload_n 2, 1) := dr9 dk9_dX5_run_0_0.2 11 (89, .aload_n 2, 1) rfl
theorem dX5_run_90 : decode cX5_run 90 = .ok (.invokevirtual 84, 3) := dr9 dk9_dX5_run_0_0.2 12 (90, .invokevirtual 84, 3) rfl
theorem dX5_run_93 : decode cX5_run 93 = .ok (.goto 16, 3) := dr9 dk9_dX5_run_0_0.2 13 (93, .goto 16, 3) rfl
theorem dX5_run_96 : decode cX5_run 96 = .ok (.aload_n 0, 1) := dr9 dk9_dX5_run_0_0.2 14 (96, .aload_n 0, 1) rfl
theorem dX5_run_97 : decode cX5_run 97 = .ok (.aload_n 2, 1) := dr9 dk9_dX5_run_0_0.2 15 (97, .aload_n 2, 1) rfl
theorem dX5_run_98 : decode cX5_run 98 = .ok (.invokevirtual 87, 3) := dr9 dk9_dX5_run_0_0.2 16 (98, .invokevirtual 87, 3) rfl
theorem dX5_run_101 : decode cX5_run 101 = .ok (.goto 8, 3) := dr9 dk9_dX5_run_0_0.2 17 (101, .goto 8, 3) rfl
theorem dX5_run_104 : decode cX5_run 104 = .ok (.aload_n 0, 1) := dr9 dk9_dX5_run_0_0.2 18 (104, .aload_n 0, 1) rfl
theorem dX5_run_105 : decode cX5_run 105 = .ok (.aload_n 2, 1) := dr9 dk9_dX5_run_0_0.2 19 (105, .aload_n 2, 1) rfl
theorem dX5_run_106 : decode cX5_run 106 = .ok (.invokevirtual 90, 3) := dr9 dk9_dX5_run_0_0.2 20 (106, .invokevirtual 90, 3) rfl
abbrev r_x_run (Z : XZ) : Room := { frames := 7, cells := zcc Z, slots := zss Z, locals := 159 }
abbrev q_x_run (D : va_G) (ks : KS) (ad : Nat → Nat) (kk : Nat → ClassId) (V : Vf) (L : Lf) (Z : XZ) (b : Nat) (A : Nat → Prop) : Array Value → State → Outcome → State → Prop := qZv D (fun (u : Vf × Lf × XZ) => rgd bX u.1 ∧ agr [(3, 13), (3, 14), (3, 15), (4, 5), (4, 6), (5, 6), (5, 7), (5, 8), (5, 9), (5, 10), (5, 11), (5, 12), (5, 13), (5, 14)] [24, 25, 26, 27, 28, 29, 30, 31, 32, 33, 34, 35, 36, 37, 39, 40, 67, 68, 69, 70, 71, 72, 73, 74, 75, 76, 77, 78, 79, 80, 81, 82, 83, 84, 85] V u.1 ∧ u.2.1 = L ∧ ZL Z u.2.2 ∧ (MJ u.1 u.2.2 b)) (fun u => xw ad kk u.1 u.2.1 u.2.2) (fun u => xty kk u.2.2) (fun u => zcc Z - zcc u.2.2) (fun u => zss Z - zss u.2.2) A
set_option maxHeartbeats 4000000 in
set_option maxRecDepth 100000 in
theorem x_run (l : Launch) (D : va_G) (ks : KS) (sz : Nat) (ad : Nat → Nat) (kk : Nat → ClassId) (V : Vf) (L : Lf) (Z : XZ) (b : Nat) (hMV : rgd bX V) (hb2 : b < 2) (mj : MJ V Z b)  : Met l yX5_run (Cond.code yX5_run cX5_run 3 none :: GW) (r_x_run Z) (va_Pc [.ref (ad 5)] (gp D ks (xw ad kk V L Z) (xty kk Z) sz)) (q_x_run D ks ad kk V L Z  b (va_A (xw ad kk V L Z) sz)) (zcc Z) (zss Z) (va_A (xw ad kk V L Z) sz) := by
  refine g_met (q_x_run D ks ad kk V L Z  b) (by decide) (Nat.le_of_ble_eq_true rfl) ?_
  intro p e s m below meth c A ls H locs hx hb hr hml hown hg hlocks hin hnw hgk hP hK hD hS hA hl
  have hown : s.vm.findClass RX5 = some m.cls := hown
  have hl : lv_has ls 3 [(0, .ref (ad 5))] := hl
  have hP : va_P D vwCl (xw ad kk V L Z) H := hP
  have hD : va_D A (xw ad kk V L Z) := hD
  have hK : va_K D vwCl (xty kk Z) s := hK
  have agV : agr [(3, 13), (3, 14), (3, 15), (4, 5), (4, 6), (5, 6), (5, 7), (5, 8), (5, 9), (5, 10), (5, 11), (5, 12), (5, 13), (5, 14)] [24, 25, 26, 27, 28, 29, 30, 31, 32, 33, 34, 35, 36, 37, 39, 40, 67, 68, 69, 70, 71, 72, 73, 74, 75, 76, 77, 78, 79, 80, 81, 82, 83, 84, 85] V V := agr.rf
  have zoZ : ZL Z Z := ZL.rf
  refine W.know (fun ka kb => ?_)
  refine W.tight (k := zcc Z - zcc Z) (n := zss Z - zss Z) (by omega) (by omega) ?_
  refine lv_iconst (v := 0) hx hb dX5_run_0 (by decide) ?_
  refine lv_istore_n (lv' := [(1, .int 0), (0, .ref (ad 5))]) hx hb dX5_run_1 rfl hl (by decide) rfl (fun ls hl => ?_)
  have lp4 : ∀ (fulp4 : Nat) (y1 : Int32) (V2 : Vf) (Z3 : XZ) (H : Heap) (locs : List Loc) (ls : Array Slot), 0 ≤ y1.toInt ∧ y1.toInt ≤ 1000000 → MJ V2 Z3 b → 1000000 - y1.toInt < (fulp4 : Int) → agr [(3, 13), (3, 14), (3, 15), (4, 5), (4, 6), (5, 6), (5, 7), (5, 8), (5, 9), (5, 10), (5, 11), (5, 12), (5, 13), (5, 14)] [24, 25, 26, 27, 28, 29, 30, 31, 32, 33, 34, 35, 36, 37, 39, 40, 67, 68, 69, 70, 71, 72, 73, 74, 75, 76, 77, 78, 79, 80, 81, 82, 83, 84, 85] V V2 → rgd bX V2 → ZL Z Z3 → va_K D vwCl (xty kk Z3) s → va_P D vwCl (xw ad kk V2 L Z3) H → va_D A (xw ad kk V2 L Z3) → va_S A s.heap H locs → lv_has ls 3 [(1, .int y1), (0, .ref (ad 5))] → W p l e (r_x_run Z) s m ([.ref (ad 5)] : List Value).toArray below meth c H locs (zcc Z - zcc Z3) (zss Z - zss Z3) (MQ below (q_x_run D ks ad kk V L Z  b A) ([.ref (ad 5)] : List Value).toArray s (zcc Z) (zss Z) A) (F0 m 2 ls []) := by
    intro fulp4
    induction fulp4 with
    | zero =>
      intro y1 V2 Z3 H locs ls klp4_0 xlp4_0 hn ajV2 hMV2 zoZ3 hK hP hD hS hl
      exfalso; (first | exact om_13e3f9559dcb klp4_0.2 hn | omega)
    | succ fulp4 ihlp4 =>
      intro y1 V2 Z3 H locs ls klp4_0 xlp4_0 hn ajV2 hMV2 zoZ3 hK hP hD hS hl
      have agV2 : agr [(3, 13), (3, 14), (3, 15), (4, 5), (4, 6), (5, 6), (5, 7), (5, 8), (5, 9), (5, 10), (5, 11), (5, 12), (5, 13), (5, 14)] [24, 25, 26, 27, 28, 29, 30, 31, 32, 33, 34, 35, 36, 37, 39, 40, 67, 68, 69, 70, 71, 72, 73, 74, 75, 76, 77, 78, 79, 80, 81, 82, 83, 84, 85] V V2 := agV.tr ajV2 (by decide) (by decide)
      have zmZ3 := zoZ3.1
      have znZ3 := zoZ3.2.1
      refine lv_iload_n hx hb dX5_run_2 rfl (lv_at hl 0 rfl) ?_
      refine lv_ldc (v := 1000000) hx hb hown (hg _ w1251) dX5_run_3 ?_
      refine lv_icmp_ge (tgt := 115) hx hb dX5_run_5 (by decide) (fun c5 => ?_) (fun c5 => ?_)
      · skip
        have f6 : 1000000 ≤ y1.toInt := b_le (by decide) rfl c5
        refine W.know (fun kr1 kr2 => ?_)
        refine W.widen (k := zcc Z) (n := zss Z) (Nat.sub_le _ _) (Nat.sub_le _ _) ?_
        exact W.vret hx hb hr (fun t ht hW => ⟨⟨(V2, L, Z3), rfl, ⟨hMV2, agV2, rfl, zoZ3, xlp4_0⟩, ⟨by rw [ht]; exact hP, va_K.moved hW.alike hK, hD⟩, by rw [ht]; exact kr1, by rw [ht]; exact kr2⟩, hS.F ht⟩) hS.2.2 dX5_run_115
      · skip
        have f7 : y1.toInt < 1000000 := b_nle (by decide) rfl c5
        refine lv_aload_n hx hb dX5_run_8 rfl (lv_at hl 1 rfl) ?_
        refine va_get (D := D) (ci := 5) (v := .int (V2 5 6)) (fs := (xfMachine ad V2 L Z3)) (C := RX5) (T := TX5) (N := 15) hx hb hg inX5 hown hK hP 5 xgMachine rfl 6 (by decide) (hg _ w673) (fun _ h9 => h9) rfl dX5_run_9 ?_
        have r8 : 0 ≤ ((V2 5 6)).toInt ∧ ((V2 5 6)).toInt ≤ 400 := hMV2 5 6
        refine lv_if_le (tgt := 115) hx hb dX5_run_12 (by decide) (fun c9 => ?_) (fun c9 => ?_)
        · skip
          have f10 : ((V2 5 6)).toInt ≤ 0 := b_le rfl (by decide) c9
          refine W.know (fun kr1 kr2 => ?_)
          refine W.widen (k := zcc Z) (n := zss Z) (Nat.sub_le _ _) (Nat.sub_le _ _) ?_
          exact W.vret hx hb hr (fun t ht hW => ⟨⟨(V2, L, Z3), rfl, ⟨hMV2, agV2, rfl, zoZ3, xlp4_0⟩, ⟨by rw [ht]; exact hP, va_K.moved hW.alike hK, hD⟩, by rw [ht]; exact kr1, by rw [ht]; exact kr2⟩, hS.F ht⟩) hS.2.2 dX5_run_115
        · skip
          have f11 : 0 < ((V2 5 6)).toInt := b_nle rfl (by decide) c9
          have hdn := MJ.dn xlp4_0 (by (first | exact om_610a4af05d44 f11 | omega))
          refine lv_aload_n hx hb dX5_run_15 rfl (lv_at hl 1 rfl) ?_
          refine va_get (D := D) (ci := 5) (v := .ref (ad 35)) (fs := (xfMachine ad V2 L Z3)) (C := RX5) (T := TX5) (N := 15) hx hb hg inX5 hown hK hP 5 xgMachine rfl 2 (by decide) (hg _ w669) (fun _ h9 => h9) rfl dX5_run_16 ?_
          refine lv_aload_n hx hb dX5_run_19 rfl (lv_at hl 1 rfl) ?_
          refine va_get (D := D) (ci := 5) (v := .int (V2 5 6)) (fs := (xfMachine ad V2 L Z3)) (C := RX5) (T := TX5) (N := 15) hx hb hg inX5 hown hK hP 5 xgMachine rfl 6 (by decide) (hg _ w673) (fun _ h9 => h9) rfl dX5_run_20 ?_
          refine lv_iconst (v := 1) hx hb dX5_run_23 (by decide) ?_
          refine lv_isub hx hb dX5_run_24 ?_
          refine lv_topi (fun z12 ez12 => ?_)
          have hz12 : z12.toInt = ((V2 5 6)).toInt - 1 := i_sub ez12 rfl (by decide) (by (first | exact om_3d6fa717bec1 r8.2 f11 | omega))
          refine va_aldq (D := D) (i := z12) hx hb hK hP 35 28 rfl rfl (i_in (a := z12.toInt) rfl (by (first | exact om_138cba0bf25b r8.2 f11 hz12 | omega))) dX5_run_25 ?_
          have kc13 := i_clamp (x := z12) rfl (by (first | exact om_9271d0948665 f11 hz12 | omega))
          refine g_topv (v := .ref (Z3.fa (Int32.toNatClampNeg z12))) (by exact congrArg va_rf (if_pos (by omega))) ?_
          have il14 : (Int32.toNatClampNeg z12) < Z3.nf := by (first | exact om_ea4c74f9597c hdn.1 hz12 kc13 | omega)
          refine lv_astore_n (lv' := [(2, .ref (Z3.fa (Int32.toNatClampNeg z12))), (1, .int y1), (0, .ref (ad 5))]) hx hb dX5_run_26 rfl hl (by decide) rfl (fun ls hl => ?_)
          refine lv_aload_n hx hb dX5_run_27 rfl (lv_at hl 0 rfl) ?_
          refine va_getN (D := D) (ci := 4) (v := .int (V2 67 (Int32.toNatClampNeg z12))) (fs := (xfFrame V2 (Int32.toNatClampNeg z12))) (C := RX4) (T := TX4) (N := 19) hx hb hg inX4 hown hK hP (336 + (Int32.toNatClampNeg z12)) (xgFrame il14) rfl 0 (by decide) (hnw.use 1189 n1189 rfl) (fun _ h9 => h9) rfl dX5_run_28 ?_
          by_cases q15 : (V2 67 (Int32.toNatClampNeg z12)) = 0
          · refine g_top (v := 0) q15 ?_
            have fq15 : ((V2 67 (Int32.toNatClampNeg z12))).toInt = 0 := b_eq rfl (by decide) q15
            refine lv_tableIn (x := 0) (off := 33) (tgt := 64) hx hb dX5_run_31 (by decide) (by decide) (by decide) (by decide) ?_
            refine lv_aload_n hx hb dX5_run_64 rfl (lv_at hl 2 rfl) ?_
            refine lv_aload_n hx hb dX5_run_65 rfl (lv_at hl 0 rfl) ?_
            refine W.know (fun k17 k18 => ?_)
            obtain ⟨Hk16, hHk16⟩ : ∃ z, z = H := ⟨_, rfl⟩
            have k17 : Hk16.size ≤ s.heap.size + (zcc Z - zcc Z3) := by rw [hHk16]; exact k17
            have k18 : tot Hk16 ≤ tot s.heap + (zss Z - zss Z3) := by rw [hHk16]; exact k18
            refine gZ_void (gA_runV (As := [.ref (Z3.fa (Int32.toNatClampNeg z12))]) (rest := []) (ci := 5) (q0 := 5) hx hb hml hown hg hP hD hK hS hA hnw hgk (x_goOnGetting l D ks H.size ad kk V2 L Z3 (b) ((Int32.toNatClampNeg z12)) hMV2 (show b < 2 from by (first | exact om_f940a4667dd6 hb2 | omega)) (show (Int32.toNatClampNeg z12) < Z3.nf from by (first | exact om_8c5722e49bb1 il14 | omega)) (MJ.op (d := (Int32.toNatClampNeg z12)) xlp4_0 (by omega)) (show ((Int32.toNatClampNeg z12) : Int) + 1 = (V2 5 6).toInt from by (first | exact om_c968828d0a40 hz12 kc13 | omega)) (show (V2 67 (Int32.toNatClampNeg z12)).toInt = 0 from by (first | exact om_b66ba74381d5 fq15 | omega))) w1252 w1254 w44 w171 w1255 rfl xgMachine hdV_yX5_goOnGetting ⟨Nat.le_of_ble_eq_true rfl, Nat.le_of_ble_eq_true rfl⟩ rfl hl.1 rfl (Nat.le_of_ble_eq_true rfl) dX5_run_66 ⟨z1 zoZ3.1, z1 zoZ3.2.1⟩) hD hS hA (fun u20 H locs w21 hP hD hK hS y22 y23 => ?_)
            obtain ⟨V24, L25, Z26⟩ := u20
            obtain ⟨hMV24, ajV24, axL25, zlZ26, t28⟩ := w21
            have axL25 : L = L25 := Eq.symm axL25
            subst axL25
            have hP : va_P D vwCl (xw ad kk V24 L Z26) H := hP
            have hD : va_D A (xw ad kk V24 L Z26) := hD
            have hK : va_K D vwCl (xty kk Z26) s := hK
            have hMV24 : rgd bX V24 := hMV24
            have ajV24 : agr [(3, 13), (5, 6), (5, 8), (5, 9), (5, 10), (5, 11), (5, 12), (5, 13), (5, 14)] [25, 26, 27, 28, 30, 67, 68, 69, 70, 71, 72, 73, 74, 75, 76, 77, 78, 79, 80, 81, 82, 83, 84, 85] V2 V24 := ajV24
            have agV24 : agr [(3, 13), (3, 14), (3, 15), (4, 5), (4, 6), (5, 6), (5, 7), (5, 8), (5, 9), (5, 10), (5, 11), (5, 12), (5, 13), (5, 14)] [24, 25, 26, 27, 28, 29, 30, 31, 32, 33, 34, 35, 36, 37, 39, 40, 67, 68, 69, 70, 71, 72, 73, 74, 75, 76, 77, 78, 79, 80, 81, 82, 83, 84, 85] V V24 := agV2.tr ajV24 (by decide) (by decide)
            have zlZ26 : ZL Z3 Z26 := zlZ26
            have zoZ26 : ZL Z Z26 := ZL.tr zoZ3 zlZ26
            have ziZ26 := zlZ26.1
            have zjZ26 := zlZ26.2.1
            have zkZ26 := zlZ26.2.2.1
            have zmZ26 := zoZ26.1
            have znZ26 := zoZ26.2.1
            have zpZ3_Z26 := zoZ3.1
            have zqZ3_Z26 := zoZ3.2.1
            have y22 : H.size ≤ Hk16.size + (zcc Z3 - zcc Z26) := by rw [hHk16]; exact y22
            have y23 : tot H ≤ tot Hk16 + (zss Z3 - zss Z26) := by rw [hHk16]; exact y23
            refine W.tight (k := zcc Z - zcc Z26) (n := zss Z - zss Z26) (by first | exact tg9 y22 k17 zlZ26.1 zoZ3.1 | omega) (by first | exact tg9 y23 k18 zlZ26.2.1 zoZ3.2.1 | omega) ?_
            have hl : lv_has ls 3 [(2, .ref (Z26.fa (Int32.toNatClampNeg z12))), (1, .int y1), (0, .ref (ad 5))] := by rw [zlZ26.2.2.2.2 (Int32.toNatClampNeg z12) il14]; exact hl
            have t28 : MJ V24 Z26 b := t28
            refine lv_goto (tgt := 109) hx hb dX5_run_69 (by decide) ?_
            obtain ⟨z29, ez29⟩ : ∃ y : Int32, y = y1 + 1 := ⟨_, rfl⟩
            have hz29 : z29.toInt = y1.toInt + 1 := i_add ez29 rfl (by decide) (by (first | exact om_7cfca28772a4 klp4_0.1 f7 | omega))
            refine lv_iinc (v := z29) (lv' := [(1, .int z29), (2, .ref (Z26.fa (Int32.toNatClampNeg z12))), (0, .ref (ad 5))]) hx hb dX5_run_109 hl (k := 1) rfl (by rw [ez29]; rfl) (by decide) rfl (fun ls hl => ?_)
            refine lv_goto (tgt := 2) hx hb dX5_run_112 (by decide) ?_
            exact ihlp4 z29 V24 Z26 H locs ls (by (first | exact om_6036b630f734 klp4_0.1 f7 hz29 | omega)) t28 (by (first | exact om_4c597ccc4a45 hn hz29 | omega)) (agr.tr (agr.tr agr.rf ajV2 (by decide) (by decide)) ajV24 (by decide) (by decide)) hMV24 zoZ26 hK hP hD hS (lv_sub hl [0, 2] rfl)
          have gq15 : ((V2 67 (Int32.toNatClampNeg z12))).toInt ≠ 0 := b_neq rfl (by decide) q15
          by_cases q30 : (V2 67 (Int32.toNatClampNeg z12)) = 1
          · refine g_top (v := 1) q30 ?_
            have fq30 : ((V2 67 (Int32.toNatClampNeg z12))).toInt = 1 := b_eq rfl (by decide) q30
            refine lv_tableIn (x := 1) (off := 41) (tgt := 72) hx hb dX5_run_31 (by decide) (by decide) (by decide) (by decide) ?_
            refine lv_aload_n hx hb dX5_run_72 rfl (lv_at hl 2 rfl) ?_
            refine lv_aload_n hx hb dX5_run_73 rfl (lv_at hl 0 rfl) ?_
            refine W.know (fun k32 k33 => ?_)
            obtain ⟨Hk31, hHk31⟩ : ∃ z, z = H := ⟨_, rfl⟩
            have k32 : Hk31.size ≤ s.heap.size + (zcc Z - zcc Z3) := by rw [hHk31]; exact k32
            have k33 : tot Hk31 ≤ tot s.heap + (zss Z - zss Z3) := by rw [hHk31]; exact k33
            refine gZ_void (gA_runV (As := [.ref (Z3.fa (Int32.toNatClampNeg z12))]) (rest := []) (ci := 5) (q0 := 5) hx hb hml hown hg hP hD hK hS hA hnw hgk (x_goOnMaking l D ks H.size ad kk V2 L Z3 (b) ((Int32.toNatClampNeg z12)) hMV2 (show b < 2 from by (first | exact om_f940a4667dd6 hb2 | omega)) (show (Int32.toNatClampNeg z12) < Z3.nf from by (first | exact om_8c5722e49bb1 il14 | omega)) (MJ.op (d := (Int32.toNatClampNeg z12)) xlp4_0 (by omega)) (show ((Int32.toNatClampNeg z12) : Int) + 1 = (V2 5 6).toInt from by (first | exact om_c968828d0a40 hz12 kc13 | omega)) (show (V2 67 (Int32.toNatClampNeg z12)).toInt = 1 from by (first | exact om_710535a98d88 fq30 | omega))) w1328 w1330 w53 w171 w1331 rfl xgMachine hdV_yX5_goOnMaking ⟨Nat.le_of_ble_eq_true rfl, Nat.le_of_ble_eq_true rfl⟩ rfl hl.1 rfl (Nat.le_of_ble_eq_true rfl) dX5_run_74 ⟨z1 zoZ3.1, z1 zoZ3.2.1⟩) hD hS hA (fun u35 H locs w36 hP hD hK hS y37 y38 => ?_)
            obtain ⟨V39, L40, Z41⟩ := u35
            obtain ⟨hMV39, ajV39, axL40, zlZ41, t43⟩ := w36
            have axL40 : L = L40 := Eq.symm axL40
            subst axL40
            have hP : va_P D vwCl (xw ad kk V39 L Z41) H := hP
            have hD : va_D A (xw ad kk V39 L Z41) := hD
            have hK : va_K D vwCl (xty kk Z41) s := hK
            have hMV39 : rgd bX V39 := hMV39
            have ajV39 : agr [(3, 13), (3, 14), (3, 15), (5, 6), (5, 8), (5, 9), (5, 10), (5, 11), (5, 12), (5, 13), (5, 14)] [24, 25, 26, 27, 28, 29, 30, 31, 32, 40, 67, 68, 69, 70, 71, 72, 73, 74, 75, 76, 77, 78, 79, 80, 81, 82, 83, 84, 85] V2 V39 := ajV39
            have agV39 : agr [(3, 13), (3, 14), (3, 15), (4, 5), (4, 6), (5, 6), (5, 7), (5, 8), (5, 9), (5, 10), (5, 11), (5, 12), (5, 13), (5, 14)] [24, 25, 26, 27, 28, 29, 30, 31, 32, 33, 34, 35, 36, 37, 39, 40, 67, 68, 69, 70, 71, 72, 73, 74, 75, 76, 77, 78, 79, 80, 81, 82, 83, 84, 85] V V39 := agV2.tr ajV39 (by decide) (by decide)
            have zlZ41 : ZL Z3 Z41 := zlZ41
            have zoZ41 : ZL Z Z41 := ZL.tr zoZ3 zlZ41
            have ziZ41 := zlZ41.1
            have zjZ41 := zlZ41.2.1
            have zkZ41 := zlZ41.2.2.1
            have zmZ41 := zoZ41.1
            have znZ41 := zoZ41.2.1
            have zpZ3_Z41 := zoZ3.1
            have zqZ3_Z41 := zoZ3.2.1
            have y37 : H.size ≤ Hk31.size + (zcc Z3 - zcc Z41) := by rw [hHk31]; exact y37
            have y38 : tot H ≤ tot Hk31 + (zss Z3 - zss Z41) := by rw [hHk31]; exact y38
            refine W.tight (k := zcc Z - zcc Z41) (n := zss Z - zss Z41) (by first | exact tg9 y37 k32 zlZ41.1 zoZ3.1 | omega) (by first | exact tg9 y38 k33 zlZ41.2.1 zoZ3.2.1 | omega) ?_
            have hl : lv_has ls 3 [(2, .ref (Z41.fa (Int32.toNatClampNeg z12))), (1, .int y1), (0, .ref (ad 5))] := by rw [zlZ41.2.2.2.2 (Int32.toNatClampNeg z12) il14]; exact hl
            have t43 : MJ V39 Z41 b := t43
            refine lv_goto (tgt := 109) hx hb dX5_run_77 (by decide) ?_
            obtain ⟨z44, ez44⟩ : ∃ y : Int32, y = y1 + 1 := ⟨_, rfl⟩
            have hz44 : z44.toInt = y1.toInt + 1 := i_add ez44 rfl (by decide) (by (first | exact om_7cfca28772a4 klp4_0.1 f7 | omega))
            refine lv_iinc (v := z44) (lv' := [(1, .int z44), (2, .ref (Z41.fa (Int32.toNatClampNeg z12))), (0, .ref (ad 5))]) hx hb dX5_run_109 hl (k := 1) rfl (by rw [ez44]; rfl) (by decide) rfl (fun ls hl => ?_)
            refine lv_goto (tgt := 2) hx hb dX5_run_112 (by decide) ?_
            exact ihlp4 z44 V39 Z41 H locs ls (by (first | exact om_6036b630f734 klp4_0.1 f7 hz44 | omega)) t43 (by (first | exact om_4c597ccc4a45 hn hz44 | omega)) (agr.tr (agr.tr agr.rf ajV2 (by decide) (by decide)) ajV39 (by decide) (by decide)) hMV39 zoZ41 hK hP hD hS (lv_sub hl [0, 2] rfl)
          have gq30 : ((V2 67 (Int32.toNatClampNeg z12))).toInt ≠ 1 := b_neq rfl (by decide) q30
          by_cases q45 : (V2 67 (Int32.toNatClampNeg z12)) = 2
          · refine g_top (v := 2) q45 ?_
            have fq45 : ((V2 67 (Int32.toNatClampNeg z12))).toInt = 2 := b_eq rfl (by decide) q45
            refine lv_tableIn (x := 2) (off := 49) (tgt := 80) hx hb dX5_run_31 (by decide) (by decide) (by decide) (by decide) ?_
            refine lv_aload_n hx hb dX5_run_80 rfl (lv_at hl 2 rfl) ?_
            refine lv_aload_n hx hb dX5_run_81 rfl (lv_at hl 0 rfl) ?_
            refine W.know (fun k47 k48 => ?_)
            obtain ⟨Hk46, hHk46⟩ : ∃ z, z = H := ⟨_, rfl⟩
            have k47 : Hk46.size ≤ s.heap.size + (zcc Z - zcc Z3) := by rw [hHk46]; exact k47
            have k48 : tot Hk46 ≤ tot s.heap + (zss Z - zss Z3) := by rw [hHk46]; exact k48
            refine gZ_void (gA_runV (As := [.ref (Z3.fa (Int32.toNatClampNeg z12))]) (rest := []) (ci := 5) (q0 := 5) hx hb hml hown hg hP hD hK hS hA hnw hgk (x_goOnCalling l D ks H.size ad kk V2 L Z3 (b) ((Int32.toNatClampNeg z12)) hMV2 (show b < 2 from by (first | exact om_f940a4667dd6 hb2 | omega)) (show (Int32.toNatClampNeg z12) < Z3.nf from by (first | exact om_8c5722e49bb1 il14 | omega)) (MJ.op (d := (Int32.toNatClampNeg z12)) xlp4_0 (by omega)) (show ((Int32.toNatClampNeg z12) : Int) + 1 = (V2 5 6).toInt from by (first | exact om_c968828d0a40 hz12 kc13 | omega)) (show (V2 67 (Int32.toNatClampNeg z12)).toInt = 2 from by (first | exact om_6aa5e6f8c558 fq45 | omega))) w1380 w1382 w58 w171 w1383 rfl xgMachine hdV_yX5_goOnCalling ⟨Nat.le_of_ble_eq_true rfl, Nat.le_of_ble_eq_true rfl⟩ rfl hl.1 rfl (Nat.le_of_ble_eq_true rfl) dX5_run_82 ⟨z1 zoZ3.1, z1 zoZ3.2.1⟩) hD hS hA (fun u50 H locs w51 hP hD hK hS y52 y53 => ?_)
            obtain ⟨V54, L55, Z56⟩ := u50
            obtain ⟨hMV54, ajV54, axL55, zlZ56, t58⟩ := w51
            have axL55 : L = L55 := Eq.symm axL55
            subst axL55
            have hP : va_P D vwCl (xw ad kk V54 L Z56) H := hP
            have hD : va_D A (xw ad kk V54 L Z56) := hD
            have hK : va_K D vwCl (xty kk Z56) s := hK
            have hMV54 : rgd bX V54 := hMV54
            have ajV54 : agr [(4, 5), (5, 6), (5, 9), (5, 11), (5, 12), (5, 13), (5, 14)] [33, 34, 35, 67, 68, 69, 70, 71, 72, 73, 74, 75, 76, 77, 78, 79, 80, 81, 82, 83, 84, 85] V2 V54 := ajV54
            have agV54 : agr [(3, 13), (3, 14), (3, 15), (4, 5), (4, 6), (5, 6), (5, 7), (5, 8), (5, 9), (5, 10), (5, 11), (5, 12), (5, 13), (5, 14)] [24, 25, 26, 27, 28, 29, 30, 31, 32, 33, 34, 35, 36, 37, 39, 40, 67, 68, 69, 70, 71, 72, 73, 74, 75, 76, 77, 78, 79, 80, 81, 82, 83, 84, 85] V V54 := agV2.tr ajV54 (by decide) (by decide)
            have zlZ56 : ZL Z3 Z56 := zlZ56
            have zoZ56 : ZL Z Z56 := ZL.tr zoZ3 zlZ56
            have ziZ56 := zlZ56.1
            have zjZ56 := zlZ56.2.1
            have zkZ56 := zlZ56.2.2.1
            have zmZ56 := zoZ56.1
            have znZ56 := zoZ56.2.1
            have zpZ3_Z56 := zoZ3.1
            have zqZ3_Z56 := zoZ3.2.1
            have y52 : H.size ≤ Hk46.size + (zcc Z3 - zcc Z56) := by rw [hHk46]; exact y52
            have y53 : tot H ≤ tot Hk46 + (zss Z3 - zss Z56) := by rw [hHk46]; exact y53
            refine W.tight (k := zcc Z - zcc Z56) (n := zss Z - zss Z56) (by first | exact tg9 y52 k47 zlZ56.1 zoZ3.1 | omega) (by first | exact tg9 y53 k48 zlZ56.2.1 zoZ3.2.1 | omega) ?_
            have hl : lv_has ls 3 [(2, .ref (Z56.fa (Int32.toNatClampNeg z12))), (1, .int y1), (0, .ref (ad 5))] := by rw [zlZ56.2.2.2.2 (Int32.toNatClampNeg z12) il14]; exact hl
            have t58 : MJ V54 Z56 b := t58
            refine lv_goto (tgt := 109) hx hb dX5_run_85 (by decide) ?_
            obtain ⟨z59, ez59⟩ : ∃ y : Int32, y = y1 + 1 := ⟨_, rfl⟩
            have hz59 : z59.toInt = y1.toInt + 1 := i_add ez59 rfl (by decide) (by (first | exact om_7cfca28772a4 klp4_0.1 f7 | omega))
            refine lv_iinc (v := z59) (lv' := [(1, .int z59), (2, .ref (Z56.fa (Int32.toNatClampNeg z12))), (0, .ref (ad 5))]) hx hb dX5_run_109 hl (k := 1) rfl (by rw [ez59]; rfl) (by decide) rfl (fun ls hl => ?_)
            refine lv_goto (tgt := 2) hx hb dX5_run_112 (by decide) ?_
            exact ihlp4 z59 V54 Z56 H locs ls (by (first | exact om_6036b630f734 klp4_0.1 f7 hz59 | omega)) t58 (by (first | exact om_4c597ccc4a45 hn hz59 | omega)) (agr.tr (agr.tr agr.rf ajV2 (by decide) (by decide)) ajV54 (by decide) (by decide)) hMV54 zoZ56 hK hP hD hS (lv_sub hl [0, 2] rfl)
          have gq45 : ((V2 67 (Int32.toNatClampNeg z12))).toInt ≠ 2 := b_neq rfl (by decide) q45
          by_cases q60 : (V2 67 (Int32.toNatClampNeg z12)) = 3
          · refine g_top (v := 3) q60 ?_
            have fq60 : ((V2 67 (Int32.toNatClampNeg z12))).toInt = 3 := b_eq rfl (by decide) q60
            refine lv_tableIn (x := 3) (off := 57) (tgt := 88) hx hb dX5_run_31 (by decide) (by decide) (by decide) (by decide) ?_
            refine lv_aload_n hx hb dX5_run_88 rfl (lv_at hl 2 rfl) ?_
            refine lv_aload_n hx hb dX5_run_89 rfl (lv_at hl 0 rfl) ?_
            refine W.know (fun k62 k63 => ?_)
            obtain ⟨Hk61, hHk61⟩ : ∃ z, z = H := ⟨_, rfl⟩
            have k62 : Hk61.size ≤ s.heap.size + (zcc Z - zcc Z3) := by rw [hHk61]; exact k62
            have k63 : tot Hk61 ≤ tot s.heap + (zss Z - zss Z3) := by rw [hHk61]; exact k63
            refine gZ_void (gA_runV (As := [.ref (Z3.fa (Int32.toNatClampNeg z12))]) (rest := []) (ci := 5) (q0 := 5) hx hb hml hown hg hP hD hK hS hA hnw hgk (x_goOnInside l D ks H.size ad kk V2 L Z3 (b) ((Int32.toNatClampNeg z12)) hMV2 (show b < 2 from by (first | exact om_f940a4667dd6 hb2 | omega)) (show (Int32.toNatClampNeg z12) < Z3.nf from by (first | exact om_8c5722e49bb1 il14 | omega)) (MJ.op (d := (Int32.toNatClampNeg z12)) xlp4_0 (by omega)) (show ((Int32.toNatClampNeg z12) : Int) + 1 = (V2 5 6).toInt from by (first | exact om_c968828d0a40 hz12 kc13 | omega)) (show (V2 67 (Int32.toNatClampNeg z12)).toInt = 3 from by (first | exact om_395e3da5ee0d fq60 | omega))) w1411 w1413 w63 w171 w1414 rfl xgMachine hdV_yX5_goOnInside ⟨Nat.le_of_ble_eq_true rfl, Nat.le_of_ble_eq_true rfl⟩ rfl hl.1 rfl (Nat.le_of_ble_eq_true rfl) dX5_run_90 ⟨z1 zoZ3.1, z1 zoZ3.2.1⟩) hD hS hA (fun u65 H locs w66 hP hD hK hS y67 y68 => ?_)
            obtain ⟨V69, L70, Z71⟩ := u65
            obtain ⟨hMV69, ajV69, axL70, zlZ71, t73⟩ := w66
            have axL70 : L = L70 := Eq.symm axL70
            subst axL70
            have hP : va_P D vwCl (xw ad kk V69 L Z71) H := hP
            have hD : va_D A (xw ad kk V69 L Z71) := hD
            have hK : va_K D vwCl (xty kk Z71) s := hK
            have hMV69 : rgd bX V69 := hMV69
            have ajV69 : agr [(4, 5), (5, 6), (5, 9), (5, 10), (5, 11), (5, 12)] [33, 34, 35, 67, 68, 69, 70, 71, 72, 73, 74, 75, 76, 77, 78, 79, 80, 81, 82, 83, 84, 85] V2 V69 := ajV69
            have agV69 : agr [(3, 13), (3, 14), (3, 15), (4, 5), (4, 6), (5, 6), (5, 7), (5, 8), (5, 9), (5, 10), (5, 11), (5, 12), (5, 13), (5, 14)] [24, 25, 26, 27, 28, 29, 30, 31, 32, 33, 34, 35, 36, 37, 39, 40, 67, 68, 69, 70, 71, 72, 73, 74, 75, 76, 77, 78, 79, 80, 81, 82, 83, 84, 85] V V69 := agV2.tr ajV69 (by decide) (by decide)
            have zlZ71 : ZL Z3 Z71 := zlZ71
            have zoZ71 : ZL Z Z71 := ZL.tr zoZ3 zlZ71
            have ziZ71 := zlZ71.1
            have zjZ71 := zlZ71.2.1
            have zkZ71 := zlZ71.2.2.1
            have zmZ71 := zoZ71.1
            have znZ71 := zoZ71.2.1
            have zpZ3_Z71 := zoZ3.1
            have zqZ3_Z71 := zoZ3.2.1
            have y67 : H.size ≤ Hk61.size + (zcc Z3 - zcc Z71) := by rw [hHk61]; exact y67
            have y68 : tot H ≤ tot Hk61 + (zss Z3 - zss Z71) := by rw [hHk61]; exact y68
            refine W.tight (k := zcc Z - zcc Z71) (n := zss Z - zss Z71) (by first | exact tg9 y67 k62 zlZ71.1 zoZ3.1 | omega) (by first | exact tg9 y68 k63 zlZ71.2.1 zoZ3.2.1 | omega) ?_
            have hl : lv_has ls 3 [(2, .ref (Z71.fa (Int32.toNatClampNeg z12))), (1, .int y1), (0, .ref (ad 5))] := by rw [zlZ71.2.2.2.2 (Int32.toNatClampNeg z12) il14]; exact hl
            have t73 : MJ V69 Z71 b := t73
            refine lv_goto (tgt := 109) hx hb dX5_run_93 (by decide) ?_
            obtain ⟨z74, ez74⟩ : ∃ y : Int32, y = y1 + 1 := ⟨_, rfl⟩
            have hz74 : z74.toInt = y1.toInt + 1 := i_add ez74 rfl (by decide) (by (first | exact om_7cfca28772a4 klp4_0.1 f7 | omega))
            refine lv_iinc (v := z74) (lv' := [(1, .int z74), (2, .ref (Z71.fa (Int32.toNatClampNeg z12))), (0, .ref (ad 5))]) hx hb dX5_run_109 hl (k := 1) rfl (by rw [ez74]; rfl) (by decide) rfl (fun ls hl => ?_)
            refine lv_goto (tgt := 2) hx hb dX5_run_112 (by decide) ?_
            exact ihlp4 z74 V69 Z71 H locs ls (by (first | exact om_6036b630f734 klp4_0.1 f7 hz74 | omega)) t73 (by (first | exact om_4c597ccc4a45 hn hz74 | omega)) (agr.tr (agr.tr agr.rf ajV2 (by decide) (by decide)) ajV69 (by decide) (by decide)) hMV69 zoZ71 hK hP hD hS (lv_sub hl [0, 2] rfl)
          have gq60 : ((V2 67 (Int32.toNatClampNeg z12))).toInt ≠ 3 := b_neq rfl (by decide) q60
          by_cases q75 : (V2 67 (Int32.toNatClampNeg z12)) = 4
          · refine g_top (v := 4) q75 ?_
            have fq75 : ((V2 67 (Int32.toNatClampNeg z12))).toInt = 4 := b_eq rfl (by decide) q75
            refine lv_tableIn (x := 4) (off := 65) (tgt := 96) hx hb dX5_run_31 (by decide) (by decide) (by decide) (by decide) ?_
            refine lv_aload_n hx hb dX5_run_96 rfl (lv_at hl 2 rfl) ?_
            refine lv_aload_n hx hb dX5_run_97 rfl (lv_at hl 0 rfl) ?_
            refine W.know (fun k77 k78 => ?_)
            obtain ⟨Hk76, hHk76⟩ : ∃ z, z = H := ⟨_, rfl⟩
            have k77 : Hk76.size ≤ s.heap.size + (zcc Z - zcc Z3) := by rw [hHk76]; exact k77
            have k78 : tot Hk76 ≤ tot s.heap + (zss Z - zss Z3) := by rw [hHk76]; exact k78
            refine gZ_void (gA_runV (As := [.ref (Z3.fa (Int32.toNatClampNeg z12))]) (rest := []) (ci := 5) (q0 := 5) hx hb hml hown hg hP hD hK hS hA hnw hgk (x_goOnWorking l D ks H.size ad kk V2 L Z3 (b) ((Int32.toNatClampNeg z12)) hMV2 (show b < 2 from by (first | exact om_f940a4667dd6 hb2 | omega)) (show (Int32.toNatClampNeg z12) < Z3.nf from by (first | exact om_8c5722e49bb1 il14 | omega)) (MJ.op (d := (Int32.toNatClampNeg z12)) xlp4_0 (by omega)) (show ((Int32.toNatClampNeg z12) : Int) + 1 = (V2 5 6).toInt from by (first | exact om_c968828d0a40 hz12 kc13 | omega)) (show (V2 67 (Int32.toNatClampNeg z12)).toInt = 4 from by (first | exact om_c88e7ce0b8a2 fq75 | omega))) w1431 w1433 w67 w171 w1434 rfl xgMachine hdV_yX5_goOnWorking ⟨Nat.le_of_ble_eq_true rfl, Nat.le_of_ble_eq_true rfl⟩ rfl hl.1 rfl (Nat.le_of_ble_eq_true rfl) dX5_run_98 ⟨z1 zoZ3.1, z1 zoZ3.2.1⟩) hD hS hA (fun u80 H locs w81 hP hD hK hS y82 y83 => ?_)
            obtain ⟨V84, L85, Z86⟩ := u80
            obtain ⟨hMV84, ajV84, axL85, zlZ86, t88⟩ := w81
            have axL85 : L = L85 := Eq.symm axL85
            subst axL85
            have hP : va_P D vwCl (xw ad kk V84 L Z86) H := hP
            have hD : va_D A (xw ad kk V84 L Z86) := hD
            have hK : va_K D vwCl (xty kk Z86) s := hK
            have hMV84 : rgd bX V84 := hMV84
            have ajV84 : agr [(3, 15), (5, 6), (5, 7), (5, 9), (5, 10), (5, 11), (5, 12), (5, 13), (5, 14)] [30, 31, 32, 39, 67, 68, 69, 70, 71, 72, 73, 74, 75, 76, 77, 78, 79, 80, 81, 82, 83, 84, 85] V2 V84 := ajV84
            have agV84 : agr [(3, 13), (3, 14), (3, 15), (4, 5), (4, 6), (5, 6), (5, 7), (5, 8), (5, 9), (5, 10), (5, 11), (5, 12), (5, 13), (5, 14)] [24, 25, 26, 27, 28, 29, 30, 31, 32, 33, 34, 35, 36, 37, 39, 40, 67, 68, 69, 70, 71, 72, 73, 74, 75, 76, 77, 78, 79, 80, 81, 82, 83, 84, 85] V V84 := agV2.tr ajV84 (by decide) (by decide)
            have zlZ86 : ZL Z3 Z86 := zlZ86
            have zoZ86 : ZL Z Z86 := ZL.tr zoZ3 zlZ86
            have ziZ86 := zlZ86.1
            have zjZ86 := zlZ86.2.1
            have zkZ86 := zlZ86.2.2.1
            have zmZ86 := zoZ86.1
            have znZ86 := zoZ86.2.1
            have zpZ3_Z86 := zoZ3.1
            have zqZ3_Z86 := zoZ3.2.1
            have y82 : H.size ≤ Hk76.size + (zcc Z3 - zcc Z86) := by rw [hHk76]; exact y82
            have y83 : tot H ≤ tot Hk76 + (zss Z3 - zss Z86) := by rw [hHk76]; exact y83
            refine W.tight (k := zcc Z - zcc Z86) (n := zss Z - zss Z86) (by first | exact tg9 y82 k77 zlZ86.1 zoZ3.1 | omega) (by first | exact tg9 y83 k78 zlZ86.2.1 zoZ3.2.1 | omega) ?_
            have hl : lv_has ls 3 [(2, .ref (Z86.fa (Int32.toNatClampNeg z12))), (1, .int y1), (0, .ref (ad 5))] := by rw [zlZ86.2.2.2.2 (Int32.toNatClampNeg z12) il14]; exact hl
            have t88 : MJ V84 Z86 b := t88
            refine lv_goto (tgt := 109) hx hb dX5_run_101 (by decide) ?_
            obtain ⟨z89, ez89⟩ : ∃ y : Int32, y = y1 + 1 := ⟨_, rfl⟩
            have hz89 : z89.toInt = y1.toInt + 1 := i_add ez89 rfl (by decide) (by (first | exact om_7cfca28772a4 klp4_0.1 f7 | omega))
            refine lv_iinc (v := z89) (lv' := [(1, .int z89), (2, .ref (Z86.fa (Int32.toNatClampNeg z12))), (0, .ref (ad 5))]) hx hb dX5_run_109 hl (k := 1) rfl (by rw [ez89]; rfl) (by decide) rfl (fun ls hl => ?_)
            refine lv_goto (tgt := 2) hx hb dX5_run_112 (by decide) ?_
            exact ihlp4 z89 V84 Z86 H locs ls (by (first | exact om_6036b630f734 klp4_0.1 f7 hz89 | omega)) t88 (by (first | exact om_4c597ccc4a45 hn hz89 | omega)) (agr.tr (agr.tr agr.rf ajV2 (by decide) (by decide)) ajV84 (by decide) (by decide)) hMV84 zoZ86 hK hP hD hS (lv_sub hl [0, 2] rfl)
          have gq75 : ((V2 67 (Int32.toNatClampNeg z12))).toInt ≠ 4 := b_neq rfl (by decide) q75
          refine lv_tableOut (x := (V2 67 (Int32.toNatClampNeg z12))) (tgt := 104) hx hb dX5_run_31 (by omega) (by decide) ?_
          refine lv_aload_n hx hb dX5_run_104 rfl (lv_at hl 2 rfl) ?_
          refine lv_aload_n hx hb dX5_run_105 rfl (lv_at hl 0 rfl) ?_
          refine W.know (fun k91 k92 => ?_)
          obtain ⟨Hk90, hHk90⟩ : ∃ z, z = H := ⟨_, rfl⟩
          have k91 : Hk90.size ≤ s.heap.size + (zcc Z - zcc Z3) := by rw [hHk90]; exact k91
          have k92 : tot Hk90 ≤ tot s.heap + (zss Z - zss Z3) := by rw [hHk90]; exact k92
          refine gZ_void (gA_runV (As := [.ref (Z3.fa (Int32.toNatClampNeg z12))]) (rest := []) (ci := 5) (q0 := 5) hx hb hml hown hg hP hD hK hS hA hnw hgk (x_goOnClosing l D ks H.size ad kk V2 L Z3 (b) ((Int32.toNatClampNeg z12)) hMV2 (show b < 2 from by (first | exact om_f940a4667dd6 hb2 | omega)) (show (Int32.toNatClampNeg z12) < Z3.nf from by (first | exact om_8c5722e49bb1 il14 | omega)) (MJ.op (d := (Int32.toNatClampNeg z12)) xlp4_0 (by omega)) (show ((Int32.toNatClampNeg z12) : Int) + 1 = (V2 5 6).toInt from by (first | exact om_c968828d0a40 hz12 kc13 | omega)) (show (V2 67 (Int32.toNatClampNeg z12)).toInt ≠ 0 ∧ (V2 67 (Int32.toNatClampNeg z12)).toInt ≠ 1 ∧ (V2 67 (Int32.toNatClampNeg z12)).toInt ≠ 2 ∧ (V2 67 (Int32.toNatClampNeg z12)).toInt ≠ 3 ∧ (V2 67 (Int32.toNatClampNeg z12)).toInt ≠ 4 from by omega)) w1493 w1495 w78 w171 w1496 rfl xgMachine hdV_yX5_goOnClosing ⟨Nat.le_of_ble_eq_true rfl, Nat.le_of_ble_eq_true rfl⟩ rfl hl.1 rfl (Nat.le_of_ble_eq_true rfl) dX5_run_106 ⟨z1 zoZ3.1, z1 zoZ3.2.1⟩) hD hS hA (fun u94 H locs w95 hP hD hK hS y96 y97 => ?_)
          obtain ⟨V98, L99, Z100⟩ := u94
          obtain ⟨hMV98, ajV98, axL99, zlZ100, t102⟩ := w95
          have axL99 : L = L99 := Eq.symm axL99
          subst axL99
          have hP : va_P D vwCl (xw ad kk V98 L Z100) H := hP
          have hD : va_D A (xw ad kk V98 L Z100) := hD
          have hK : va_K D vwCl (xty kk Z100) s := hK
          have hMV98 : rgd bX V98 := hMV98
          have ajV98 : agr [(4, 6), (5, 6), (5, 9), (5, 10)] [25, 28, 36, 37, 67, 68, 69, 70, 71, 72, 73, 74, 75, 76, 77, 78, 79, 80, 81, 82, 83, 84, 85] V2 V98 := ajV98
          have agV98 : agr [(3, 13), (3, 14), (3, 15), (4, 5), (4, 6), (5, 6), (5, 7), (5, 8), (5, 9), (5, 10), (5, 11), (5, 12), (5, 13), (5, 14)] [24, 25, 26, 27, 28, 29, 30, 31, 32, 33, 34, 35, 36, 37, 39, 40, 67, 68, 69, 70, 71, 72, 73, 74, 75, 76, 77, 78, 79, 80, 81, 82, 83, 84, 85] V V98 := agV2.tr ajV98 (by decide) (by decide)
          have zlZ100 : ZL Z3 Z100 := zlZ100
          have zoZ100 : ZL Z Z100 := ZL.tr zoZ3 zlZ100
          have ziZ100 := zlZ100.1
          have zjZ100 := zlZ100.2.1
          have zkZ100 := zlZ100.2.2.1
          have zmZ100 := zoZ100.1
          have znZ100 := zoZ100.2.1
          have zpZ3_Z100 := zoZ3.1
          have zqZ3_Z100 := zoZ3.2.1
          have y96 : H.size ≤ Hk90.size + (zcc Z3 - zcc Z100) := by rw [hHk90]; exact y96
          have y97 : tot H ≤ tot Hk90 + (zss Z3 - zss Z100) := by rw [hHk90]; exact y97
          refine W.tight (k := zcc Z - zcc Z100) (n := zss Z - zss Z100) (by first | exact tg9 y96 k91 zlZ100.1 zoZ3.1 | omega) (by first | exact tg9 y97 k92 zlZ100.2.1 zoZ3.2.1 | omega) ?_
          have hl : lv_has ls 3 [(2, .ref (Z100.fa (Int32.toNatClampNeg z12))), (1, .int y1), (0, .ref (ad 5))] := by rw [zlZ100.2.2.2.2 (Int32.toNatClampNeg z12) il14]; exact hl
          have t102 : MJ V98 Z100 b := t102
          obtain ⟨z103, ez103⟩ : ∃ y : Int32, y = y1 + 1 := ⟨_, rfl⟩
          have hz103 : z103.toInt = y1.toInt + 1 := i_add ez103 rfl (by decide) (by (first | exact om_7cfca28772a4 klp4_0.1 f7 | omega))
          refine lv_iinc (v := z103) (lv' := [(1, .int z103), (2, .ref (Z100.fa (Int32.toNatClampNeg z12))), (0, .ref (ad 5))]) hx hb dX5_run_109 hl (k := 1) rfl (by rw [ez103]; rfl) (by decide) rfl (fun ls hl => ?_)
          refine lv_goto (tgt := 2) hx hb dX5_run_112 (by decide) ?_
          exact ihlp4 z103 V98 Z100 H locs ls (by (first | exact om_6036b630f734 klp4_0.1 f7 hz103 | omega)) t102 (by (first | exact om_4c597ccc4a45 hn hz103 | omega)) (agr.tr (agr.tr agr.rf ajV2 (by decide) (by decide)) ajV98 (by decide) (by decide)) hMV98 zoZ100 hK hP hD hS (lv_sub hl [0, 2] rfl)
  have r104 : Int32.toInt 0 = 0 := by decide
  exact lp4 ((1000000 - (Int32.toInt 0) + 1 : Int).toNat) 0 V Z H locs ls (by decide) mj (by (first | exact om_4cc8af65a62d | omega)) agr.rf hMV zoZ hK hP hD hS (lv_sub hl [0, 1] rfl)
end
section
/-! what holds of the class between the calls -/
def HI (V : Vf) (Z : XZ) (b : Nat) : Prop := SL V Z ∧ Z.nf ≤ 400 ∧ (∀ o : Nat, (o : Int) < (V 3 13).toInt → (V 26 o).toInt < (V 43 (5 * b + 2)).toInt) ∧ ((0 ≤ (V 3 13).toInt ∧ (V 3 13).toInt ≤ 300) ∧ 0 ≤ (V 3 15).toInt) ∧ ((V 3 15).toInt + 203 * (300 - (V 3 13).toInt) ≤ (V 44 0).toInt ∧ (V 44 0).toInt ≤ 250000) ∧ TX V b ∧ CD V b ∧ (V 5 5).toInt = (b : Int) ∧ LN Z.ln ∧ PT V
theorem MI.hi {V : Vf} {Z : XZ} {b : Nat} {g : Nat → Nat} {n r : Nat} {w v u : Prop} (h : MI V Z b g n r w v u) : HI V Z b := ⟨h.sl, h.nf, h.oc, ⟨h.o0.1, h.o0.2.1⟩, by have := h.pot; have := h.o0; omega, h.tx, h.cd, h.mb, h.ln, h.pt⟩
theorem MJ.hi {V : Vf} {Z : XZ} {b : Nat} (h : MJ V Z b) : HI V Z b := by
  obtain ⟨g, r, h⟩ := h
  exact h.hi
theorem HI.mi {V : Vf} {Z : XZ} {b : Nat} (h : HI V Z b) (hs : 0 < (V 43 (5 * b + 2)).toInt) (h8 : (V 5 8).toInt = 0) (w v u : Prop) : MI V Z b (fun _ => 0) 0 0 w v u :=
  ⟨h.1, h.2.1, Nat.zero_le _, hs, h.2.2.1, fun i hi => absurd hi (by omega), fun i j _ hj => absurd hj (Nat.not_lt_zero _), fun i hi => absurd hi (Nat.not_lt_zero _), ⟨h.2.2.2.1.1, h.2.2.2.1.2, by omega⟩, by have := h.2.2.2.2.1; have e : sm (fun _ => 0) 0 = 0 := rfl; omega, h.2.2.2.2.2.1, h.2.2.2.2.2.2.1, h.2.2.2.2.2.2.2.1, h.2.2.2.2.2.2.2.2.1, h.2.2.2.2.2.2.2.2.2⟩
theorem HI.me {V W : Vf} {Z : XZ} {b : Nat} (h : HI V Z b) (hB : BE V W) (e13 : W 3 13 = V 3 13) (e15 : W 3 15 = V 3 15) (e5 : W 5 5 = V 5 5) (e26 : ∀ k, W 26 k = V 26 k) (e30 : ∀ k, W 30 k = V 30 k) (e32 : ∀ k, W 32 k = V 32 k) (e25 : ∀ k, W 25 k = V 25 k) : HI W Z b := by
  have e43 := hB 43 (5 * b + 2) (by decide) (by decide)
  refine ⟨?_, h.2.1, ?_, by rw [e13, e15]; exact h.2.2.2.1, by rw [e13, e15, hB 44 0 (by decide) (by decide)]; exact h.2.2.2.2.1, h.2.2.2.2.2.1.be hB, h.2.2.2.2.2.2.1.be hB, by rw [e5]; exact h.2.2.2.2.2.2.2.1, h.2.2.2.2.2.2.2.2.1, ?_⟩
  · unfold SL
    rw [e15, e13]
    exact ⟨h.1.1, h.1.2.1, fun o k a1 a2 => by rw [e30]; exact h.1.2.2.1 o k a1 a2, fun i a1 => by rw [e32]; exact h.1.2.2.2 i a1⟩
  · intro o ho
    rw [e13] at ho
    rw [e26, e43]
    exact h.2.2.1 o ho
  · intro k hk
    rw [e25, e13]
    refine ⟨(h.2.2.2.2.2.2.2.2.2 k hk).1, fun o h1 => ?_⟩
    rw [e26]
    exact (h.2.2.2.2.2.2.2.2.2 k hk).2 o h1
theorem HI.mt {V : Vf} {Z : XZ} {b : Nat} (h : HI V Z b) (hs : 0 < (V 43 (5 * b + 2)).toInt) (h8 : (V 5 8).toInt = 0) (h6 : (V 5 6).toInt = 0) : MT V Z b := ⟨_, _, by rw [show (V 5 6).toInt.toNat = 0 from by omega]; exact h.mi hs h8 True True True⟩
theorem HI.mtr {V : Vf} {Z : XZ} {b : Nat} (h : HI V Z b) (hs : 0 < (V 43 (5 * b + 2)).toInt) (h8 : (V 5 8).toInt = 0) (h6 : (V 5 6).toInt = 0) : MTr V Z b := ⟨_, _, by rw [show (V 5 6).toInt.toNat = 0 from by omega]; exact h.mi hs h8 True False True⟩
def hrl (fs : List (Nat × Nat)) (cs : List Nat) : Bool := fs.all (fun y => decide (y.1 ≤ 6) && !([(3, 13), (3, 15), (5, 5)].contains y)) && cs.all (fun c => decide (7 ≤ c) && (decide (c ≤ 40) || decide (67 ≤ c)) && !([25, 26, 30, 32].contains c))
theorem hrl_no {fs : List (Nat × Nat)} {cs : List Nat} (q : hrl fs cs = true) {c k : Nat} (h : (41 ≤ c ∧ c ≤ 66) ∨ (c = 25 ∨ c = 26 ∨ c = 30 ∨ c = 32) ∨ (c, k) = (3, 13) ∨ (c, k) = (3, 15) ∨ (c, k) = (5, 5)) : wrL fs cs c k = false := by
  unfold hrl at q
  rw [Bool.and_eq_true, List.all_eq_true, List.all_eq_true] at q
  unfold wrL
  rw [Bool.or_eq_false_iff]
  refine ⟨?_, ?_⟩
  · rw [← Bool.not_eq_true]
    intro z
    have y := q.1 _ (List.contains_iff_mem.mp z)
    rw [Bool.and_eq_true] at y
    have y1 : c ≤ 6 := of_decide_eq_true y.1
    have y2 := y.2
    rcases h with h | h | h | h | h
    · omega
    · omega
    all_goals (rw [h] at y2; exact absurd y2 (by decide))
  · rw [← Bool.not_eq_true]
    intro z
    have y := q.2 _ (List.contains_iff_mem.mp z)
    rw [Bool.and_eq_true, Bool.and_eq_true, Bool.or_eq_true] at y
    have y1 : c ≤ 40 ∨ 67 ≤ c := y.1.2.elim (fun a => Or.inl (of_decide_eq_true a)) (fun a => Or.inr (of_decide_eq_true a))
    have y0 : 7 ≤ c := of_decide_eq_true y.1.1
    have y2 := y.2
    rcases h with h | h | h | h | h
    · omega
    · rcases h with h | h | h | h <;> (rw [h] at y2; exact absurd y2 (by decide))
    all_goals (have := congrArg Prod.fst h; simp only at this; omega)
theorem HI.ag {fs : List (Nat × Nat)} {cs : List Nat} {V W : Vf} {Z : XZ} {b : Nat} (h : HI V Z b) (a : agr fs cs V W) (q : hrl fs cs = true) : HI W Z b :=
  h.me (fun c k h1 h2 => a c k (hrl_no q (Or.inl ⟨h1, h2⟩))) (a _ _ (hrl_no q (by simp))) (a _ _ (hrl_no q (by simp))) (a _ _ (hrl_no q (by simp))) (fun k => a _ _ (hrl_no q (by simp))) (fun k => a _ _ (hrl_no q (by simp))) (fun k => a _ _ (hrl_no q (by simp))) (fun k => a _ _ (hrl_no q (by simp)))

theorem w1166 : Cond.methodLink RX11 188 yX7_noteCause ∈ GW := gw_k tk9_5 51 (by decide +kernel) rfl
theorem w1170 : Cond.methodLink RX11 192 yX5_restart ∈ GW := gw_k tk9_5 55 (by decide +kernel) rfl
theorem w1174 : Cond.code yX11_ends cX11_ends 3 (some .int) ∈ GW := gw_k tk9_5 59 (rfl) rfl
theorem w1171 : Cond.methodLink RX11 195 yX11_ends ∈ GW := gw_k tk9_5 56 (by decide +kernel) rfl
theorem w156 : Cond.initialized RX11 ∈ GW := gw_k tk9_1 1 (by decide +kernel) rfl
theorem w1173 : Cond.instanceMethod yX11_ends ∈ GW := gw_k tk9_5 58 (by decide +kernel) rfl
theorem w42 : Cond.selects RX11 yX11_ends yX11_ends ∈ GW := gw_mem 42 (by decide +kernel) rfl
theorem hdV_yX11_ends : yX11_ends.cls = RX11 ∧ yX11_ends.cls ≠ "java/lang/invoke/MethodHandle" ∧ yX11_ends.cls ≠ "java/lang/invoke/VarHandle" ∧ (parseMethodDescriptor yX11_ends.desc).map (fun d => d.parameters.length) = some 2 := by decide +kernel
theorem w1175 : Cond.methodLink RX11 159 yX0_isThere ∈ GW := gw_k tk9_5 60 (by decide +kernel) rfl
theorem w1176 : Cond.methodLink RX11 198 yX5_pushRoot ∈ GW := gw_k tk9_5 61 (by decide +kernel) rfl
theorem w1250 : Cond.code yX5_run cX5_run 3 none ∈ GW := gw_k tk9_5 135 (rfl) rfl
theorem w1247 : Cond.methodLink RX11 202 yX5_run ∈ GW := gw_k tk9_5 132 (by decide +kernel) rfl
theorem w1248 : Cond.instanceMethod yX5_run ∈ GW := gw_k tk9_5 133 (by decide +kernel) rfl
theorem w1249 : Cond.selects RX5 yX5_run yX5_run ∈ GW := gw_k tk9_5 134 (by decide +kernel) rfl
theorem hdV_yX5_run : yX5_run.cls = RX5 ∧ yX5_run.cls ≠ "java/lang/invoke/MethodHandle" ∧ yX5_run.cls ≠ "java/lang/invoke/VarHandle" ∧ (parseMethodDescriptor yX5_run.desc).map (fun d => d.parameters.length) = some 0 := by decide +kernel
theorem w1504 : Cond.code yX5_howItEnded cX5_howItEnded 1 (some .int) ∈ GW := gw_k tk9_6 149 (rfl) rfl
theorem w1501 : Cond.methodLink RX11 205 yX5_howItEnded ∈ GW := gw_k tk9_6 146 (by decide +kernel) rfl
theorem w1502 : Cond.instanceMethod yX5_howItEnded ∈ GW := gw_k tk9_6 147 (by decide +kernel) rfl
theorem w1503 : Cond.selects RX5 yX5_howItEnded yX5_howItEnded ∈ GW := gw_k tk9_6 148 (by decide +kernel) rfl
theorem hdV_yX5_howItEnded : yX5_howItEnded.cls = RX5 ∧ yX5_howItEnded.cls ≠ "java/lang/invoke/MethodHandle" ∧ yX5_howItEnded.cls ≠ "java/lang/invoke/VarHandle" ∧ (parseMethodDescriptor yX5_howItEnded.desc).map (fun d => d.parameters.length) = some 0 := by decide +kernel
theorem w1509 : Cond.code yX5_answerOr cX5_answerOr 2 (some .int) ∈ GW := gw_k tk9_6 154 (rfl) rfl
theorem w1506 : Cond.methodLink RX11 209 yX5_answerOr ∈ GW := gw_k tk9_6 151 (by decide +kernel) rfl
theorem w1507 : Cond.instanceMethod yX5_answerOr ∈ GW := gw_k tk9_6 152 (by decide +kernel) rfl
theorem w1508 : Cond.selects RX5 yX5_answerOr yX5_answerOr ∈ GW := gw_k tk9_6 153 (by decide +kernel) rfl
theorem hdV_yX5_answerOr : yX5_answerOr.cls = RX5 ∧ yX5_answerOr.cls ≠ "java/lang/invoke/MethodHandle" ∧ yX5_answerOr.cls ≠ "java/lang/invoke/VarHandle" ∧ (parseMethodDescriptor yX5_answerOr.desc).map (fun d => d.parameters.length) = some 1 := by decide +kernel
theorem w1517 : Cond.code yX7_forgetThings cX7_forgetThings 1 none ∈ GW := gw_k tk9_6 162 (rfl) rfl
theorem w1514 : Cond.methodLink RX11 212 yX7_forgetThings ∈ GW := gw_k tk9_6 159 (by decide +kernel) rfl
theorem w1515 : Cond.instanceMethod yX7_forgetThings ∈ GW := gw_k tk9_6 160 (by decide +kernel) rfl
theorem w1516 : Cond.selects RX7 yX7_forgetThings yX7_forgetThings ∈ GW := gw_k tk9_6 161 (by decide +kernel) rfl
theorem hdV_yX7_forgetThings : yX7_forgetThings.cls = RX7 ∧ yX7_forgetThings.cls ≠ "java/lang/invoke/MethodHandle" ∧ yX7_forgetThings.cls ≠ "java/lang/invoke/VarHandle" ∧ (parseMethodDescriptor yX7_forgetThings.desc).map (fun d => d.parameters.length) = some 0 := by decide +kernel
theorem w1518 : Cond.methodLink RX11 215 yX8_isMade ∈ GW := gw_k tk9_6 163 (by decide +kernel) rfl
theorem n445 : lw_tbl[445]? = some (Cond.fieldLinkNest RX11 221 "WiringHouse$Notes" "listening" "Z" "WiringHouse") := la9 (n := 155) (i := 290) lz9 (la9 (n := 240) (i := 50) ln9_1 (lb9 (i := 50) (by decide +kernel)))
theorem w1519 : Cond.methodLink RX11 224 yX5_pushCall ∈ GW := gw_k tk9_6 164 (by decide +kernel) rfl
theorem dk9_dX11_get_0_0 : dOk cX11_get [(0, .aload_n 0, 1), (1, .getfield 42, 3), (4, .iconst 0, 1), (5, .iconst 0, 1), (6, .invokevirtual 188, 3), (9, .aload_n 0, 1), (10, .getfield 61, 3), (13, .invokevirtual 192, 3), (16, .aload_n 0, 1), (17, .getfield 89, 3), (20, .ifCond .ne 10, 3), (30, .aload_n 0, 1), (31, .getfield 35, 3), (34, .iload_n 1, 1), (35, .invokevirtual 182, 3), (38, .ifCond .ne 10, 3), (48, .aload_n 0, 1), (49, .getfield 49, 3), (52, .iload_n 2, 1), (53, .invokevirtual 136, 3), (56, .ifCond .eq 14, 3), (70, .aload_n 0, 1), (71, .iconst 4, 1), (72, .iconst (-1), 1)] = true ∧ dOk cX11_get [(73, .invokevirtual 195, 3), (76, .ireturn, 1), (59, .aload_n 0, 1), (60, .getfield 49, 3), (63, .iload_n 2, 1), (64, .invokevirtual 159, 3), (67, .ifCond .ne 10, 3), (77, .aload_n 0, 1), (78, .getfield 61, 3), (81, .iload_n 2, 1), (82, .iload_n 1, 1), (83, .iconst 0, 1), (84, .invokevirtual 198, 3), (87, .aload_n 0, 1), (88, .getfield 61, 3), (91, .invokevirtual 202, 3), (94, .aload_n 0, 1), (95, .aload_n 0, 1), (96, .getfield 61, 3), (99, .invokevirtual 205, 3), (102, .aload_n 0, 1), (103, .getfield 61, 3), (106, .iconst (-1), 1), (107, .invokevirtual 209, 3)] = true ∧ dOk cX11_get [(110, .invokevirtual 195, 3), (113, .ireturn, 1), (41, .aload_n 0, 1), (42, .iconst 3, 1), (43, .iconst (-1), 1), (44, .invokevirtual 195, 3), (47, .ireturn, 1), (23, .aload_n 0, 1), (24, .iconst 4, 1), (25, .iconst (-1), 1), (26, .invokevirtual 195, 3), (29, .ireturn, 1)] = true := by decide +kernel
theorem dX11_get_0 : decode cX11_get 0 = .ok (.aload_n 0, 1) := dr9 dk9_dX11_get_0_0.1 0 (0, .aload_n 0, 1) rfl
theorem dX11_get_1 : decode cX11_get 1 = .ok (.getfield 42, 3) := dr9 dk9_dX11_get_0_0.1 1 (1, .getfield 42, 3) rfl
theorem dX11_get_4 : decode cX11_get 4 = .ok (.iconst 0, 1) := dr9 dk9_dX11_get_0_0.1 2 (4, .iconst 0, 1) rfl
theorem dX11_get_5 : decode cX11_get 5 = .ok (.iconst 0, 1) := dr9 dk9_dX11_get_0_0.1 3 (5, .iconst 0, 1) rfl
theorem dX11_get_6 : decode cX11_get 6 = .ok (.invokevirtual 188, 3) := dr9 dk9_dX11_get_0_0.1 4 (6, .invokevirtual 188, 3) rfl
theorem dX11_get_9 : decode cX11_get 9 = .ok (.aload_n 0, 1) := dr9 dk9_dX11_get_0_0.1 5 (9, .aload_n 0, 1) rfl
theorem dX11_get_10 : decode cX11_get 10 = .ok (.getfield 61, 3) := dr9 dk9_dX11_get_0_0.1 6 (10, .getfield 61, 3) rfl
theorem dX11_get_13 : decode cX11_get 13 = .ok (.invokevirtual 192, 3) := dr9 dk9_dX11_get_0_0.1 7 (13, .invokevirtual 192, 3) rfl
theorem dX11_get_16 : decode cX11_get 16 = .ok (.aload_n 0, 1) := dr9 dk9_dX11_get_0_0.1 8 (16, .aload_n 0, 1) rfl
theorem dX11_get_17 : decode cX11_get 17 = .ok (.getfield 89, 3) := dr9 dk9_dX11_get_0_0.1 9 (17, .getfield 89, 3) rfl
theorem dX11_get_20 : decode cX11_get 20 = .ok (.ifCond .ne 10, 3) := dr9 dk9_dX11_get_0_0.1 10 (20, .ifCond .ne 10, 3) rfl
theorem dX11_get_30 : decode cX11_get 30 = .ok (.aload_n 0, 1) := dr9 dk9_dX11_get_0_0.1 11 (30, .aload_n 0, 1) rfl
theorem dX11_get_31 : decode cX11_get 31 = .ok (.getfield 35, 3) := dr9 dk9_dX11_get_0_0.1 12 (31, .getfield 35, 3) rfl
theorem dX11_get_34 : decode cX11_get 34 = .ok (.iload_n 1, 1) := dr9 dk9_dX11_get_0_0.1 13 (34, .iload_n 1, 1) rfl
theorem dX11_get_35 : decode cX11_get 35 = .ok (.invokevirtual 182, 3) := dr9 dk9_dX11_get_0_0.1 14 (35, .invokevirtual 182, 3) rfl
theorem dX11_get_38 : decode cX11_get 38 = .ok (.ifCond .ne 10, 3) := dr9 dk9_dX11_get_0_0.1 15 (38, .ifCond .ne 10, 3) rfl
theorem dX11_get_48 : decode cX11_get 48 = .ok (.aload_n 0, 1) := dr9 dk9_dX11_get_0_0.1 16 (48, .aload_n 0, 1) rfl
theorem dX11_get_49 : decode cX11_get 49 = .ok (.getfield 49, 3) := dr9 dk9_dX11_get_0_0.1 17 (49, .getfield 49, 3) rfl
theorem dX11_get_52 : decode cX11_get 52 = .ok (.iload_n 2, 1) := dr9 dk9_dX11_get_0_0.1 18 (52, .iload_n 2, 1) rfl
theorem dX11_get_53 : decode cX11_get 53 = .ok (.invokevirtual 136, 3) := dr9 dk9_dX11_get_0_0.1 19 (53, .invokevirtual 136, 3) rfl
theorem dX11_get_56 : decode cX11_get 56 = .ok (.ifCond .eq 14, 3) := dr9 dk9_dX11_get_0_0.1 20 (56, .ifCond .eq 14, 3) rfl
theorem dX11_get_70 : decode cX11_get 70 = .ok (.aload_n 0, 1) := dr9 dk9_dX11_get_0_0.1 21 (70, .aload_n 0, 1) rfl
theorem dX11_get_71 : decode cX11_get 71 = .ok (.iconst 4, 1) := dr9 dk9_dX11_get_0_0.1 22 (71, .iconst 4, 1) rfl
theorem dX11_get_72 : decode cX11_get 72 = .ok (.iconst (-1), 1) := dr9 dk9_dX11_get_0_0.1 23 (72, .iconst (-1), 1) rfl
theorem dX11_get_73 : decode cX11_get 73 = .ok (.invokevirtual 195, 3) := dr9 dk9_dX11_get_0_0.2.1 0 (73, .invokevirtual 195, 3) rfl
theorem dX11_get_76 : decode cX11_get 76 = .ok (.ireturn, 1) := dr9 dk9_dX11_get_0_0.2.1 1 (76, .ireturn, 1) rfl
theorem dX11_get_59 : decode cX11_get 59 = .ok (.aload_n 0, 1) := dr9 dk9_dX11_get_0_0.2.1 2 (59, .aload_n 0, 1) rfl
theorem dX11_get_60 : decode cX11_get 60 = .ok (.getfield 49, 3) := dr9 dk9_dX11_get_0_0.2.1 3 (60, .getfield 49, 3) rfl
theorem dX11_get_63 : decode cX11_get 63 = .ok (.iload_n 2, 1) := dr9 dk9_dX11_get_0_0.2.1 4 (63, .iload_n 2, 1) rfl
theorem dX11_get_64 : decode cX11_get 64 = .ok (.invokevirtual 159, 3) := dr9 dk9_dX11_get_0_0.2.1 5 (64, .invokevirtual 159, 3) rfl
theorem dX11_get_67 : decode cX11_get 67 = .ok (.ifCond .ne 10, 3) := dr9 dk9_dX11_get_0_0.2.1 6 (67, .ifCond .ne 10, 3) rfl
theorem dX11_get_77 : decode cX11_get 77 = .ok (.aload_n 0, 1) := dr9 dk9_dX11_get_0_0.2.1 7 (77, .aload_n 0, 1) rfl
theorem dX11_get_78 : decode cX11_get 78 = .ok (.getfield 61, 3) := dr9 dk9_dX11_get_0_0.2.1 8 (78, .getfield 61, 3) rfl
theorem dX11_get_81 : decode cX11_get 81 = .ok (.iload_n 2, 1) := dr9 dk9_dX11_get_0_0.2.1 9 (81, .iload_n 2, 1) rfl
theorem dX11_get_82 : decode cX11_get 82 = .ok (.iload_n 1, 1) := dr9 dk9_dX11_get_0_0.2.1 10 (82, .iload_n 1, 1) rfl
theorem dX11_get_83 : decode cX11_get 83 = .ok (.iconst 0, 1) := dr9 dk9_dX11_get_0_0.2.1 11 (83, .iconst 0, 1) rfl
theorem dX11_get_84 : decode cX11_get 84 = .ok (.invokevirtual 198, 3) := dr9 dk9_dX11_get_0_0.2.1 12 (84, .invokevirtual 198, 3) rfl
theorem dX11_get_87 : decode cX11_get 87 = .ok (.aload_n 0, 1) := dr9 dk9_dX11_get_0_0.2.1 13 (87, .aload_n 0, 1) rfl
theorem dX11_get_88 : decode cX11_get 88 = .ok (.getfield 61, 3) := dr9 dk9_dX11_get_0_0.2.1 14 (88, .getfield 61, 3) rfl
theorem dX11_get_91 : decode cX11_get 91 = .ok (.invokevirtual 202, 3) := dr9 dk9_dX11_get_0_0.2.1 15 (91, .invokevirtual 202, 3) rfl
theorem dX11_get_94 : decode cX11_get 94 = .ok (.aload_n 0, 1) := dr9 dk9_dX11_get_0_0.2.1 16 (94, .aload_n 0, 1) rfl
theorem dX11_get_95 : decode cX11_get 95 = .ok (.aload_n 0, 1) := dr9 dk9_dX11_get_0_0.2.1 17 (95, .aload_n 0, 1) rfl
theorem dX11_get_96 : decode cX11_get 96 = .ok (.getfield 61, 3) := dr9 dk9_dX11_get_0_0.2.1 18 (96, .getfield 61, 3) rfl
theorem dX11_get_99 : decode cX11_get 99 = .ok (.invokevirtual 205, 3) := dr9 dk9_dX11_get_0_0.2.1 19 (99, .invokevirtual 205, 3) rfl
theorem dX11_get_102 : decode cX11_get 102 = .ok (.aload_n 0, 1) := dr9 dk9_dX11_get_0_0.2.1 20 (102, .aload_n 0, 1) rfl
theorem dX11_get_103 : decode cX11_get 103 = .ok (.getfield 61, 3) := dr9 dk9_dX11_get_0_0.2.1 21 (103, .getfield 61, 3) rfl
theorem dX11_get_106 : decode cX11_get 106 = .ok (.iconst (-1), 1) := dr9 dk9_dX11_get_0_0.2.1 22 (106, .iconst (-1), 1) rfl
theorem dX11_get_107 : decode cX11_get 107 = .ok (.invokevirtual 209, 3) := dr9 dk9_dX11_get_0_0.2.1 23 (107, .invokevirtual 209, 3) rfl
theorem dX11_get_110 : decode cX11_get 110 = .ok (.invokevirtual 195, 3) := dr9 dk9_dX11_get_0_0.2.2 0 (110, .invokevirtual 195, 3) rfl
theorem dX11_get_113 : decode cX11_get 113 = .ok (.ireturn, 1) := dr9 dk9_dX11_get_0_0.2.2 1 (113, .ireturn, 1) rfl
theorem dX11_get_41 : decode cX11_get 41 = .ok (.aload_n 0, 1) := dr9 dk9_dX11_get_0_0.2.2 2 (41, .aload_n 0, 1) rfl
theorem dX11_get_42 : decode cX11_get 42 = .ok (.iconst 3, 1) := dr9 dk9_dX11_get_0_0.2.2 3 (42, .iconst 3, 1) rfl
theorem dX11_get_43 : decode cX11_get 43 = .ok (.iconst (-1), 1) := dr9 dk9_dX11_get_0_0.2.2 4 (43, .iconst (-1), 1) rfl
theorem dX11_get_44 : decode cX11_get 44 = .ok (.invokevirtual 195, 3) := dr9 dk9_dX11_get_0_0.2.2 5 (44, .invokevirtual 195, 3) rfl
theorem dX11_get_47 : decode cX11_get 47 = .ok (.ireturn, 1) := dr9 dk9_dX11_get_0_0.2.2 6 (47, .ireturn, 1) rfl
theorem dX11_get_23 : decode cX11_get 23 = .ok (.aload_n 0, 1) := dr9 dk9_dX11_get_0_0.2.2 7 (23, .aload_n 0, 1) rfl
theorem dX11_get_24 : decode cX11_get 24 = .ok (.iconst 4, 1) := dr9 dk9_dX11_get_0_0.2.2 8 (24, .iconst 4, 1) rfl
theorem dX11_get_25 : decode cX11_get 25 = .ok (.iconst (-1), 1) := dr9 dk9_dX11_get_0_0.2.2 9 (25, .iconst (-1), 1) rfl
theorem dX11_get_26 : decode cX11_get 26 = .ok (.invokevirtual 195, 3) := dr9 dk9_dX11_get_0_0.2.2 10 (26, .invokevirtual 195, 3) rfl
theorem dX11_get_29 : decode cX11_get 29 = .ok (.ireturn, 1) := dr9 dk9_dX11_get_0_0.2.2 11 (29, .ireturn, 1) rfl
theorem dk9_dX11_call_0_0 : dOk cX11_call [(0, .aload_n 0, 1), (1, .getfield 42, 3), (4, .iconst 0, 1), (5, .iconst 0, 1), (6, .invokevirtual 188, 3), (9, .aload_n 0, 1), (10, .getfield 42, 3), (13, .invokevirtual 212, 3), (16, .aload_n 0, 1), (17, .getfield 61, 3), (20, .invokevirtual 192, 3), (23, .aload_n 0, 1), (24, .getfield 35, 3), (27, .iload_n 1, 1), (28, .invokevirtual 182, 3), (31, .ifCond .ne 10, 3), (41, .aload_n 0, 1), (42, .getfield 35, 3), (45, .iload_n 2, 1), (46, .invokevirtual 215, 3), (49, .ifCond .eq 21, 3), (70, .aload_n 0, 1), (71, .iconst 4, 1), (72, .iconst 0, 1)] = true ∧ dOk cX11_call [(73, .invokevirtual 195, 3), (76, .ireturn, 1), (52, .iload_n 3, 1), (53, .ifCond .lt 17, 3), (56, .iload_n 3, 1), (57, .aload_n 0, 1), (58, .getfield 49, 3), (61, .getfield 218, 3), (64, .getfield 117, 3), (67, .if_icmp .lt 10, 3), (77, .aload_n 0, 1), (78, .getfield 42, 3), (81, .iconst 1, 1), (82, .putfield 221, 3), (85, .aload_n 0, 1), (86, .getfield 61, 3), (89, .iload_n 2, 1), (90, .iload_n 1, 1), (91, .iload_n 3, 1), (92, .iload 4, 2), (94, .iconst 1, 1), (95, .invokevirtual 224, 3), (98, .aload_n 0, 1), (99, .getfield 61, 3)] = true ∧ dOk cX11_call [(102, .invokevirtual 202, 3), (105, .aload_n 0, 1), (106, .getfield 42, 3), (109, .iconst 0, 1), (110, .putfield 221, 3), (113, .aload_n 0, 1), (114, .aload_n 0, 1), (115, .getfield 61, 3), (118, .invokevirtual 205, 3), (121, .aload_n 0, 1), (122, .getfield 61, 3), (125, .iconst 0, 1), (126, .invokevirtual 209, 3), (129, .invokevirtual 195, 3), (132, .ireturn, 1), (34, .aload_n 0, 1), (35, .iconst 3, 1), (36, .iconst 0, 1), (37, .invokevirtual 195, 3), (40, .ireturn, 1)] = true := by decide +kernel
theorem dX11_call_0 : decode cX11_call 0 = .ok (.aload_n 0, 1) := dr9 dk9_dX11_call_0_0.1 0 (0, .aload_n 0, 1) rfl
theorem dX11_call_1 : decode cX11_call 1 = .ok (.getfield 42, 3) := dr9 dk9_dX11_call_0_0.1 1 (1, .getfield 42, 3) rfl
theorem dX11_call_4 : decode cX11_call 4 = .ok (.iconst 0, 1) := dr9 dk9_dX11_call_0_0.1 2 (4, .iconst 0, 1) rfl
theorem dX11_call_5 : decode cX11_call 5 = .ok (.iconst 0, 1) := dr9 dk9_dX11_call_0_0.1 3 (5, .iconst 0, 1) rfl
theorem dX11_call_6 : decode cX11_call 6 = .ok (.invokevirtual 188, 3) := dr9 dk9_dX11_call_0_0.1 4 (6, .invokevirtual 188, 3) rfl
theorem dX11_call_9 : decode cX11_call 9 = .ok (.aload_n 0, 1) := dr9 dk9_dX11_call_0_0.1 5 (9, .aload_n 0, 1) rfl
theorem dX11_call_10 : decode cX11_call 10 = .ok (.getfield 42, 3) := dr9 dk9_dX11_call_0_0.1 6 (10, .getfield 42, 3) rfl
theorem dX11_call_13 : decode cX11_call 13 = .ok (.invokevirtual 212, 3) := dr9 dk9_dX11_call_0_0.1 7 (13, .invokevirtual 212, 3) rfl
theorem dX11_call_16 : decode cX11_call 16 = .ok (.aload_n 0, 1) := dr9 dk9_dX11_call_0_0.1 8 (16, .aload_n 0, 1) rfl
theorem dX11_call_17 : decode cX11_call 17 = .ok (.getfield 61, 3) := dr9 dk9_dX11_call_0_0.1 9 (17, .getfield 61, 3) rfl
theorem dX11_call_20 : decode cX11_call 20 = .ok (.invokevirtual 192, 3) := dr9 dk9_dX11_call_0_0.1 10 (20, .invokevirtual 192, 3) rfl
theorem dX11_call_23 : decode cX11_call 23 = .ok (.aload_n 0, 1) := dr9 dk9_dX11_call_0_0.1 11 (23, .aload_n 0, 1) rfl
theorem dX11_call_24 : decode cX11_call 24 = .ok (.getfield 35, 3) := dr9 dk9_dX11_call_0_0.1 12 (24, .getfield 35, 3) rfl
theorem dX11_call_27 : decode cX11_call 27 = .ok (.iload_n 1, 1) := dr9 dk9_dX11_call_0_0.1 13 (27, .iload_n 1, 1) rfl
theorem dX11_call_28 : decode cX11_call 28 = .ok (.invokevirtual 182, 3) := dr9 dk9_dX11_call_0_0.1 14 (28, .invokevirtual 182, 3) rfl
theorem dX11_call_31 : decode cX11_call 31 = .ok (.ifCond .ne 10, 3) := dr9 dk9_dX11_call_0_0.1 15 (31, .ifCond .ne 10, 3) rfl
theorem dX11_call_41 : decode cX11_call 41 = .ok (.aload_n 0, 1) := dr9 dk9_dX11_call_0_0.1 16 (41, .aload_n 0, 1) rfl
theorem dX11_call_42 : decode cX11_call 42 = .ok (.getfield 35, 3) := dr9 dk9_dX11_call_0_0.1 17 (42, .getfield 35, 3) rfl
theorem dX11_call_45 : decode cX11_call 45 = .ok (.iload_n 2, 1) := dr9 dk9_dX11_call_0_0.1 18 (45, .iload_n 2, 1) rfl
theorem dX11_call_46 : decode cX11_call 46 = .ok (.invokevirtual 215, 3) := dr9 dk9_dX11_call_0_0.1 19 (46, .invokevirtual 215, 3) rfl
theorem dX11_call_49 : decode cX11_call 49 = .ok (.ifCond .eq 21, 3) := dr9 dk9_dX11_call_0_0.1 20 (49, .ifCond .eq 21, 3) rfl
theorem dX11_call_70 : decode cX11_call 70 = .ok (.aload_n 0, 1) := dr9 dk9_dX11_call_0_0.1 21 (70, .aload_n 0, 1) rfl
theorem dX11_call_71 : decode cX11_call 71 = .ok (.iconst 4, 1) := dr9 dk9_dX11_call_0_0.1 22 (71, .iconst 4, 1) rfl
theorem dX11_call_72 : decode cX11_call 72 = .ok (.iconst 0, 1) := dr9 dk9_dX11_call_0_0.1 23 (72, .iconst 0, 1) rfl
theorem dX11_call_73 : decode cX11_call 73 = .ok (.invokevirtual 195, 3) := dr9 dk9_dX11_call_0_0.2.1 0 (73, .invokevirtual 195, 3) rfl
theorem dX11_call_76 : decode cX11_call 76 = .ok (.ireturn, 1) := dr9 dk9_dX11_call_0_0.2.1 1 (76, .ireturn, 1) rfl
theorem dX11_call_52 : decode cX11_call 52 = .ok (.iload_n 3, 1) := dr9 dk9_dX11_call_0_0.2.1 2 (52, .iload_n 3, 1) rfl
theorem dX11_call_53 : decode cX11_call 53 = .ok (.ifCond .lt 17, 3) := dr9 dk9_dX11_call_0_0.2.1 3 (53, .ifCond .lt 17, 3) rfl
theorem dX11_call_56 : decode cX11_call 56 = .ok (.iload_n 3, 1) := dr9 dk9_dX11_call_0_0.2.1 4 (56, .iload_n 3, 1) rfl
theorem dX11_call_57 : decode cX11_call 57 = .ok (.aload_n 0, 1) := dr9 dk9_dX11_call_0_0.2.1 5 (57, .aload_n 0, 1) rfl
theorem dX11_call_58 : decode cX11_call 58 = .ok (.getfield 49, 3) := dr9 dk9_dX11_call_0_0.2.1 6 (58, .getfield 49, 3) rfl
theorem dX11_call_61 : decode cX11_call 61 = .ok (.getfield 218, 3) := dr9 dk9_dX11_call_0_0.2.1 7 (61, .getfield 218, 3) rfl
theorem dX11_call_64 : decode cX11_call 64 = .ok (.getfield 117, 3) := dr9 dk9_dX11_call_0_0.2.1 8 (64, .getfield 117, 3) rfl
theorem dX11_call_67 : decode cX11_call 67 = .ok (.if_icmp .lt 10, 3) := dr9 dk9_dX11_call_0_0.2.1 9 (67, .if_icmp .lt 10, 3) rfl
theorem dX11_call_77 : decode cX11_call 77 = .ok (.aload_n 0, 1) := dr9 dk9_dX11_call_0_0.2.1 10 (77, .aload_n 0, 1) rfl
theorem dX11_call_78 : decode cX11_call 78 = .ok (.getfield 42, 3) := dr9 dk9_dX11_call_0_0.2.1 11 (78, .getfield 42, 3) rfl
theorem dX11_call_81 : decode cX11_call 81 = .ok (.iconst 1, 1) := dr9 dk9_dX11_call_0_0.2.1 12 (81, .iconst 1, 1) rfl
theorem dX11_call_82 : decode cX11_call 82 = .ok (.putfield 221, 3) := dr9 dk9_dX11_call_0_0.2.1 13 (82, .putfield 221, 3) rfl
theorem dX11_call_85 : decode cX11_call 85 = .ok (.aload_n 0, 1) := dr9 dk9_dX11_call_0_0.2.1 14 (85, .aload_n 0, 1) rfl
theorem dX11_call_86 : decode cX11_call 86 = .ok (.getfield 61, 3) := dr9 dk9_dX11_call_0_0.2.1 15 (86, .getfield 61, 3) rfl
theorem dX11_call_89 : decode cX11_call 89 = .ok (.iload_n 2, 1) := dr9 dk9_dX11_call_0_0.2.1 16 (89, .iload_n 2, 1) rfl
theorem dX11_call_90 : decode cX11_call 90 = .ok (.iload_n 1, 1) := dr9 dk9_dX11_call_0_0.2.1 17 (90, .iload_n 1, 1) rfl
theorem dX11_call_91 : decode cX11_call 91 = .ok (.iload_n 3, 1) := dr9 dk9_dX11_call_0_0.2.1 18 (91, .iload_n 3, 1) rfl
theorem dX11_call_92 : decode cX11_call 92 = .ok (.iload 4, 2) := dr9 dk9_dX11_call_0_0.2.1 19 (92, .iload 4, 2) rfl
theorem dX11_call_94 : decode cX11_call 94 = .ok (.iconst 1, 1) := dr9 dk9_dX11_call_0_0.2.1 20 (94, .iconst 1, 1) rfl
theorem dX11_call_95 : decode cX11_call 95 = .ok (.invokevirtual 224, 3) := dr9 dk9_dX11_call_0_0.2.1 21 (95, .invokevirtual 224, 3) rfl
theorem dX11_call_98 : decode cX11_call 98 = .ok (.aload_n 0, 1) := dr9 dk9_dX11_call_0_0.2.1 22 (98, .aload_n 0, 1) rfl
theorem dX11_call_99 : decode cX11_call 99 = .ok (.getfield 61, 3) := dr9 dk9_dX11_call_0_0.2.1 23 (99, .getfield 61, 3) rfl
theorem dX11_call_102 : decode cX11_call 102 = .ok (.invokevirtual 202, 3) := dr9 dk9_dX11_call_0_0.2.2 0 (102, .invokevirtual 202, 3) rfl
theorem dX11_call_105 : decode cX11_call 105 = .ok (.aload_n 0, 1) := dr9 dk9_dX11_call_0_0.2.2 1 (105, .aload_n 0, 1) rfl
theorem dX11_call_106 : decode cX11_call 106 = .ok (.getfield 42, 3) := dr9 dk9_dX11_call_0_0.2.2 2 (106, .getfield 42, 3) rfl
theorem dX11_call_109 : decode cX11_call 109 = .ok (.iconst 0, 1) := dr9 dk9_dX11_call_0_0.2.2 3 (109, .iconst 0, 1) rfl
theorem dX11_call_110 : decode cX11_call 110 = .ok (.putfield 221, 3) := dr9 dk9_dX11_call_0_0.2.2 4 (110, .putfield 221, 3) rfl
theorem dX11_call_113 : decode cX11_call 113 = .ok (.aload_n 0, 1) := dr9 dk9_dX11_call_0_0.2.2 5 (113, .aload_n 0, 1) rfl
theorem dX11_call_114 : decode cX11_call 114 = .ok (.aload_n 0, 1) := dr9 dk9_dX11_call_0_0.2.2 6 (114, .aload_n 0, 1) rfl
theorem dX11_call_115 : decode cX11_call 115 = .ok (.getfield 61, 3) := dr9 dk9_dX11_call_0_0.2.2 7 (115, .getfield 61, 3) rfl
theorem dX11_call_118 : decode cX11_call 118 = .ok (.invokevirtual 205, 3) := dr9 dk9_dX11_call_0_0.2.2 8 (118, .invokevirtual 205, 3) rfl
theorem dX11_call_121 : decode cX11_call 121 = .ok (.aload_n 0, 1) := dr9 dk9_dX11_call_0_0.2.2 9 (121, .aload_n 0, 1) rfl
theorem dX11_call_122 : decode cX11_call 122 = .ok (.getfield 61, 3) := dr9 dk9_dX11_call_0_0.2.2 10 (122, .getfield 61, 3) rfl
theorem dX11_call_125 : decode cX11_call 125 = .ok (.iconst 0, 1) := dr9 dk9_dX11_call_0_0.2.2 11 (125, .iconst 0, 1) rfl
theorem dX11_call_126 : decode cX11_call 126 = .ok (.invokevirtual 209, 3) := dr9 dk9_dX11_call_0_0.2.2 12 (126, .invokevirtual 209, 3) rfl
theorem dX11_call_129 : decode cX11_call 129 = .ok (.invokevirtual 195, 3) := dr9 dk9_dX11_call_0_0.2.2 13 (129, .invokevirtual 195, 3) rfl
theorem dX11_call_132 : decode cX11_call 132 = .ok (.ireturn, 1) := dr9 dk9_dX11_call_0_0.2.2 14 (132, .ireturn, 1) rfl
theorem dX11_call_34 : decode cX11_call 34 = .ok (.aload_n 0, 1) := dr9 dk9_dX11_call_0_0.2.2 15 (34, .aload_n 0, 1) rfl
theorem dX11_call_35 : decode cX11_call 35 = .ok (.iconst 3, 1) := dr9 dk9_dX11_call_0_0.2.2 16 (35, .iconst 3, 1) rfl
theorem dX11_call_36 : decode cX11_call 36 = .ok (.iconst 0, 1) := dr9 dk9_dX11_call_0_0.2.2 17 (36, .iconst 0, 1) rfl
theorem dX11_call_37 : decode cX11_call 37 = .ok (.invokevirtual 195, 3) := dr9 dk9_dX11_call_0_0.2.2 18 (37, .invokevirtual 195, 3) rfl
theorem dX11_call_40 : decode cX11_call 40 = .ok (.ireturn, 1) := dr9 dk9_dX11_call_0_0.2.2 19 (40, .ireturn, 1) rfl
abbrev r_x_h_get (Z : XZ) : Room := { frames := 8, cells := zcc Z, slots := zss Z, locals := 181 }
abbrev q_x_h_get (D : va_G) (ks : KS) (ad : Nat → Nat) (kk : Nat → ClassId) (V : Vf) (L : Lf) (Z : XZ) (p0 : Int32) (p1 : Int32) (b : Nat) (A : Nat → Prop) : Array Value → State → Outcome → State → Prop := qZi D (fun (r : Int32) (u : Vf × Lf × XZ) => rgd bX u.1 ∧ agr [(0, 9), (3, 13), (3, 14), (3, 15), (4, 5), (4, 6), (4, 7), (4, 8), (5, 6), (5, 7), (5, 8), (5, 9), (5, 10), (5, 11), (5, 12), (5, 13), (5, 14)] [24, 25, 26, 27, 28, 29, 30, 31, 32, 33, 34, 35, 36, 37, 39, 40, 67, 68, 69, 70, 71, 72, 73, 74, 75, 76, 77, 78, 79, 80, 81, 82, 83, 84, 85] V u.1 ∧ u.2.1 = L ∧ ZL Z u.2.2 ∧ (HI u.1 u.2.2 b)) (fun u => xw ad kk u.1 u.2.1 u.2.2) (fun u => xty kk u.2.2) (fun u => zcc Z - zcc u.2.2) (fun u => zss Z - zss u.2.2) A
set_option maxHeartbeats 4000000 in
set_option maxRecDepth 100000 in
theorem x_h_get (l : Launch) (D : va_G) (ks : KS) (sz : Nat) (ad : Nat → Nat) (kk : Nat → ClassId) (V : Vf) (L : Lf) (Z : XZ) (p0 : Int32) (p1 : Int32) (b : Nat) (hMV : rgd bX V) (hb2 : b < 2) (shk : (V 0 6).toInt = (b : Int)) (hi : HI V Z b)  : Met l yX11_get (Cond.code yX11_get cX11_get 3 (some .int) :: GW) (r_x_h_get Z) (va_Pc [.ref (ad 0), .int p0, .int p1] (gp D ks (xw ad kk V L Z) (xty kk Z) sz)) (q_x_h_get D ks ad kk V L Z p0 p1 b (va_A (xw ad kk V L Z) sz)) (zcc Z) (zss Z) (va_A (xw ad kk V L Z) sz) := by
  refine g_met (q_x_h_get D ks ad kk V L Z p0 p1 b) (by decide) (Nat.le_of_ble_eq_true rfl) ?_
  intro p e s m below meth c A ls H locs hx hb hr hml hown hg hlocks hin hnw hgk hP hK hD hS hA hl
  have hown : s.vm.findClass RX11 = some m.cls := hown
  have hl : lv_has ls 3 [(0, .ref (ad 0)), (1, .int p0), (2, .int p1)] := hl
  have hP : va_P D vwCl (xw ad kk V L Z) H := hP
  have hD : va_D A (xw ad kk V L Z) := hD
  have hK : va_K D vwCl (xty kk Z) s := hK
  have agV : agr [(0, 9), (3, 13), (3, 14), (3, 15), (4, 5), (4, 6), (4, 7), (4, 8), (5, 6), (5, 7), (5, 8), (5, 9), (5, 10), (5, 11), (5, 12), (5, 13), (5, 14)] [24, 25, 26, 27, 28, 29, 30, 31, 32, 33, 34, 35, 36, 37, 39, 40, 67, 68, 69, 70, 71, 72, 73, 74, 75, 76, 77, 78, 79, 80, 81, 82, 83, 84, 85] V V := agr.rf
  have zoZ : ZL Z Z := ZL.rf
  refine W.know (fun ka kb => ?_)
  refine W.tight (k := zcc Z - zcc Z) (n := zss Z - zss Z) (by omega) (by omega) ?_
  have r1 : 0 ≤ ((V 0 6)).toInt ∧ ((V 0 6)).toInt ≤ 1 := hMV 0 6
  refine lv_aload_n hx hb dX11_get_0 rfl (lv_at hl 0 rfl) ?_
  refine va_get (D := D) (ci := 11) (v := .ref (ad 4)) (fs := (xfHouse ad V L Z)) (C := RX11) (T := TX11) (N := 10) hx hb hg inX11 hown hK hP 0 xgHouse rfl 4 (by decide) (hg _ w719) (fun _ h9 => h9) rfl dX11_get_1 ?_
  refine lv_iconst (v := 0) hx hb dX11_get_4 (by decide) ?_
  refine lv_iconst (v := 0) hx hb dX11_get_5 (by decide) ?_
  have r2 : Int32.toInt 0 = 0 := by decide
  refine gA_void (gA_runV (As := [.int 0, .int 0]) (rest := []) (ci := 7) (q0 := 4) hx hb hml hown hg hP hD hK hS hA hnw hgk (x_NnoteCause l D ks H.size ad kk V L Z 0 0 hMV ) w1166 w1167 w1168 w166 w1169 rfl xgNotes hdV_yX7_noteCause ⟨Nat.le_of_ble_eq_true rfl, Nat.le_of_ble_eq_true rfl⟩ rfl hl.1 rfl (Nat.le_of_ble_eq_true rfl) dX11_get_6 ⟨z0, z0⟩) hP hD hK hS hA (fun u4 H locs w5 hP hD hK hS => ?_)
  obtain ⟨V6, L7⟩ := u4
  obtain ⟨hMV6, ajV6, axL7⟩ := w5
  have axL7 : L = L7 := Eq.symm axL7
  subst axL7
  have hP : va_P D vwCl (xw ad kk V6 L Z) H := hP
  have hD : va_D A (xw ad kk V6 L Z) := hD
  have hMV6 : rgd bX V6 := hMV6
  have ajV6 : agr [(4, 7), (4, 8)] [] V V6 := ajV6
  have agV6 : agr [(0, 9), (3, 13), (3, 14), (3, 15), (4, 5), (4, 6), (4, 7), (4, 8), (5, 6), (5, 7), (5, 8), (5, 9), (5, 10), (5, 11), (5, 12), (5, 13), (5, 14)] [24, 25, 26, 27, 28, 29, 30, 31, 32, 33, 34, 35, 36, 37, 39, 40, 67, 68, 69, 70, 71, 72, 73, 74, 75, 76, 77, 78, 79, 80, 81, 82, 83, 84, 85] V V6 := agV.tr ajV6 (by decide) (by decide)
  refine lv_aload_n hx hb dX11_get_9 rfl (lv_at hl 0 rfl) ?_
  refine va_get (D := D) (ci := 11) (v := .ref (ad 5)) (fs := (xfHouse ad V6 L Z)) (C := RX11) (T := TX11) (N := 10) hx hb hg inX11 hown hK hP 0 xgHouse rfl 5 (by decide) (hg _ w720) (fun _ h9 => h9) rfl dX11_get_10 ?_
  refine gA_void (gA_runV (As := []) (rest := []) (ci := 5) (q0 := 5) hx hb hml hown hg hP hD hK hS hA hnw hgk (x_restart l D ks H.size ad kk V6 L Z  hMV6 ) w1170 w1044 w1045 w171 w1046 rfl xgMachine hdV_yX5_restart ⟨Nat.le_of_ble_eq_true rfl, Nat.le_of_ble_eq_true rfl⟩ rfl hl.1 rfl (Nat.le_of_ble_eq_true rfl) dX11_get_13 ⟨z0, z0⟩) hP hD hK hS hA (fun u9 H locs w10 hP hD hK hS => ?_)
  obtain ⟨V16, L17⟩ := u9
  obtain ⟨hMV16, ajV16, axL17, t11, t12, t13, t14, t15⟩ := w10
  have axL17 : L = L17 := Eq.symm axL17
  subst axL17
  have hP : va_P D vwCl (xw ad kk V16 L Z) H := hP
  have hD : va_D A (xw ad kk V16 L Z) := hD
  have hMV16 : rgd bX V16 := hMV16
  have ajV16 : agr [(5, 6), (5, 7), (5, 8), (5, 9), (5, 13)] [] V6 V16 := ajV16
  have agV16 : agr [(0, 9), (3, 13), (3, 14), (3, 15), (4, 5), (4, 6), (4, 7), (4, 8), (5, 6), (5, 7), (5, 8), (5, 9), (5, 10), (5, 11), (5, 12), (5, 13), (5, 14)] [24, 25, 26, 27, 28, 29, 30, 31, 32, 33, 34, 35, 36, 37, 39, 40, 67, 68, 69, 70, 71, 72, 73, 74, 75, 76, 77, 78, 79, 80, 81, 82, 83, 84, 85] V V16 := agV6.tr ajV16 (by decide) (by decide)
  have t11 : (V16 5 6).toInt = 0 := t11
  have t12 : (V16 5 7).toInt = 0 := t12
  have t13 : (V16 5 8).toInt = 0 := t13
  have t14 : (V16 5 9).toInt = 0 := t14
  have t15 : (V16 5 13).toInt = 0 := t15
  have r18 : 0 ≤ ((V16 5 6)).toInt ∧ ((V16 5 6)).toInt ≤ 400 := hMV16 5 6
  have r19 : 0 ≤ ((V16 5 7)).toInt ∧ ((V16 5 7)).toInt ≤ 2048 := hMV16 5 7
  have r20 : 0 ≤ ((V16 5 8)).toInt ∧ ((V16 5 8)).toInt ≤ 300 := hMV16 5 8
  have r21 : 0 ≤ ((V16 5 9)).toInt ∧ ((V16 5 9)).toInt ≤ 3 := hMV16 5 9
  have r22 : 0 ≤ ((V16 5 13)).toInt ∧ ((V16 5 13)).toInt ≤ 3000 := hMV16 5 13
  refine lv_aload_n hx hb dX11_get_16 rfl (lv_at hl 0 rfl) ?_
  refine va_get (D := D) (ci := 11) (v := .int (V16 0 8)) (fs := (xfHouse ad V16 L Z)) (C := RX11) (T := TX11) (N := 10) hx hb hg inX11 hown hK hP 0 xgHouse rfl 8 (by decide) (hg _ w723) (fun _ h9 => h9) rfl dX11_get_17 ?_
  refine g_top (v := (V 0 8)) ((ajV16 0 8 rfl).trans (ajV6 0 8 rfl)) ?_
  have r23 : 0 ≤ ((V 0 8)).toInt ∧ ((V 0 8)).toInt ≤ 1 := hMV 0 8
  refine lv_if_ne (tgt := 30) hx hb dX11_get_20 (by decide) (fun c24 => ?_) (fun c24 => ?_)
  · skip
    have f25 : ((V 0 8)).toInt ≠ 0 := b_neq rfl (by decide) c24
    refine lv_aload_n hx hb dX11_get_30 rfl (lv_at hl 0 rfl) ?_
    refine va_get (D := D) (ci := 11) (v := .ref (ad 3)) (fs := (xfHouse ad V16 L Z)) (C := RX11) (T := TX11) (N := 10) hx hb hg inX11 hown hK hP 0 xgHouse rfl 3 (by decide) (hg _ w718) (fun _ h9 => h9) rfl dX11_get_31 ?_
    refine lv_iload_n hx hb dX11_get_34 rfl (lv_at hl 1 rfl) ?_
    refine gA_int (gA_runV (As := [.int p0]) (rest := []) (ci := 8) (q0 := 3) hx hb hml hown hg hP hD hK hS hA hnw hgk (x_isOpen l D ks H.size ad kk V16 L Z p0 hMV16 ) w1158 w1159 w1160 w164 w1161 rfl xgStock hdV_yX8_isOpen ⟨Nat.le_of_ble_eq_true rfl, Nat.le_of_ble_eq_true rfl⟩ rfl hl.1 rfl (Nat.le_of_ble_eq_true rfl) dX11_get_35 ⟨z0, z0⟩) hP hD hK hS hA (fun z26 u27 H locs w28 hP hD hK hS => ?_)
    obtain ⟨rgz26, t29⟩ := w28
    have rgz26 : 0 ≤ z26.toInt ∧ z26.toInt ≤ 1 := rgz26
    have t29 : Imp (z26.toInt = 1) (0 ≤ p0.toInt ∧ p0.toInt < (V16 3 12).toInt) := t29
    have pq30 : (V16 3 12).toInt = ((V 3 12)).toInt := congrArg Int32.toInt ((ajV16 3 12 rfl).trans (ajV6 3 12 rfl))
    have r31 : 1 ≤ ((V 3 12)).toInt ∧ ((V 3 12)).toInt ≤ 40 := hMV 3 12
    refine lv_if_ne (tgt := 48) hx hb dX11_get_38 (by decide) (fun c32 => ?_) (fun c32 => ?_)
    · skip
      have f33 : z26.toInt ≠ 0 := b_neq rfl (by decide) c32
      have rh34 := Imp.go t29 (by (first | exact om_2ebe32d50835 rgz26.1 rgz26.2 f33 | omega))
      refine lv_aload_n hx hb dX11_get_48 rfl (lv_at hl 0 rfl) ?_
      refine va_get (D := D) (ci := 11) (v := .ref (ad (38 + Int32.toNatClampNeg (V16 0 6)))) (fs := (xfHouse ad V16 L Z)) (C := RX11) (T := TX11) (N := 10) hx hb hg inX11 hown hK hP 0 xgHouse rfl 6 (by decide) (hg _ w721) (fun _ h9 => h9) rfl dX11_get_49 ?_
      have pq35 : (V16 0 6).toInt = ((V 0 6)).toInt := congrArg Int32.toInt ((ajV16 0 6 rfl).trans (ajV6 0 6 rfl))
      refine g_topv (v := .ref (ad (38 + b))) (rfP (by first | omega | ((try (have i_t29 := Imp.go t29 (by omega))); omega))) ?_
      refine lv_iload_n hx hb dX11_get_52 rfl (lv_at hl 2 rfl) ?_
      refine gA_int (gA_runV (As := [.int p1]) (rest := []) (ci := 0) (q0 := (38 + b)) hx hb hml hown hg hP hD hK hS hA hnw hgk (x_bhas l D ks H.size ad kk V16 L Z p1 (b) hMV16 (show b < 2 from by first | exact om_f940a4667dd6 hb2 | first | omega | ((try (have i_t29 := Imp.go t29 (by omega))); omega))) w1137 w1138 w1139 w167 w1140 rfl (xgBook hb2) hdV_yX0_has ⟨Nat.le_of_ble_eq_true rfl, Nat.le_of_ble_eq_true rfl⟩ rfl hl.1 rfl (Nat.le_of_ble_eq_true rfl) dX11_get_53 ⟨z0, z0⟩) hP hD hK hS hA (fun z36 u37 H locs w38 hP hD hK hS => ?_)
      obtain ⟨rgz36, t39⟩ := w38
      have rgz36 : 0 ≤ z36.toInt ∧ z36.toInt ≤ 1 := rgz36
      have t39 : Imp (z36.toInt = 1) (0 ≤ p1.toInt ∧ p1.toInt < (V16 43 (5 * b + 2)).toInt) := t39
      refine lv_if_eq (tgt := 70) hx hb dX11_get_56 (by decide) (fun c40 => ?_) (fun c40 => ?_)
      · skip
        have f41 : z36.toInt = 0 := b_eq rfl (by decide) c40
        refine lv_aload_n hx hb dX11_get_70 rfl (lv_at hl 0 rfl) ?_
        refine lv_iconst (v := 4) hx hb dX11_get_71 (by decide) ?_
        refine lv_iconst (v := (-1)) hx hb dX11_get_72 (by decide) ?_
        have r42 : Int32.toInt 4 = 4 := by decide
        have r43 : Int32.toInt (-1) = (-1) := by decide
        refine gA_int (gA_runV (As := [.int 4, .int (-1)]) (rest := []) (ci := 11) (q0 := 0) hx hb hml hown hg hP hD hK hS hA hnw hgk (x_ends l D ks H.size ad kk V16 L Z 4 (-1) hMV16 ) w1171 w1173 w42 w156 w1174 rfl xgHouse hdV_yX11_ends ⟨Nat.le_of_ble_eq_true rfl, Nat.le_of_ble_eq_true rfl⟩ rfl hl.1 rfl (Nat.le_of_ble_eq_true rfl) dX11_get_73 ⟨z0, z0⟩) hP hD hK hS hA (fun z44 u45 H locs w46 hP hD hK hS => ?_)
        obtain ⟨V47, L48⟩ := u45
        obtain ⟨hMV47, ajV47, axL48⟩ := w46
        have axL48 : L = L48 := Eq.symm axL48
        subst axL48
        have hP : va_P D vwCl (xw ad kk V47 L Z) H := hP
        have hD : va_D A (xw ad kk V47 L Z) := hD
        have hMV47 : rgd bX V47 := hMV47
        have ajV47 : agr [(0, 9)] [] V16 V47 := ajV47
        have agV47 : agr [(0, 9), (3, 13), (3, 14), (3, 15), (4, 5), (4, 6), (4, 7), (4, 8), (5, 6), (5, 7), (5, 8), (5, 9), (5, 10), (5, 11), (5, 12), (5, 13), (5, 14)] [24, 25, 26, 27, 28, 29, 30, 31, 32, 33, 34, 35, 36, 37, 39, 40, 67, 68, 69, 70, 71, 72, 73, 74, 75, 76, 77, 78, 79, 80, 81, 82, 83, 84, 85] V V47 := agV16.tr ajV47 (by decide) (by decide)
        have hi49 : HI V47 Z b := (HI.ag (HI.ag (HI.ag hi ajV6 (by decide)) ajV16 (by decide)) ajV47 (by decide))
        refine W.know (fun kr1 kr2 => ?_)
        refine W.widen (k := zcc Z) (n := zss Z) (Nat.sub_le _ _) (Nat.sub_le _ _) ?_
        exact W.iret (v := z44) hx hb hr (fun t ht hW => ⟨⟨z44, (V47, L, Z), rfl, ⟨hMV47, agV47, rfl, zoZ, hi49⟩, ⟨by rw [ht]; exact hP, va_K.moved hW.alike hK, hD⟩, by rw [ht]; exact kr1, by rw [ht]; exact kr2⟩, hS.F ht⟩) hS.2.2 dX11_get_76
      · skip
        have f50 : z36.toInt ≠ 0 := b_neq rfl (by decide) c40
        have rh51 := Imp.go t39 (by (first | exact om_2ebe32d50835 rgz36.1 rgz36.2 f50 | omega))
        have pq52 : (V16 43 (5 * b + 2)).toInt = ((V 43 (5 * b + 2))).toInt := congrArg Int32.toInt ((ajV16 43 (5 * b + 2) rfl).trans (ajV6 43 (5 * b + 2) rfl))
        have r53 : 0 ≤ ((V 43 (5 * b + 2))).toInt ∧ ((V 43 (5 * b + 2))).toInt ≤ ((xcap (5 * b + 2) : Nat) : Int) := hMV 43 (5 * b + 2)
        have r54 : xcap (5 * b + 2) = 24 := xcap_2
        refine lv_aload_n hx hb dX11_get_59 rfl (lv_at hl 0 rfl) ?_
        refine va_get (D := D) (ci := 11) (v := .ref (ad (38 + Int32.toNatClampNeg (V16 0 6)))) (fs := (xfHouse ad V16 L Z)) (C := RX11) (T := TX11) (N := 10) hx hb hg inX11 hown hK hP 0 xgHouse rfl 6 (by decide) (hg _ w721) (fun _ h9 => h9) rfl dX11_get_60 ?_
        refine g_topv (v := .ref (ad (38 + b))) (rfP (by first | omega | ((try (have i_t39 := Imp.go t39 (by omega))); (try (have i_t29 := Imp.go t29 (by omega))); (try (have i_t29 := Imp.go t29 (by omega))); (try (have i_t39 := Imp.go t39 (by omega))); omega))) ?_
        refine lv_iload_n hx hb dX11_get_63 rfl (lv_at hl 2 rfl) ?_
        refine gA_int (gA_runV (As := [.int p1]) (rest := []) (ci := 0) (q0 := (38 + b)) hx hb hml hown hg hP hD hK hS hA hnw hgk (x_isThere l D ks H.size ad kk V16 L Z p1 (b) hMV16 (by first | exact om_afc7a4c8b051 pq52 r53.2 r54 ((Imp.go t39 (imp_a (rgz36.1) (rgz36.2) (f50))).1) ((Imp.go t39 (imp_a (rgz36.1) (rgz36.2) (f50))).2) | first | omega | ((try (have i_t39 := Imp.go t39 (by omega))); (try (have i_t29 := Imp.go t29 (by omega))); (try (have i_t29 := Imp.go t29 (by omega))); (try (have i_t39 := Imp.go t39 (by omega))); omega)) (show b < 2 from by first | exact om_f940a4667dd6 hb2 | first | omega | ((try (have i_t39 := Imp.go t39 (by omega))); (try (have i_t29 := Imp.go t29 (by omega))); (try (have i_t29 := Imp.go t29 (by omega))); (try (have i_t39 := Imp.go t39 (by omega))); omega))) w1175 w1070 w1071 w167 w1072 rfl (xgBook hb2) hdV_yX0_isThere ⟨Nat.le_of_ble_eq_true rfl, Nat.le_of_ble_eq_true rfl⟩ rfl hl.1 rfl (Nat.le_of_ble_eq_true rfl) dX11_get_64 ⟨z0, z0⟩) hP hD hK hS hA (fun z55 u56 H locs w57 hP hD hK hS => ?_)
        have rgz55 := w57
        have rgz55 : 0 ≤ z55.toInt ∧ z55.toInt ≤ 1 := rgz55
        refine lv_if_ne (tgt := 77) hx hb dX11_get_67 (by decide) (fun c58 => ?_) (fun c58 => ?_)
        · skip
          have f59 : z55.toInt ≠ 0 := b_neq rfl (by decide) c58
          have hi60 : HI V16 Z b := (HI.ag (HI.ag hi ajV6 (by decide)) ajV16 (by decide))
          have mt61 : MTr V16 Z b := HI.mtr hi60 (by (first | exact om_2af80aff8bcb rh51.1 rh51.2 | omega)) (by (first | exact om_b66ba74381d5 t13 | omega)) (by (first | exact om_b66ba74381d5 t11 | omega))
          refine lv_aload_n hx hb dX11_get_77 rfl (lv_at hl 0 rfl) ?_
          refine va_get (D := D) (ci := 11) (v := .ref (ad 5)) (fs := (xfHouse ad V16 L Z)) (C := RX11) (T := TX11) (N := 10) hx hb hg inX11 hown hK hP 0 xgHouse rfl 5 (by decide) (hg _ w720) (fun _ h9 => h9) rfl dX11_get_78 ?_
          refine lv_iload_n hx hb dX11_get_81 rfl (lv_at hl 2 rfl) ?_
          refine lv_iload_n hx hb dX11_get_82 rfl (lv_at hl 1 rfl) ?_
          refine lv_iconst (v := 0) hx hb dX11_get_83 (by decide) ?_
          refine W.know (fun k63 k64 => ?_)
          obtain ⟨Hk62, hHk62⟩ : ∃ z, z = H := ⟨_, rfl⟩
          have k63 : Hk62.size ≤ s.heap.size + (zcc Z - zcc Z) := by rw [hHk62]; exact k63
          have k64 : tot Hk62 ≤ tot s.heap + (zss Z - zss Z) := by rw [hHk62]; exact k64
          refine gZ_void (gA_runV (As := [.int p1, .int p0, .int 0]) (rest := []) (ci := 5) (q0 := 5) hx hb hml hown hg hP hD hK hS hA hnw hgk (x_pushRoot l D ks H.size ad kk V16 L Z p1 p0 0 (b) hMV16 (by first | exact om_cccd982b48f8 pq52 r53.2 r54 ((Imp.go t39 (imp_a (rgz36.1) (rgz36.2) (f50))).1) ((Imp.go t39 (imp_a (rgz36.1) (rgz36.2) (f50))).2) | first | omega | ((try (have i_t39 := Imp.go t39 (by omega))); (try (have i_t29 := Imp.go t29 (by omega))); (try (have i_t29 := Imp.go t29 (by omega))); (try (have i_t39 := Imp.go t39 (by omega))); omega)) (by first | exact om_47058e563f80 pq30 r31.2 ((Imp.go t29 (imp_a (rgz26.1) (rgz26.2) (f33))).1) ((Imp.go t29 (imp_a (rgz26.1) (rgz26.2) (f33))).2) | first | omega | ((try (have i_t39 := Imp.go t39 (by omega))); (try (have i_t29 := Imp.go t29 (by omega))); (try (have i_t29 := Imp.go t29 (by omega))); (try (have i_t39 := Imp.go t39 (by omega))); omega)) (show b < 2 from by first | exact om_f940a4667dd6 hb2 | first | omega | ((try (have i_t39 := Imp.go t39 (by omega))); (try (have i_t29 := Imp.go t29 (by omega))); (try (have i_t29 := Imp.go t29 (by omega))); (try (have i_t39 := Imp.go t39 (by omega))); omega)) mt61) w1176 w1177 w1178 w171 w1179 rfl xgMachine hdV_yX5_pushRoot ⟨Nat.le_of_ble_eq_true rfl, Nat.le_of_ble_eq_true rfl⟩ rfl hl.1 rfl (Nat.le_of_ble_eq_true rfl) dX11_get_84 ⟨z1 zoZ.1, z1 zoZ.2.1⟩) hD hS hA (fun u66 H locs w67 hP hD hK hS y68 y69 => ?_)
          obtain ⟨V70, L71, Z72⟩ := u66
          obtain ⟨hMV70, ajV70, axL71, zlZ72, t74⟩ := w67
          have axL71 : L = L71 := Eq.symm axL71
          subst axL71
          have hP : va_P D vwCl (xw ad kk V70 L Z72) H := hP
          have hD : va_D A (xw ad kk V70 L Z72) := hD
          have hK : va_K D vwCl (xty kk Z72) s := hK
          have hMV70 : rgd bX V70 := hMV70
          have ajV70 : agr [(5, 6), (5, 9)] [67, 68, 69, 70, 71, 72, 73, 74, 75, 76, 77, 78, 79, 80, 81, 82, 83, 84, 85] V16 V70 := ajV70
          have agV70 : agr [(0, 9), (3, 13), (3, 14), (3, 15), (4, 5), (4, 6), (4, 7), (4, 8), (5, 6), (5, 7), (5, 8), (5, 9), (5, 10), (5, 11), (5, 12), (5, 13), (5, 14)] [24, 25, 26, 27, 28, 29, 30, 31, 32, 33, 34, 35, 36, 37, 39, 40, 67, 68, 69, 70, 71, 72, 73, 74, 75, 76, 77, 78, 79, 80, 81, 82, 83, 84, 85] V V70 := agV16.tr ajV70 (by decide) (by decide)
          have zlZ72 : ZL Z Z72 := zlZ72
          have zoZ72 : ZL Z Z72 := ZL.tr zoZ zlZ72
          have ziZ72 := zlZ72.1
          have zjZ72 := zlZ72.2.1
          have zkZ72 := zlZ72.2.2.1
          have zmZ72 := zoZ72.1
          have znZ72 := zoZ72.2.1
          have zpZ_Z72 := zoZ.1
          have zqZ_Z72 := zoZ.2.1
          have y68 : H.size ≤ Hk62.size + (zcc Z - zcc Z72) := by rw [hHk62]; exact y68
          have y69 : tot H ≤ tot Hk62 + (zss Z - zss Z72) := by rw [hHk62]; exact y69
          refine W.tight (k := zcc Z - zcc Z72) (n := zss Z - zss Z72) (by first | exact tg9 y68 k63 zlZ72.1 zoZ.1 | omega) (by first | exact tg9 y69 k64 zlZ72.2.1 zoZ.2.1 | omega) ?_
          have t74 : MJ V70 Z72 b := t74
          refine lv_aload_n hx hb dX11_get_87 rfl (lv_at hl 0 rfl) ?_
          refine va_get (D := D) (ci := 11) (v := .ref (ad 5)) (fs := (xfHouse ad V70 L Z72)) (C := RX11) (T := TX11) (N := 10) hx hb hg inX11 hown hK hP 0 xgHouse rfl 5 (by decide) (hg _ w720) (fun _ h9 => h9) rfl dX11_get_88 ?_
          refine W.know (fun k76 k77 => ?_)
          obtain ⟨Hk75, hHk75⟩ : ∃ z, z = H := ⟨_, rfl⟩
          have k76 : Hk75.size ≤ s.heap.size + (zcc Z - zcc Z72) := by rw [hHk75]; exact k76
          have k77 : tot Hk75 ≤ tot s.heap + (zss Z - zss Z72) := by rw [hHk75]; exact k77
          refine gZ_void (gA_runV (As := []) (rest := []) (ci := 5) (q0 := 5) hx hb hml hown hg hP hD hK hS hA hnw hgk (x_run l D ks H.size ad kk V70 L Z72 (b) hMV70 (show b < 2 from by first | exact om_f940a4667dd6 hb2 | first | omega | ((try (have i_t39 := Imp.go t39 (by omega))); (try (have i_t29 := Imp.go t29 (by omega))); (try (have i_t29 := Imp.go t29 (by omega))); (try (have i_t39 := Imp.go t39 (by omega))); omega)) t74) w1247 w1248 w1249 w171 w1250 rfl xgMachine hdV_yX5_run ⟨Nat.le_of_ble_eq_true rfl, Nat.le_of_ble_eq_true rfl⟩ rfl hl.1 rfl (Nat.le_of_ble_eq_true rfl) dX11_get_91 ⟨z1 zoZ72.1, z1 zoZ72.2.1⟩) hD hS hA (fun u79 H locs w80 hP hD hK hS y81 y82 => ?_)
          obtain ⟨V83, L84, Z85⟩ := u79
          obtain ⟨hMV83, ajV83, axL84, zlZ85, t87⟩ := w80
          have axL84 : L = L84 := Eq.symm axL84
          subst axL84
          have hP : va_P D vwCl (xw ad kk V83 L Z85) H := hP
          have hD : va_D A (xw ad kk V83 L Z85) := hD
          have hK : va_K D vwCl (xty kk Z85) s := hK
          have hMV83 : rgd bX V83 := hMV83
          have ajV83 : agr [(3, 13), (3, 14), (3, 15), (4, 5), (4, 6), (5, 6), (5, 7), (5, 8), (5, 9), (5, 10), (5, 11), (5, 12), (5, 13), (5, 14)] [24, 25, 26, 27, 28, 29, 30, 31, 32, 33, 34, 35, 36, 37, 39, 40, 67, 68, 69, 70, 71, 72, 73, 74, 75, 76, 77, 78, 79, 80, 81, 82, 83, 84, 85] V70 V83 := ajV83
          have agV83 : agr [(0, 9), (3, 13), (3, 14), (3, 15), (4, 5), (4, 6), (4, 7), (4, 8), (5, 6), (5, 7), (5, 8), (5, 9), (5, 10), (5, 11), (5, 12), (5, 13), (5, 14)] [24, 25, 26, 27, 28, 29, 30, 31, 32, 33, 34, 35, 36, 37, 39, 40, 67, 68, 69, 70, 71, 72, 73, 74, 75, 76, 77, 78, 79, 80, 81, 82, 83, 84, 85] V V83 := agV70.tr ajV83 (by decide) (by decide)
          have zlZ85 : ZL Z72 Z85 := zlZ85
          have zoZ85 : ZL Z Z85 := ZL.tr zoZ72 zlZ85
          have ziZ85 := zlZ85.1
          have zjZ85 := zlZ85.2.1
          have zkZ85 := zlZ85.2.2.1
          have zmZ85 := zoZ85.1
          have znZ85 := zoZ85.2.1
          have zpZ72_Z85 := zoZ72.1
          have zqZ72_Z85 := zoZ72.2.1
          have y81 : H.size ≤ Hk75.size + (zcc Z72 - zcc Z85) := by rw [hHk75]; exact y81
          have y82 : tot H ≤ tot Hk75 + (zss Z72 - zss Z85) := by rw [hHk75]; exact y82
          refine W.tight (k := zcc Z - zcc Z85) (n := zss Z - zss Z85) (by first | exact tg9 y81 k76 zlZ85.1 zoZ72.1 | omega) (by first | exact tg9 y82 k77 zlZ85.2.1 zoZ72.2.1 | omega) ?_
          have t87 : MJ V83 Z85 b := t87
          refine lv_aload_n hx hb dX11_get_94 rfl (lv_at hl 0 rfl) ?_
          refine lv_aload_n hx hb dX11_get_95 rfl (lv_at hl 0 rfl) ?_
          refine va_get (D := D) (ci := 11) (v := .ref (ad 5)) (fs := (xfHouse ad V83 L Z85)) (C := RX11) (T := TX11) (N := 10) hx hb hg inX11 hown hK hP 0 xgHouse rfl 5 (by decide) (hg _ w720) (fun _ h9 => h9) rfl dX11_get_96 ?_
          refine gA_int (gA_runV (As := []) (rest := [.ref (ad 0)]) (ci := 5) (q0 := 5) hx hb hml hown hg hP hD hK hS hA hnw hgk (x_howItEnded l D ks H.size ad kk V83 L Z85  hMV83 ) w1501 w1502 w1503 w171 w1504 rfl xgMachine hdV_yX5_howItEnded ⟨Nat.le_of_ble_eq_true rfl, Nat.le_of_ble_eq_true rfl⟩ rfl hl.1 rfl (Nat.le_of_ble_eq_true rfl) dX11_get_99 ⟨z0, z0⟩) hP hD hK hS hA (fun z88 u89 H locs w90 hP hD hK hS => ?_)
          obtain ⟨V91, L92⟩ := u89
          obtain ⟨hMV91, ajV91, axL92⟩ := w90
          have axL92 : L = L92 := Eq.symm axL92
          subst axL92
          have hP : va_P D vwCl (xw ad kk V91 L Z85) H := hP
          have hD : va_D A (xw ad kk V91 L Z85) := hD
          have hMV91 : rgd bX V91 := hMV91
          have ajV91 : agr [(4, 7), (4, 8)] [] V83 V91 := ajV91
          have agV91 : agr [(0, 9), (3, 13), (3, 14), (3, 15), (4, 5), (4, 6), (4, 7), (4, 8), (5, 6), (5, 7), (5, 8), (5, 9), (5, 10), (5, 11), (5, 12), (5, 13), (5, 14)] [24, 25, 26, 27, 28, 29, 30, 31, 32, 33, 34, 35, 36, 37, 39, 40, 67, 68, 69, 70, 71, 72, 73, 74, 75, 76, 77, 78, 79, 80, 81, 82, 83, 84, 85] V V91 := agV83.tr ajV91 (by decide) (by decide)
          refine lv_aload_n hx hb dX11_get_102 rfl (lv_at hl 0 rfl) ?_
          refine va_get (D := D) (ci := 11) (v := .ref (ad 5)) (fs := (xfHouse ad V91 L Z85)) (C := RX11) (T := TX11) (N := 10) hx hb hg inX11 hown hK hP 0 xgHouse rfl 5 (by decide) (hg _ w720) (fun _ h9 => h9) rfl dX11_get_103 ?_
          refine lv_iconst (v := (-1)) hx hb dX11_get_106 (by decide) ?_
          have r93 : Int32.toInt (-1) = (-1) := by decide
          refine gA_int (gA_runV (As := [.int (-1)]) (rest := [.int z88, .ref (ad 0)]) (ci := 5) (q0 := 5) hx hb hml hown hg hP hD hK hS hA hnw hgk (x_answerOr l D ks H.size ad kk V91 L Z85 (-1) hMV91 ) w1506 w1507 w1508 w171 w1509 rfl xgMachine hdV_yX5_answerOr ⟨Nat.le_of_ble_eq_true rfl, Nat.le_of_ble_eq_true rfl⟩ rfl hl.1 rfl (Nat.le_of_ble_eq_true rfl) dX11_get_107 ⟨z0, z0⟩) hP hD hK hS hA (fun z94 u95 H locs w96 hP hD hK hS => ?_)
          refine gA_int (gA_runV (As := [.int z88, .int z94]) (rest := []) (ci := 11) (q0 := 0) hx hb hml hown hg hP hD hK hS hA hnw hgk (x_ends l D ks H.size ad kk V91 L Z85 z88 z94 hMV91 ) w1171 w1173 w42 w156 w1174 rfl xgHouse hdV_yX11_ends ⟨Nat.le_of_ble_eq_true rfl, Nat.le_of_ble_eq_true rfl⟩ rfl hl.1 rfl (Nat.le_of_ble_eq_true rfl) dX11_get_110 ⟨z0, z0⟩) hP hD hK hS hA (fun z97 u98 H locs w99 hP hD hK hS => ?_)
          obtain ⟨V100, L101⟩ := u98
          obtain ⟨hMV100, ajV100, axL101⟩ := w99
          have axL101 : L = L101 := Eq.symm axL101
          subst axL101
          have hP : va_P D vwCl (xw ad kk V100 L Z85) H := hP
          have hD : va_D A (xw ad kk V100 L Z85) := hD
          have hMV100 : rgd bX V100 := hMV100
          have ajV100 : agr [(0, 9)] [] V91 V100 := ajV100
          have agV100 : agr [(0, 9), (3, 13), (3, 14), (3, 15), (4, 5), (4, 6), (4, 7), (4, 8), (5, 6), (5, 7), (5, 8), (5, 9), (5, 10), (5, 11), (5, 12), (5, 13), (5, 14)] [24, 25, 26, 27, 28, 29, 30, 31, 32, 33, 34, 35, 36, 37, 39, 40, 67, 68, 69, 70, 71, 72, 73, 74, 75, 76, 77, 78, 79, 80, 81, 82, 83, 84, 85] V V100 := agV91.tr ajV100 (by decide) (by decide)
          have hi102 : HI V100 Z85 b := (HI.ag (HI.ag (MJ.hi t87) ajV91 (by decide)) ajV100 (by decide))
          refine W.know (fun kr1 kr2 => ?_)
          refine W.widen (k := zcc Z) (n := zss Z) (Nat.sub_le _ _) (Nat.sub_le _ _) ?_
          exact W.iret (v := z97) hx hb hr (fun t ht hW => ⟨⟨z97, (V100, L, Z85), rfl, ⟨hMV100, agV100, rfl, zoZ85, hi102⟩, ⟨by rw [ht]; exact hP, va_K.moved hW.alike hK, hD⟩, by rw [ht]; exact kr1, by rw [ht]; exact kr2⟩, hS.F ht⟩) hS.2.2 dX11_get_113
        · skip
          have f103 : z55.toInt = 0 := b_eq rfl (by decide) c58
          refine lv_aload_n hx hb dX11_get_70 rfl (lv_at hl 0 rfl) ?_
          refine lv_iconst (v := 4) hx hb dX11_get_71 (by decide) ?_
          refine lv_iconst (v := (-1)) hx hb dX11_get_72 (by decide) ?_
          have r104 : Int32.toInt 4 = 4 := by decide
          have r105 : Int32.toInt (-1) = (-1) := by decide
          refine gA_int (gA_runV (As := [.int 4, .int (-1)]) (rest := []) (ci := 11) (q0 := 0) hx hb hml hown hg hP hD hK hS hA hnw hgk (x_ends l D ks H.size ad kk V16 L Z 4 (-1) hMV16 ) w1171 w1173 w42 w156 w1174 rfl xgHouse hdV_yX11_ends ⟨Nat.le_of_ble_eq_true rfl, Nat.le_of_ble_eq_true rfl⟩ rfl hl.1 rfl (Nat.le_of_ble_eq_true rfl) dX11_get_73 ⟨z0, z0⟩) hP hD hK hS hA (fun z106 u107 H locs w108 hP hD hK hS => ?_)
          obtain ⟨V109, L110⟩ := u107
          obtain ⟨hMV109, ajV109, axL110⟩ := w108
          have axL110 : L = L110 := Eq.symm axL110
          subst axL110
          have hP : va_P D vwCl (xw ad kk V109 L Z) H := hP
          have hD : va_D A (xw ad kk V109 L Z) := hD
          have hMV109 : rgd bX V109 := hMV109
          have ajV109 : agr [(0, 9)] [] V16 V109 := ajV109
          have agV109 : agr [(0, 9), (3, 13), (3, 14), (3, 15), (4, 5), (4, 6), (4, 7), (4, 8), (5, 6), (5, 7), (5, 8), (5, 9), (5, 10), (5, 11), (5, 12), (5, 13), (5, 14)] [24, 25, 26, 27, 28, 29, 30, 31, 32, 33, 34, 35, 36, 37, 39, 40, 67, 68, 69, 70, 71, 72, 73, 74, 75, 76, 77, 78, 79, 80, 81, 82, 83, 84, 85] V V109 := agV16.tr ajV109 (by decide) (by decide)
          have hi111 : HI V109 Z b := (HI.ag (HI.ag (HI.ag hi ajV6 (by decide)) ajV16 (by decide)) ajV109 (by decide))
          refine W.know (fun kr1 kr2 => ?_)
          refine W.widen (k := zcc Z) (n := zss Z) (Nat.sub_le _ _) (Nat.sub_le _ _) ?_
          exact W.iret (v := z106) hx hb hr (fun t ht hW => ⟨⟨z106, (V109, L, Z), rfl, ⟨hMV109, agV109, rfl, zoZ, hi111⟩, ⟨by rw [ht]; exact hP, va_K.moved hW.alike hK, hD⟩, by rw [ht]; exact kr1, by rw [ht]; exact kr2⟩, hS.F ht⟩) hS.2.2 dX11_get_76
    · skip
      have f112 : z26.toInt = 0 := b_eq rfl (by decide) c32
      refine lv_aload_n hx hb dX11_get_41 rfl (lv_at hl 0 rfl) ?_
      refine lv_iconst (v := 3) hx hb dX11_get_42 (by decide) ?_
      refine lv_iconst (v := (-1)) hx hb dX11_get_43 (by decide) ?_
      have r113 : Int32.toInt 3 = 3 := by decide
      have r114 : Int32.toInt (-1) = (-1) := by decide
      refine gA_int (gA_runV (As := [.int 3, .int (-1)]) (rest := []) (ci := 11) (q0 := 0) hx hb hml hown hg hP hD hK hS hA hnw hgk (x_ends l D ks H.size ad kk V16 L Z 3 (-1) hMV16 ) w1171 w1173 w42 w156 w1174 rfl xgHouse hdV_yX11_ends ⟨Nat.le_of_ble_eq_true rfl, Nat.le_of_ble_eq_true rfl⟩ rfl hl.1 rfl (Nat.le_of_ble_eq_true rfl) dX11_get_44 ⟨z0, z0⟩) hP hD hK hS hA (fun z115 u116 H locs w117 hP hD hK hS => ?_)
      obtain ⟨V118, L119⟩ := u116
      obtain ⟨hMV118, ajV118, axL119⟩ := w117
      have axL119 : L = L119 := Eq.symm axL119
      subst axL119
      have hP : va_P D vwCl (xw ad kk V118 L Z) H := hP
      have hD : va_D A (xw ad kk V118 L Z) := hD
      have hMV118 : rgd bX V118 := hMV118
      have ajV118 : agr [(0, 9)] [] V16 V118 := ajV118
      have agV118 : agr [(0, 9), (3, 13), (3, 14), (3, 15), (4, 5), (4, 6), (4, 7), (4, 8), (5, 6), (5, 7), (5, 8), (5, 9), (5, 10), (5, 11), (5, 12), (5, 13), (5, 14)] [24, 25, 26, 27, 28, 29, 30, 31, 32, 33, 34, 35, 36, 37, 39, 40, 67, 68, 69, 70, 71, 72, 73, 74, 75, 76, 77, 78, 79, 80, 81, 82, 83, 84, 85] V V118 := agV16.tr ajV118 (by decide) (by decide)
      have hi120 : HI V118 Z b := (HI.ag (HI.ag (HI.ag hi ajV6 (by decide)) ajV16 (by decide)) ajV118 (by decide))
      refine W.know (fun kr1 kr2 => ?_)
      refine W.widen (k := zcc Z) (n := zss Z) (Nat.sub_le _ _) (Nat.sub_le _ _) ?_
      exact W.iret (v := z115) hx hb hr (fun t ht hW => ⟨⟨z115, (V118, L, Z), rfl, ⟨hMV118, agV118, rfl, zoZ, hi120⟩, ⟨by rw [ht]; exact hP, va_K.moved hW.alike hK, hD⟩, by rw [ht]; exact kr1, by rw [ht]; exact kr2⟩, hS.F ht⟩) hS.2.2 dX11_get_47
  · skip
    have f121 : ((V 0 8)).toInt = 0 := b_eq rfl (by decide) c24
    refine lv_aload_n hx hb dX11_get_23 rfl (lv_at hl 0 rfl) ?_
    refine lv_iconst (v := 4) hx hb dX11_get_24 (by decide) ?_
    refine lv_iconst (v := (-1)) hx hb dX11_get_25 (by decide) ?_
    have r122 : Int32.toInt 4 = 4 := by decide
    have r123 : Int32.toInt (-1) = (-1) := by decide
    refine gA_int (gA_runV (As := [.int 4, .int (-1)]) (rest := []) (ci := 11) (q0 := 0) hx hb hml hown hg hP hD hK hS hA hnw hgk (x_ends l D ks H.size ad kk V16 L Z 4 (-1) hMV16 ) w1171 w1173 w42 w156 w1174 rfl xgHouse hdV_yX11_ends ⟨Nat.le_of_ble_eq_true rfl, Nat.le_of_ble_eq_true rfl⟩ rfl hl.1 rfl (Nat.le_of_ble_eq_true rfl) dX11_get_26 ⟨z0, z0⟩) hP hD hK hS hA (fun z124 u125 H locs w126 hP hD hK hS => ?_)
    obtain ⟨V127, L128⟩ := u125
    obtain ⟨hMV127, ajV127, axL128⟩ := w126
    have axL128 : L = L128 := Eq.symm axL128
    subst axL128
    have hP : va_P D vwCl (xw ad kk V127 L Z) H := hP
    have hD : va_D A (xw ad kk V127 L Z) := hD
    have hMV127 : rgd bX V127 := hMV127
    have ajV127 : agr [(0, 9)] [] V16 V127 := ajV127
    have agV127 : agr [(0, 9), (3, 13), (3, 14), (3, 15), (4, 5), (4, 6), (4, 7), (4, 8), (5, 6), (5, 7), (5, 8), (5, 9), (5, 10), (5, 11), (5, 12), (5, 13), (5, 14)] [24, 25, 26, 27, 28, 29, 30, 31, 32, 33, 34, 35, 36, 37, 39, 40, 67, 68, 69, 70, 71, 72, 73, 74, 75, 76, 77, 78, 79, 80, 81, 82, 83, 84, 85] V V127 := agV16.tr ajV127 (by decide) (by decide)
    have hi129 : HI V127 Z b := (HI.ag (HI.ag (HI.ag hi ajV6 (by decide)) ajV16 (by decide)) ajV127 (by decide))
    refine W.know (fun kr1 kr2 => ?_)
    refine W.widen (k := zcc Z) (n := zss Z) (Nat.sub_le _ _) (Nat.sub_le _ _) ?_
    exact W.iret (v := z124) hx hb hr (fun t ht hW => ⟨⟨z124, (V127, L, Z), rfl, ⟨hMV127, agV127, rfl, zoZ, hi129⟩, ⟨by rw [ht]; exact hP, va_K.moved hW.alike hK, hD⟩, by rw [ht]; exact kr1, by rw [ht]; exact kr2⟩, hS.F ht⟩) hS.2.2 dX11_get_29
abbrev r_x_h_call (Z : XZ) : Room := { frames := 8, cells := zcc Z, slots := zss Z, locals := 181 }
abbrev q_x_h_call (D : va_G) (ks : KS) (ad : Nat → Nat) (kk : Nat → ClassId) (V : Vf) (L : Lf) (Z : XZ) (p0 : Int32) (p1 : Int32) (p2 : Int32) (p3 : Int32) (b : Nat) (A : Nat → Prop) : Array Value → State → Outcome → State → Prop := qZi D (fun (r : Int32) (u : Vf × Lf × XZ) => rgd bX u.1 ∧ agr [(0, 9), (3, 13), (3, 14), (3, 15), (4, 5), (4, 6), (4, 7), (4, 8), (4, 9), (5, 6), (5, 7), (5, 8), (5, 9), (5, 10), (5, 11), (5, 12), (5, 13), (5, 14)] [24, 25, 26, 27, 28, 29, 30, 31, 32, 33, 34, 35, 36, 37, 39, 40, 67, 68, 69, 70, 71, 72, 73, 74, 75, 76, 77, 78, 79, 80, 81, 82, 83, 84, 85] V u.1 ∧ u.2.1 = L ∧ ZL Z u.2.2 ∧ (HI u.1 u.2.2 b)) (fun u => xw ad kk u.1 u.2.1 u.2.2) (fun u => xty kk u.2.2) (fun u => zcc Z - zcc u.2.2) (fun u => zss Z - zss u.2.2) A
set_option maxHeartbeats 4000000 in
set_option maxRecDepth 100000 in
theorem x_h_call (l : Launch) (D : va_G) (ks : KS) (sz : Nat) (ad : Nat → Nat) (kk : Nat → ClassId) (V : Vf) (L : Lf) (Z : XZ) (p0 : Int32) (p1 : Int32) (p2 : Int32) (p3 : Int32) (b : Nat) (hMV : rgd bX V) (hb2 : b < 2) (shk : (V 0 6).toInt = (b : Int)) (hi : HI V Z b)  : Met l yX11_call (Cond.code yX11_call cX11_call 5 (some .int) :: GW) (r_x_h_call Z) (va_Pc [.ref (ad 0), .int p0, .int p1, .int p2, .int p3] (gp D ks (xw ad kk V L Z) (xty kk Z) sz)) (q_x_h_call D ks ad kk V L Z p0 p1 p2 p3 b (va_A (xw ad kk V L Z) sz)) (zcc Z) (zss Z) (va_A (xw ad kk V L Z) sz) := by
  refine g_met (q_x_h_call D ks ad kk V L Z p0 p1 p2 p3 b) (by decide) (Nat.le_of_ble_eq_true rfl) ?_
  intro p e s m below meth c A ls H locs hx hb hr hml hown hg hlocks hin hnw hgk hP hK hD hS hA hl
  have hown : s.vm.findClass RX11 = some m.cls := hown
  have hl : lv_has ls 5 [(0, .ref (ad 0)), (1, .int p0), (2, .int p1), (3, .int p2), (4, .int p3)] := hl
  have hP : va_P D vwCl (xw ad kk V L Z) H := hP
  have hD : va_D A (xw ad kk V L Z) := hD
  have hK : va_K D vwCl (xty kk Z) s := hK
  have agV : agr [(0, 9), (3, 13), (3, 14), (3, 15), (4, 5), (4, 6), (4, 7), (4, 8), (4, 9), (5, 6), (5, 7), (5, 8), (5, 9), (5, 10), (5, 11), (5, 12), (5, 13), (5, 14)] [24, 25, 26, 27, 28, 29, 30, 31, 32, 33, 34, 35, 36, 37, 39, 40, 67, 68, 69, 70, 71, 72, 73, 74, 75, 76, 77, 78, 79, 80, 81, 82, 83, 84, 85] V V := agr.rf
  have zoZ : ZL Z Z := ZL.rf
  refine W.know (fun ka kb => ?_)
  refine W.tight (k := zcc Z - zcc Z) (n := zss Z - zss Z) (by omega) (by omega) ?_
  have r1 : 0 ≤ ((V 0 6)).toInt ∧ ((V 0 6)).toInt ≤ 1 := hMV 0 6
  refine lv_aload_n hx hb dX11_call_0 rfl (lv_at hl 0 rfl) ?_
  refine va_get (D := D) (ci := 11) (v := .ref (ad 4)) (fs := (xfHouse ad V L Z)) (C := RX11) (T := TX11) (N := 10) hx hb hg inX11 hown hK hP 0 xgHouse rfl 4 (by decide) (hg _ w719) (fun _ h9 => h9) rfl dX11_call_1 ?_
  refine lv_iconst (v := 0) hx hb dX11_call_4 (by decide) ?_
  refine lv_iconst (v := 0) hx hb dX11_call_5 (by decide) ?_
  have r2 : Int32.toInt 0 = 0 := by decide
  refine gA_void (gA_runV (As := [.int 0, .int 0]) (rest := []) (ci := 7) (q0 := 4) hx hb hml hown hg hP hD hK hS hA hnw hgk (x_NnoteCause l D ks H.size ad kk V L Z 0 0 hMV ) w1166 w1167 w1168 w166 w1169 rfl xgNotes hdV_yX7_noteCause ⟨Nat.le_of_ble_eq_true rfl, Nat.le_of_ble_eq_true rfl⟩ rfl hl.1 rfl (Nat.le_of_ble_eq_true rfl) dX11_call_6 ⟨z0, z0⟩) hP hD hK hS hA (fun u4 H locs w5 hP hD hK hS => ?_)
  obtain ⟨V6, L7⟩ := u4
  obtain ⟨hMV6, ajV6, axL7⟩ := w5
  have axL7 : L = L7 := Eq.symm axL7
  subst axL7
  have hP : va_P D vwCl (xw ad kk V6 L Z) H := hP
  have hD : va_D A (xw ad kk V6 L Z) := hD
  have hMV6 : rgd bX V6 := hMV6
  have ajV6 : agr [(4, 7), (4, 8)] [] V V6 := ajV6
  have agV6 : agr [(0, 9), (3, 13), (3, 14), (3, 15), (4, 5), (4, 6), (4, 7), (4, 8), (4, 9), (5, 6), (5, 7), (5, 8), (5, 9), (5, 10), (5, 11), (5, 12), (5, 13), (5, 14)] [24, 25, 26, 27, 28, 29, 30, 31, 32, 33, 34, 35, 36, 37, 39, 40, 67, 68, 69, 70, 71, 72, 73, 74, 75, 76, 77, 78, 79, 80, 81, 82, 83, 84, 85] V V6 := agV.tr ajV6 (by decide) (by decide)
  refine lv_aload_n hx hb dX11_call_9 rfl (lv_at hl 0 rfl) ?_
  refine va_get (D := D) (ci := 11) (v := .ref (ad 4)) (fs := (xfHouse ad V6 L Z)) (C := RX11) (T := TX11) (N := 10) hx hb hg inX11 hown hK hP 0 xgHouse rfl 4 (by decide) (hg _ w719) (fun _ h9 => h9) rfl dX11_call_10 ?_
  refine gA_void (gA_runV (As := []) (rest := []) (ci := 7) (q0 := 4) hx hb hml hown hg hP hD hK hS hA hnw hgk (x_NforgetThings l D ks H.size ad kk V6 L Z  hMV6 ) w1514 w1515 w1516 w166 w1517 rfl xgNotes hdV_yX7_forgetThings ⟨Nat.le_of_ble_eq_true rfl, Nat.le_of_ble_eq_true rfl⟩ rfl hl.1 rfl (Nat.le_of_ble_eq_true rfl) dX11_call_13 ⟨z0, z0⟩) hP hD hK hS hA (fun u9 H locs w10 hP hD hK hS => ?_)
  obtain ⟨V11, L12⟩ := u9
  obtain ⟨hMV11, ajV11, axL12⟩ := w10
  have axL12 : L = L12 := Eq.symm axL12
  subst axL12
  have hP : va_P D vwCl (xw ad kk V11 L Z) H := hP
  have hD : va_D A (xw ad kk V11 L Z) := hD
  have hMV11 : rgd bX V11 := hMV11
  have ajV11 : agr [(4, 5)] [] V6 V11 := ajV11
  have agV11 : agr [(0, 9), (3, 13), (3, 14), (3, 15), (4, 5), (4, 6), (4, 7), (4, 8), (4, 9), (5, 6), (5, 7), (5, 8), (5, 9), (5, 10), (5, 11), (5, 12), (5, 13), (5, 14)] [24, 25, 26, 27, 28, 29, 30, 31, 32, 33, 34, 35, 36, 37, 39, 40, 67, 68, 69, 70, 71, 72, 73, 74, 75, 76, 77, 78, 79, 80, 81, 82, 83, 84, 85] V V11 := agV6.tr ajV11 (by decide) (by decide)
  refine lv_aload_n hx hb dX11_call_16 rfl (lv_at hl 0 rfl) ?_
  refine va_get (D := D) (ci := 11) (v := .ref (ad 5)) (fs := (xfHouse ad V11 L Z)) (C := RX11) (T := TX11) (N := 10) hx hb hg inX11 hown hK hP 0 xgHouse rfl 5 (by decide) (hg _ w720) (fun _ h9 => h9) rfl dX11_call_17 ?_
  refine gA_void (gA_runV (As := []) (rest := []) (ci := 5) (q0 := 5) hx hb hml hown hg hP hD hK hS hA hnw hgk (x_restart l D ks H.size ad kk V11 L Z  hMV11 ) w1170 w1044 w1045 w171 w1046 rfl xgMachine hdV_yX5_restart ⟨Nat.le_of_ble_eq_true rfl, Nat.le_of_ble_eq_true rfl⟩ rfl hl.1 rfl (Nat.le_of_ble_eq_true rfl) dX11_call_20 ⟨z0, z0⟩) hP hD hK hS hA (fun u14 H locs w15 hP hD hK hS => ?_)
  obtain ⟨V21, L22⟩ := u14
  obtain ⟨hMV21, ajV21, axL22, t16, t17, t18, t19, t20⟩ := w15
  have axL22 : L = L22 := Eq.symm axL22
  subst axL22
  have hP : va_P D vwCl (xw ad kk V21 L Z) H := hP
  have hD : va_D A (xw ad kk V21 L Z) := hD
  have hMV21 : rgd bX V21 := hMV21
  have ajV21 : agr [(5, 6), (5, 7), (5, 8), (5, 9), (5, 13)] [] V11 V21 := ajV21
  have agV21 : agr [(0, 9), (3, 13), (3, 14), (3, 15), (4, 5), (4, 6), (4, 7), (4, 8), (4, 9), (5, 6), (5, 7), (5, 8), (5, 9), (5, 10), (5, 11), (5, 12), (5, 13), (5, 14)] [24, 25, 26, 27, 28, 29, 30, 31, 32, 33, 34, 35, 36, 37, 39, 40, 67, 68, 69, 70, 71, 72, 73, 74, 75, 76, 77, 78, 79, 80, 81, 82, 83, 84, 85] V V21 := agV11.tr ajV21 (by decide) (by decide)
  have t16 : (V21 5 6).toInt = 0 := t16
  have t17 : (V21 5 7).toInt = 0 := t17
  have t18 : (V21 5 8).toInt = 0 := t18
  have t19 : (V21 5 9).toInt = 0 := t19
  have t20 : (V21 5 13).toInt = 0 := t20
  have r23 : 0 ≤ ((V21 5 6)).toInt ∧ ((V21 5 6)).toInt ≤ 400 := hMV21 5 6
  have r24 : 0 ≤ ((V21 5 7)).toInt ∧ ((V21 5 7)).toInt ≤ 2048 := hMV21 5 7
  have r25 : 0 ≤ ((V21 5 8)).toInt ∧ ((V21 5 8)).toInt ≤ 300 := hMV21 5 8
  have r26 : 0 ≤ ((V21 5 9)).toInt ∧ ((V21 5 9)).toInt ≤ 3 := hMV21 5 9
  have r27 : 0 ≤ ((V21 5 13)).toInt ∧ ((V21 5 13)).toInt ≤ 3000 := hMV21 5 13
  refine lv_aload_n hx hb dX11_call_23 rfl (lv_at hl 0 rfl) ?_
  refine va_get (D := D) (ci := 11) (v := .ref (ad 3)) (fs := (xfHouse ad V21 L Z)) (C := RX11) (T := TX11) (N := 10) hx hb hg inX11 hown hK hP 0 xgHouse rfl 3 (by decide) (hg _ w718) (fun _ h9 => h9) rfl dX11_call_24 ?_
  refine lv_iload_n hx hb dX11_call_27 rfl (lv_at hl 1 rfl) ?_
  refine gA_int (gA_runV (As := [.int p0]) (rest := []) (ci := 8) (q0 := 3) hx hb hml hown hg hP hD hK hS hA hnw hgk (x_isOpen l D ks H.size ad kk V21 L Z p0 hMV21 ) w1158 w1159 w1160 w164 w1161 rfl xgStock hdV_yX8_isOpen ⟨Nat.le_of_ble_eq_true rfl, Nat.le_of_ble_eq_true rfl⟩ rfl hl.1 rfl (Nat.le_of_ble_eq_true rfl) dX11_call_28 ⟨z0, z0⟩) hP hD hK hS hA (fun z28 u29 H locs w30 hP hD hK hS => ?_)
  obtain ⟨rgz28, t31⟩ := w30
  have rgz28 : 0 ≤ z28.toInt ∧ z28.toInt ≤ 1 := rgz28
  have t31 : Imp (z28.toInt = 1) (0 ≤ p0.toInt ∧ p0.toInt < (V21 3 12).toInt) := t31
  have pq32 : (V21 3 12).toInt = ((V 3 12)).toInt := congrArg Int32.toInt ((ajV21 3 12 rfl).trans ((ajV11 3 12 rfl).trans (ajV6 3 12 rfl)))
  have r33 : 1 ≤ ((V 3 12)).toInt ∧ ((V 3 12)).toInt ≤ 40 := hMV 3 12
  refine lv_if_ne (tgt := 41) hx hb dX11_call_31 (by decide) (fun c34 => ?_) (fun c34 => ?_)
  · skip
    have f35 : z28.toInt ≠ 0 := b_neq rfl (by decide) c34
    have rh36 := Imp.go t31 (by (first | exact om_2ebe32d50835 rgz28.1 rgz28.2 f35 | omega))
    refine lv_aload_n hx hb dX11_call_41 rfl (lv_at hl 0 rfl) ?_
    refine va_get (D := D) (ci := 11) (v := .ref (ad 3)) (fs := (xfHouse ad V21 L Z)) (C := RX11) (T := TX11) (N := 10) hx hb hg inX11 hown hK hP 0 xgHouse rfl 3 (by decide) (hg _ w718) (fun _ h9 => h9) rfl dX11_call_42 ?_
    refine lv_iload_n hx hb dX11_call_45 rfl (lv_at hl 2 rfl) ?_
    refine gA_int (gA_runV (As := [.int p1]) (rest := []) (ci := 8) (q0 := 3) hx hb hml hown hg hP hD hK hS hA hnw hgk (x_isMade l D ks H.size ad kk V21 L Z p1 hMV21 ) w1518 w1297 w1298 w164 w1299 rfl xgStock hdV_yX8_isMade ⟨Nat.le_of_ble_eq_true rfl, Nat.le_of_ble_eq_true rfl⟩ rfl hl.1 rfl (Nat.le_of_ble_eq_true rfl) dX11_call_46 ⟨z0, z0⟩) hP hD hK hS hA (fun z37 u38 H locs w39 hP hD hK hS => ?_)
    obtain ⟨rgz37, t40⟩ := w39
    have rgz37 : 0 ≤ z37.toInt ∧ z37.toInt ≤ 1 := rgz37
    have t40 : Imp (z37.toInt = 1) (0 ≤ p1.toInt ∧ p1.toInt < (V21 3 13).toInt) := t40
    have pq41 : (V21 3 13).toInt = ((V 3 13)).toInt := congrArg Int32.toInt ((ajV21 3 13 rfl).trans ((ajV11 3 13 rfl).trans (ajV6 3 13 rfl)))
    have r42 : 0 ≤ ((V 3 13)).toInt ∧ ((V 3 13)).toInt ≤ 300 := hMV 3 13
    refine lv_if_eq (tgt := 70) hx hb dX11_call_49 (by decide) (fun c43 => ?_) (fun c43 => ?_)
    · skip
      have f44 : z37.toInt = 0 := b_eq rfl (by decide) c43
      refine lv_aload_n hx hb dX11_call_70 rfl (lv_at hl 0 rfl) ?_
      refine lv_iconst (v := 4) hx hb dX11_call_71 (by decide) ?_
      refine lv_iconst (v := 0) hx hb dX11_call_72 (by decide) ?_
      have r45 : Int32.toInt 4 = 4 := by decide
      refine gA_int (gA_runV (As := [.int 4, .int 0]) (rest := []) (ci := 11) (q0 := 0) hx hb hml hown hg hP hD hK hS hA hnw hgk (x_ends l D ks H.size ad kk V21 L Z 4 0 hMV21 ) w1171 w1173 w42 w156 w1174 rfl xgHouse hdV_yX11_ends ⟨Nat.le_of_ble_eq_true rfl, Nat.le_of_ble_eq_true rfl⟩ rfl hl.1 rfl (Nat.le_of_ble_eq_true rfl) dX11_call_73 ⟨z0, z0⟩) hP hD hK hS hA (fun z46 u47 H locs w48 hP hD hK hS => ?_)
      obtain ⟨V49, L50⟩ := u47
      obtain ⟨hMV49, ajV49, axL50⟩ := w48
      have axL50 : L = L50 := Eq.symm axL50
      subst axL50
      have hP : va_P D vwCl (xw ad kk V49 L Z) H := hP
      have hD : va_D A (xw ad kk V49 L Z) := hD
      have hMV49 : rgd bX V49 := hMV49
      have ajV49 : agr [(0, 9)] [] V21 V49 := ajV49
      have agV49 : agr [(0, 9), (3, 13), (3, 14), (3, 15), (4, 5), (4, 6), (4, 7), (4, 8), (4, 9), (5, 6), (5, 7), (5, 8), (5, 9), (5, 10), (5, 11), (5, 12), (5, 13), (5, 14)] [24, 25, 26, 27, 28, 29, 30, 31, 32, 33, 34, 35, 36, 37, 39, 40, 67, 68, 69, 70, 71, 72, 73, 74, 75, 76, 77, 78, 79, 80, 81, 82, 83, 84, 85] V V49 := agV21.tr ajV49 (by decide) (by decide)
      have hi51 : HI V49 Z b := (HI.ag (HI.ag (HI.ag (HI.ag hi ajV6 (by decide)) ajV11 (by decide)) ajV21 (by decide)) ajV49 (by decide))
      refine W.know (fun kr1 kr2 => ?_)
      refine W.widen (k := zcc Z) (n := zss Z) (Nat.sub_le _ _) (Nat.sub_le _ _) ?_
      exact W.iret (v := z46) hx hb hr (fun t ht hW => ⟨⟨z46, (V49, L, Z), rfl, ⟨hMV49, agV49, rfl, zoZ, hi51⟩, ⟨by rw [ht]; exact hP, va_K.moved hW.alike hK, hD⟩, by rw [ht]; exact kr1, by rw [ht]; exact kr2⟩, hS.F ht⟩) hS.2.2 dX11_call_76
    · skip
      have f52 : z37.toInt ≠ 0 := b_neq rfl (by decide) c43
      refine lv_iload_n hx hb dX11_call_52 rfl (lv_at hl 3 rfl) ?_
      refine lv_if_lt (tgt := 70) hx hb dX11_call_53 (by decide) (fun c53 => ?_) (fun c53 => ?_)
      · skip
        have f54 : p2.toInt < 0 := b_lt rfl (by decide) c53
        refine lv_aload_n hx hb dX11_call_70 rfl (lv_at hl 0 rfl) ?_
        refine lv_iconst (v := 4) hx hb dX11_call_71 (by decide) ?_
        refine lv_iconst (v := 0) hx hb dX11_call_72 (by decide) ?_
        have r55 : Int32.toInt 4 = 4 := by decide
        refine gA_int (gA_runV (As := [.int 4, .int 0]) (rest := []) (ci := 11) (q0 := 0) hx hb hml hown hg hP hD hK hS hA hnw hgk (x_ends l D ks H.size ad kk V21 L Z 4 0 hMV21 ) w1171 w1173 w42 w156 w1174 rfl xgHouse hdV_yX11_ends ⟨Nat.le_of_ble_eq_true rfl, Nat.le_of_ble_eq_true rfl⟩ rfl hl.1 rfl (Nat.le_of_ble_eq_true rfl) dX11_call_73 ⟨z0, z0⟩) hP hD hK hS hA (fun z56 u57 H locs w58 hP hD hK hS => ?_)
        obtain ⟨V59, L60⟩ := u57
        obtain ⟨hMV59, ajV59, axL60⟩ := w58
        have axL60 : L = L60 := Eq.symm axL60
        subst axL60
        have hP : va_P D vwCl (xw ad kk V59 L Z) H := hP
        have hD : va_D A (xw ad kk V59 L Z) := hD
        have hMV59 : rgd bX V59 := hMV59
        have ajV59 : agr [(0, 9)] [] V21 V59 := ajV59
        have agV59 : agr [(0, 9), (3, 13), (3, 14), (3, 15), (4, 5), (4, 6), (4, 7), (4, 8), (4, 9), (5, 6), (5, 7), (5, 8), (5, 9), (5, 10), (5, 11), (5, 12), (5, 13), (5, 14)] [24, 25, 26, 27, 28, 29, 30, 31, 32, 33, 34, 35, 36, 37, 39, 40, 67, 68, 69, 70, 71, 72, 73, 74, 75, 76, 77, 78, 79, 80, 81, 82, 83, 84, 85] V V59 := agV21.tr ajV59 (by decide) (by decide)
        have hi61 : HI V59 Z b := (HI.ag (HI.ag (HI.ag (HI.ag hi ajV6 (by decide)) ajV11 (by decide)) ajV21 (by decide)) ajV59 (by decide))
        refine W.know (fun kr1 kr2 => ?_)
        refine W.widen (k := zcc Z) (n := zss Z) (Nat.sub_le _ _) (Nat.sub_le _ _) ?_
        exact W.iret (v := z56) hx hb hr (fun t ht hW => ⟨⟨z56, (V59, L, Z), rfl, ⟨hMV59, agV59, rfl, zoZ, hi61⟩, ⟨by rw [ht]; exact hP, va_K.moved hW.alike hK, hD⟩, by rw [ht]; exact kr1, by rw [ht]; exact kr2⟩, hS.F ht⟩) hS.2.2 dX11_call_76
      · skip
        have f62 : 0 ≤ p2.toInt := b_nlt rfl (by decide) c53
        refine lv_iload_n hx hb dX11_call_56 rfl (lv_at hl 3 rfl) ?_
        refine lv_aload_n hx hb dX11_call_57 rfl (lv_at hl 0 rfl) ?_
        refine va_get (D := D) (ci := 11) (v := .ref (ad (38 + Int32.toNatClampNeg (V21 0 6)))) (fs := (xfHouse ad V21 L Z)) (C := RX11) (T := TX11) (N := 10) hx hb hg inX11 hown hK hP 0 xgHouse rfl 6 (by decide) (hg _ w721) (fun _ h9 => h9) rfl dX11_call_58 ?_
        have pq63 : (V21 0 6).toInt = ((V 0 6)).toInt := congrArg Int32.toInt ((ajV21 0 6 rfl).trans ((ajV11 0 6 rfl).trans (ajV6 0 6 rfl)))
        refine g_topv (v := .ref (ad (38 + b))) (rfP (by first | omega | ((try (have i_t40 := Imp.go t40 (by omega))); (try (have i_t31 := Imp.go t31 (by omega))); (try (have i_t31 := Imp.go t31 (by omega))); (try (have i_t40 := Imp.go t40 (by omega))); omega))) ?_
        refine va_getN (D := D) (ci := 0) (v := .ref (ad (40 + (5 * b + 3)))) (fs := (xfBook ad V21 b)) (C := RX0) (T := TX0) (N := 13) hx hb hg inX0 hown hK hP (38 + b) (xgBook hb2) rfl 3 (by decide) (hnw.use 604 n604 rfl) (fun _ h9 => h9) rfl dX11_call_61 ?_
        have il64 : (5 * b + 3) < 10 := by first | exact om_a4f98a710256 hb2 | first | omega | ((try (have i_t40 := Imp.go t40 (by omega))); (try (have i_t31 := Imp.go t31 (by omega))); (try (have i_t31 := Imp.go t31 (by omega))); (try (have i_t40 := Imp.go t40 (by omega))); omega)
        refine va_getN (D := D) (ci := 6) (v := .int (V21 43 (5 * b + 3))) (fs := (xfNames ad V21 (5 * b + 3))) (C := RX6) (T := TX6) (N := 2) hx hb hg inX6 hown hK hP (40 + (5 * b + 3)) (xgNames il64) rfl 1 (by decide) (hnw.use 483 n483 rfl) (fun _ h9 => h9) rfl dX11_call_64 ?_
        refine g_top (v := (V 43 (5 * b + 3))) ((ajV21 43 (5 * b + 3) rfl).trans ((ajV11 43 (5 * b + 3) rfl).trans (ajV6 43 (5 * b + 3) rfl))) ?_
        have r65 : 0 ≤ ((V 43 (5 * b + 3))).toInt ∧ ((V 43 (5 * b + 3))).toInt ≤ ((xcap (5 * b + 3) : Nat) : Int) := hMV 43 (5 * b + 3)
        have r66 : xcap (5 * b + 3) = 20 := xcap_3
        refine lv_icmp_lt (tgt := 77) hx hb dX11_call_67 (by decide) (fun c67 => ?_) (fun c67 => ?_)
        · skip
          have f68 : p2.toInt < ((V 43 (5 * b + 3))).toInt := b_lt rfl rfl c67
          refine lv_aload_n hx hb dX11_call_77 rfl (lv_at hl 0 rfl) ?_
          refine va_get (D := D) (ci := 11) (v := .ref (ad 4)) (fs := (xfHouse ad V21 L Z)) (C := RX11) (T := TX11) (N := 10) hx hb hg inX11 hown hK hP 0 xgHouse rfl 4 (by decide) (hg _ w719) (fun _ h9 => h9) rfl dX11_call_78 ?_
          refine lv_iconst (v := 1) hx hb dX11_call_81 (by decide) ?_
          refine va_putN (D := D) (ci := 7) (v := .int 1) (ty := tyX7 9) (fs := (xfNotes ad V21 L Z)) (C := RX7) (T := TX7) (N := 10) hx hb hg inX7 tyX7 tyX7_ok nmX7 hown hK hP hD hS 4 xgNotes rfl 9 (by decide) (hnw.use 445 n445 rfl) (fun _ h9 => h9) rfl (tyX7_ok 9 (by decide)) rfl rfl (Nat.le_of_ble_eq_true rfl) dX11_call_82 (fun H locs hP hD hS => ?_)
          obtain ⟨V69, hV69⟩ : ∃ z, z = up2 V21 4 9 1 := ⟨_, rfl⟩
          have ew70 : (xw ad kk V21 L Z).set 4 ((ad 4), .inr (7, (xfNotes ad V21 L Z).set 9 (.int 1))) = xw ad kk V69 L Z := by rw [hV69]; exact xw_ss (by decide) rfl (xb_si (by decide))
          have hP : va_P D vwCl (xw ad kk V69 L Z) H := by rw [← ew70]; exact hP
          have hD : va_D A (xw ad kk V69 L Z) := by rw [← ew70]; exact hD
          have hMV69 : rgd bX V69 := hMV21.put hV69 (by decide)
          have agV69 : agr [(0, 9), (3, 13), (3, 14), (3, 15), (4, 5), (4, 6), (4, 7), (4, 8), (4, 9), (5, 6), (5, 7), (5, 8), (5, 9), (5, 10), (5, 11), (5, 12), (5, 13), (5, 14)] [24, 25, 26, 27, 28, 29, 30, 31, 32, 33, 34, 35, 36, 37, 39, 40, 67, 68, 69, 70, 71, 72, 73, 74, 75, 76, 77, 78, 79, 80, 81, 82, 83, 84, 85] V V69 := agV21.up hV69 rfl
          have rh71 := Imp.go t40 (by (first | exact om_2ebe32d50835 rgz37.1 rgz37.2 f52 | omega))
          have pq72 : (V69 3 13).toInt = ((V 3 13)).toInt := congrArg Int32.toInt ((up2_o hV69 (by decide)).trans ((ajV21 3 13 rfl).trans ((ajV11 3 13 rfl).trans (ajV6 3 13 rfl))))
          have kcp := i_clamp (x := p1) rfl (by (first | exact om_eafa9039069c rh71.1 | omega))
          have hoc := hi.2.2.1 (Int32.toNatClampNeg p1) (by omega)
          have h26 : 0 ≤ (V 26 (Int32.toNatClampNeg p1)).toInt := (hMV 26 (Int32.toNatClampNeg p1)).1
          have pq73 : (V69 43 (5 * b + 3)).toInt = ((V 43 (5 * b + 3))).toInt := congrArg Int32.toInt ((up2_o hV69 (by decide)).trans ((ajV21 43 (5 * b + 3) rfl).trans ((ajV11 43 (5 * b + 3) rfl).trans (ajV6 43 (5 * b + 3) rfl))))
          have hi74 : HI V69 Z b := (HI.ag (HI.ag (HI.ag (HI.ag hi ajV6 (by decide)) ajV11 (by decide)) ajV21 (by decide)) (agr.up (fs := [(4, 9)]) (cs := []) agr.rf hV69 rfl) (by decide))
          have pq75 : (V69 5 6).toInt = ((V21 5 6)).toInt := congrArg Int32.toInt (up2_o hV69 (by decide))
          have pq76 : (V69 5 8).toInt = ((V21 5 8)).toInt := congrArg Int32.toInt (up2_o hV69 (by decide))
          have pq77 : (V69 43 (5 * b + 2)).toInt = ((V 43 (5 * b + 2))).toInt := congrArg Int32.toInt ((up2_o hV69 (by decide)).trans ((ajV21 43 (5 * b + 2) rfl).trans ((ajV11 43 (5 * b + 2) rfl).trans (ajV6 43 (5 * b + 2) rfl))))
          have r78 : 0 ≤ ((V 43 (5 * b + 2))).toInt ∧ ((V 43 (5 * b + 2))).toInt ≤ ((xcap (5 * b + 2) : Nat) : Int) := hMV 43 (5 * b + 2)
          have r79 : xcap (5 * b + 2) = 24 := xcap_2
          have mt80 : MT V69 Z b := HI.mt hi74 (by omega) (by (first | exact om_36161e850215 t18 pq76 | omega)) (by (first | exact om_36161e850215 t16 pq75 | omega))
          refine lv_aload_n hx hb dX11_call_85 rfl (lv_at hl 0 rfl) ?_
          refine va_get (D := D) (ci := 11) (v := .ref (ad 5)) (fs := (xfHouse ad V69 L Z)) (C := RX11) (T := TX11) (N := 10) hx hb hg inX11 hown hK hP 0 xgHouse rfl 5 (by decide) (hg _ w720) (fun _ h9 => h9) rfl dX11_call_86 ?_
          refine lv_iload_n hx hb dX11_call_89 rfl (lv_at hl 2 rfl) ?_
          refine lv_iload_n hx hb dX11_call_90 rfl (lv_at hl 1 rfl) ?_
          refine lv_iload_n hx hb dX11_call_91 rfl (lv_at hl 3 rfl) ?_
          refine lv_iload hx hb dX11_call_92 (lv_at hl 4 rfl) ?_
          refine lv_iconst (v := 1) hx hb dX11_call_94 (by decide) ?_
          have r81 : Int32.toInt 1 = 1 := by decide
          refine W.know (fun k83 k84 => ?_)
          obtain ⟨Hk82, hHk82⟩ : ∃ z, z = H := ⟨_, rfl⟩
          have k83 : Hk82.size ≤ s.heap.size + (zcc Z - zcc Z) := by rw [hHk82]; exact k83
          have k84 : tot Hk82 ≤ tot s.heap + (zss Z - zss Z) := by rw [hHk82]; exact k84
          refine gZ_void (gA_runV (As := [.int p1, .int p0, .int p2, .int p3, .int 1]) (rest := []) (ci := 5) (q0 := 5) hx hb hml hown hg hP hD hK hS hA hnw hgk (x_pushCall l D ks H.size ad kk V69 L Z p1 p0 p2 p3 1 (b) hMV69 (by first | exact om_47058e563f80 pq32 r33.2 ((Imp.go t31 (imp_a (rgz28.1) (rgz28.2) (f35))).1) ((Imp.go t31 (imp_a (rgz28.1) (rgz28.2) (f35))).2) | first | omega | ((try (have i_t40 := Imp.go t40 (by omega))); (try (have i_t31 := Imp.go t31 (by omega))); (try (have i_t31 := Imp.go t31 (by omega))); (try (have i_t40 := Imp.go t40 (by omega))); omega)) (by first | exact om_5f3154baf57f f62 r65.2 r66 f68 | first | omega | ((try (have i_t40 := Imp.go t40 (by omega))); (try (have i_t31 := Imp.go t31 (by omega))); (try (have i_t31 := Imp.go t31 (by omega))); (try (have i_t40 := Imp.go t40 (by omega))); omega)) (show b < 2 from by first | exact om_f940a4667dd6 hb2 | first | omega | ((try (have i_t40 := Imp.go t40 (by omega))); (try (have i_t31 := Imp.go t31 (by omega))); (try (have i_t31 := Imp.go t31 (by omega))); (try (have i_t40 := Imp.go t40 (by omega))); omega)) mt80) w1519 w1455 w1456 w171 w1457 rfl xgMachine hdV_yX5_pushCall ⟨Nat.le_of_ble_eq_true rfl, Nat.le_of_ble_eq_true rfl⟩ rfl hl.1 rfl (Nat.le_of_ble_eq_true rfl) dX11_call_95 ⟨z1 zoZ.1, z1 zoZ.2.1⟩) hD hS hA (fun u86 H locs w87 hP hD hK hS y88 y89 => ?_)
          obtain ⟨V90, L91, Z92⟩ := u86
          obtain ⟨hMV90, ajV90, axL91, zlZ92, t94⟩ := w87
          have axL91 : L = L91 := Eq.symm axL91
          subst axL91
          have hP : va_P D vwCl (xw ad kk V90 L Z92) H := hP
          have hD : va_D A (xw ad kk V90 L Z92) := hD
          have hK : va_K D vwCl (xty kk Z92) s := hK
          have hMV90 : rgd bX V90 := hMV90
          have ajV90 : agr [(5, 6), (5, 9)] [67, 68, 69, 70, 71, 72, 73, 74, 75, 76, 77, 78, 79, 80, 81, 82, 83, 84, 85] V69 V90 := ajV90
          have agV90 : agr [(0, 9), (3, 13), (3, 14), (3, 15), (4, 5), (4, 6), (4, 7), (4, 8), (4, 9), (5, 6), (5, 7), (5, 8), (5, 9), (5, 10), (5, 11), (5, 12), (5, 13), (5, 14)] [24, 25, 26, 27, 28, 29, 30, 31, 32, 33, 34, 35, 36, 37, 39, 40, 67, 68, 69, 70, 71, 72, 73, 74, 75, 76, 77, 78, 79, 80, 81, 82, 83, 84, 85] V V90 := agV69.tr ajV90 (by decide) (by decide)
          have zlZ92 : ZL Z Z92 := zlZ92
          have zoZ92 : ZL Z Z92 := ZL.tr zoZ zlZ92
          have ziZ92 := zlZ92.1
          have zjZ92 := zlZ92.2.1
          have zkZ92 := zlZ92.2.2.1
          have zmZ92 := zoZ92.1
          have znZ92 := zoZ92.2.1
          have zpZ_Z92 := zoZ.1
          have zqZ_Z92 := zoZ.2.1
          have y88 : H.size ≤ Hk82.size + (zcc Z - zcc Z92) := by rw [hHk82]; exact y88
          have y89 : tot H ≤ tot Hk82 + (zss Z - zss Z92) := by rw [hHk82]; exact y89
          refine W.tight (k := zcc Z - zcc Z92) (n := zss Z - zss Z92) (by first | exact tg9 y88 k83 zlZ92.1 zoZ.1 | omega) (by first | exact tg9 y89 k84 zlZ92.2.1 zoZ.2.1 | omega) ?_
          have t94 : MJ V90 Z92 b := t94
          refine lv_aload_n hx hb dX11_call_98 rfl (lv_at hl 0 rfl) ?_
          refine va_get (D := D) (ci := 11) (v := .ref (ad 5)) (fs := (xfHouse ad V90 L Z92)) (C := RX11) (T := TX11) (N := 10) hx hb hg inX11 hown hK hP 0 xgHouse rfl 5 (by decide) (hg _ w720) (fun _ h9 => h9) rfl dX11_call_99 ?_
          refine W.know (fun k96 k97 => ?_)
          obtain ⟨Hk95, hHk95⟩ : ∃ z, z = H := ⟨_, rfl⟩
          have k96 : Hk95.size ≤ s.heap.size + (zcc Z - zcc Z92) := by rw [hHk95]; exact k96
          have k97 : tot Hk95 ≤ tot s.heap + (zss Z - zss Z92) := by rw [hHk95]; exact k97
          refine gZ_void (gA_runV (As := []) (rest := []) (ci := 5) (q0 := 5) hx hb hml hown hg hP hD hK hS hA hnw hgk (x_run l D ks H.size ad kk V90 L Z92 (b) hMV90 (show b < 2 from by first | exact om_f940a4667dd6 hb2 | first | omega | ((try (have i_t40 := Imp.go t40 (by omega))); (try (have i_t31 := Imp.go t31 (by omega))); (try (have i_t31 := Imp.go t31 (by omega))); (try (have i_t40 := Imp.go t40 (by omega))); omega)) t94) w1247 w1248 w1249 w171 w1250 rfl xgMachine hdV_yX5_run ⟨Nat.le_of_ble_eq_true rfl, Nat.le_of_ble_eq_true rfl⟩ rfl hl.1 rfl (Nat.le_of_ble_eq_true rfl) dX11_call_102 ⟨z1 zoZ92.1, z1 zoZ92.2.1⟩) hD hS hA (fun u99 H locs w100 hP hD hK hS y101 y102 => ?_)
          obtain ⟨V103, L104, Z105⟩ := u99
          obtain ⟨hMV103, ajV103, axL104, zlZ105, t107⟩ := w100
          have axL104 : L = L104 := Eq.symm axL104
          subst axL104
          have hP : va_P D vwCl (xw ad kk V103 L Z105) H := hP
          have hD : va_D A (xw ad kk V103 L Z105) := hD
          have hK : va_K D vwCl (xty kk Z105) s := hK
          have hMV103 : rgd bX V103 := hMV103
          have ajV103 : agr [(3, 13), (3, 14), (3, 15), (4, 5), (4, 6), (5, 6), (5, 7), (5, 8), (5, 9), (5, 10), (5, 11), (5, 12), (5, 13), (5, 14)] [24, 25, 26, 27, 28, 29, 30, 31, 32, 33, 34, 35, 36, 37, 39, 40, 67, 68, 69, 70, 71, 72, 73, 74, 75, 76, 77, 78, 79, 80, 81, 82, 83, 84, 85] V90 V103 := ajV103
          have agV103 : agr [(0, 9), (3, 13), (3, 14), (3, 15), (4, 5), (4, 6), (4, 7), (4, 8), (4, 9), (5, 6), (5, 7), (5, 8), (5, 9), (5, 10), (5, 11), (5, 12), (5, 13), (5, 14)] [24, 25, 26, 27, 28, 29, 30, 31, 32, 33, 34, 35, 36, 37, 39, 40, 67, 68, 69, 70, 71, 72, 73, 74, 75, 76, 77, 78, 79, 80, 81, 82, 83, 84, 85] V V103 := agV90.tr ajV103 (by decide) (by decide)
          have zlZ105 : ZL Z92 Z105 := zlZ105
          have zoZ105 : ZL Z Z105 := ZL.tr zoZ92 zlZ105
          have ziZ105 := zlZ105.1
          have zjZ105 := zlZ105.2.1
          have zkZ105 := zlZ105.2.2.1
          have zmZ105 := zoZ105.1
          have znZ105 := zoZ105.2.1
          have zpZ92_Z105 := zoZ92.1
          have zqZ92_Z105 := zoZ92.2.1
          have y101 : H.size ≤ Hk95.size + (zcc Z92 - zcc Z105) := by rw [hHk95]; exact y101
          have y102 : tot H ≤ tot Hk95 + (zss Z92 - zss Z105) := by rw [hHk95]; exact y102
          refine W.tight (k := zcc Z - zcc Z105) (n := zss Z - zss Z105) (by first | exact tg9 y101 k96 zlZ105.1 zoZ92.1 | omega) (by first | exact tg9 y102 k97 zlZ105.2.1 zoZ92.2.1 | omega) ?_
          have t107 : MJ V103 Z105 b := t107
          refine lv_aload_n hx hb dX11_call_105 rfl (lv_at hl 0 rfl) ?_
          refine va_get (D := D) (ci := 11) (v := .ref (ad 4)) (fs := (xfHouse ad V103 L Z105)) (C := RX11) (T := TX11) (N := 10) hx hb hg inX11 hown hK hP 0 xgHouse rfl 4 (by decide) (hg _ w719) (fun _ h9 => h9) rfl dX11_call_106 ?_
          refine lv_iconst (v := 0) hx hb dX11_call_109 (by decide) ?_
          refine va_putN (D := D) (ci := 7) (v := .int 0) (ty := tyX7 9) (fs := (xfNotes ad V103 L Z105)) (C := RX7) (T := TX7) (N := 10) hx hb hg inX7 tyX7 tyX7_ok nmX7 hown hK hP hD hS 4 xgNotes rfl 9 (by decide) (hnw.use 445 n445 rfl) (fun _ h9 => h9) rfl (tyX7_ok 9 (by decide)) rfl rfl (Nat.le_of_ble_eq_true rfl) dX11_call_110 (fun H locs hP hD hS => ?_)
          obtain ⟨V108, hV108⟩ : ∃ z, z = up2 V103 4 9 0 := ⟨_, rfl⟩
          have ew109 : (xw ad kk V103 L Z105).set 4 ((ad 4), .inr (7, (xfNotes ad V103 L Z105).set 9 (.int 0))) = xw ad kk V108 L Z105 := by rw [hV108]; exact xw_ss (by decide) rfl (xb_si (by decide))
          have hP : va_P D vwCl (xw ad kk V108 L Z105) H := by rw [← ew109]; exact hP
          have hD : va_D A (xw ad kk V108 L Z105) := by rw [← ew109]; exact hD
          have hMV108 : rgd bX V108 := hMV103.put hV108 (by decide)
          have agV108 : agr [(0, 9), (3, 13), (3, 14), (3, 15), (4, 5), (4, 6), (4, 7), (4, 8), (4, 9), (5, 6), (5, 7), (5, 8), (5, 9), (5, 10), (5, 11), (5, 12), (5, 13), (5, 14)] [24, 25, 26, 27, 28, 29, 30, 31, 32, 33, 34, 35, 36, 37, 39, 40, 67, 68, 69, 70, 71, 72, 73, 74, 75, 76, 77, 78, 79, 80, 81, 82, 83, 84, 85] V V108 := agV103.up hV108 rfl
          refine lv_aload_n hx hb dX11_call_113 rfl (lv_at hl 0 rfl) ?_
          refine lv_aload_n hx hb dX11_call_114 rfl (lv_at hl 0 rfl) ?_
          refine va_get (D := D) (ci := 11) (v := .ref (ad 5)) (fs := (xfHouse ad V108 L Z105)) (C := RX11) (T := TX11) (N := 10) hx hb hg inX11 hown hK hP 0 xgHouse rfl 5 (by decide) (hg _ w720) (fun _ h9 => h9) rfl dX11_call_115 ?_
          refine gA_int (gA_runV (As := []) (rest := [.ref (ad 0)]) (ci := 5) (q0 := 5) hx hb hml hown hg hP hD hK hS hA hnw hgk (x_howItEnded l D ks H.size ad kk V108 L Z105  hMV108 ) w1501 w1502 w1503 w171 w1504 rfl xgMachine hdV_yX5_howItEnded ⟨Nat.le_of_ble_eq_true rfl, Nat.le_of_ble_eq_true rfl⟩ rfl hl.1 rfl (Nat.le_of_ble_eq_true rfl) dX11_call_118 ⟨z0, z0⟩) hP hD hK hS hA (fun z110 u111 H locs w112 hP hD hK hS => ?_)
          obtain ⟨V113, L114⟩ := u111
          obtain ⟨hMV113, ajV113, axL114⟩ := w112
          have axL114 : L = L114 := Eq.symm axL114
          subst axL114
          have hP : va_P D vwCl (xw ad kk V113 L Z105) H := hP
          have hD : va_D A (xw ad kk V113 L Z105) := hD
          have hMV113 : rgd bX V113 := hMV113
          have ajV113 : agr [(4, 7), (4, 8)] [] V108 V113 := ajV113
          have agV113 : agr [(0, 9), (3, 13), (3, 14), (3, 15), (4, 5), (4, 6), (4, 7), (4, 8), (4, 9), (5, 6), (5, 7), (5, 8), (5, 9), (5, 10), (5, 11), (5, 12), (5, 13), (5, 14)] [24, 25, 26, 27, 28, 29, 30, 31, 32, 33, 34, 35, 36, 37, 39, 40, 67, 68, 69, 70, 71, 72, 73, 74, 75, 76, 77, 78, 79, 80, 81, 82, 83, 84, 85] V V113 := agV108.tr ajV113 (by decide) (by decide)
          refine lv_aload_n hx hb dX11_call_121 rfl (lv_at hl 0 rfl) ?_
          refine va_get (D := D) (ci := 11) (v := .ref (ad 5)) (fs := (xfHouse ad V113 L Z105)) (C := RX11) (T := TX11) (N := 10) hx hb hg inX11 hown hK hP 0 xgHouse rfl 5 (by decide) (hg _ w720) (fun _ h9 => h9) rfl dX11_call_122 ?_
          refine lv_iconst (v := 0) hx hb dX11_call_125 (by decide) ?_
          refine gA_int (gA_runV (As := [.int 0]) (rest := [.int z110, .ref (ad 0)]) (ci := 5) (q0 := 5) hx hb hml hown hg hP hD hK hS hA hnw hgk (x_answerOr l D ks H.size ad kk V113 L Z105 0 hMV113 ) w1506 w1507 w1508 w171 w1509 rfl xgMachine hdV_yX5_answerOr ⟨Nat.le_of_ble_eq_true rfl, Nat.le_of_ble_eq_true rfl⟩ rfl hl.1 rfl (Nat.le_of_ble_eq_true rfl) dX11_call_126 ⟨z0, z0⟩) hP hD hK hS hA (fun z115 u116 H locs w117 hP hD hK hS => ?_)
          refine gA_int (gA_runV (As := [.int z110, .int z115]) (rest := []) (ci := 11) (q0 := 0) hx hb hml hown hg hP hD hK hS hA hnw hgk (x_ends l D ks H.size ad kk V113 L Z105 z110 z115 hMV113 ) w1171 w1173 w42 w156 w1174 rfl xgHouse hdV_yX11_ends ⟨Nat.le_of_ble_eq_true rfl, Nat.le_of_ble_eq_true rfl⟩ rfl hl.1 rfl (Nat.le_of_ble_eq_true rfl) dX11_call_129 ⟨z0, z0⟩) hP hD hK hS hA (fun z118 u119 H locs w120 hP hD hK hS => ?_)
          obtain ⟨V121, L122⟩ := u119
          obtain ⟨hMV121, ajV121, axL122⟩ := w120
          have axL122 : L = L122 := Eq.symm axL122
          subst axL122
          have hP : va_P D vwCl (xw ad kk V121 L Z105) H := hP
          have hD : va_D A (xw ad kk V121 L Z105) := hD
          have hMV121 : rgd bX V121 := hMV121
          have ajV121 : agr [(0, 9)] [] V113 V121 := ajV121
          have agV121 : agr [(0, 9), (3, 13), (3, 14), (3, 15), (4, 5), (4, 6), (4, 7), (4, 8), (4, 9), (5, 6), (5, 7), (5, 8), (5, 9), (5, 10), (5, 11), (5, 12), (5, 13), (5, 14)] [24, 25, 26, 27, 28, 29, 30, 31, 32, 33, 34, 35, 36, 37, 39, 40, 67, 68, 69, 70, 71, 72, 73, 74, 75, 76, 77, 78, 79, 80, 81, 82, 83, 84, 85] V V121 := agV113.tr ajV121 (by decide) (by decide)
          have hi123 : HI V121 Z105 b := (HI.ag (HI.ag (HI.ag (MJ.hi t107) (agr.up (fs := [(4, 9)]) (cs := []) agr.rf hV108 rfl) (by decide)) ajV113 (by decide)) ajV121 (by decide))
          refine W.know (fun kr1 kr2 => ?_)
          refine W.widen (k := zcc Z) (n := zss Z) (Nat.sub_le _ _) (Nat.sub_le _ _) ?_
          exact W.iret (v := z118) hx hb hr (fun t ht hW => ⟨⟨z118, (V121, L, Z105), rfl, ⟨hMV121, agV121, rfl, zoZ105, hi123⟩, ⟨by rw [ht]; exact hP, va_K.moved hW.alike hK, hD⟩, by rw [ht]; exact kr1, by rw [ht]; exact kr2⟩, hS.F ht⟩) hS.2.2 dX11_call_132
        · skip
          have f124 : ((V 43 (5 * b + 3))).toInt ≤ p2.toInt := b_nlt rfl rfl c67
          refine lv_aload_n hx hb dX11_call_70 rfl (lv_at hl 0 rfl) ?_
          refine lv_iconst (v := 4) hx hb dX11_call_71 (by decide) ?_
          refine lv_iconst (v := 0) hx hb dX11_call_72 (by decide) ?_
          have r125 : Int32.toInt 4 = 4 := by decide
          refine gA_int (gA_runV (As := [.int 4, .int 0]) (rest := []) (ci := 11) (q0 := 0) hx hb hml hown hg hP hD hK hS hA hnw hgk (x_ends l D ks H.size ad kk V21 L Z 4 0 hMV21 ) w1171 w1173 w42 w156 w1174 rfl xgHouse hdV_yX11_ends ⟨Nat.le_of_ble_eq_true rfl, Nat.le_of_ble_eq_true rfl⟩ rfl hl.1 rfl (Nat.le_of_ble_eq_true rfl) dX11_call_73 ⟨z0, z0⟩) hP hD hK hS hA (fun z126 u127 H locs w128 hP hD hK hS => ?_)
          obtain ⟨V129, L130⟩ := u127
          obtain ⟨hMV129, ajV129, axL130⟩ := w128
          have axL130 : L = L130 := Eq.symm axL130
          subst axL130
          have hP : va_P D vwCl (xw ad kk V129 L Z) H := hP
          have hD : va_D A (xw ad kk V129 L Z) := hD
          have hMV129 : rgd bX V129 := hMV129
          have ajV129 : agr [(0, 9)] [] V21 V129 := ajV129
          have agV129 : agr [(0, 9), (3, 13), (3, 14), (3, 15), (4, 5), (4, 6), (4, 7), (4, 8), (4, 9), (5, 6), (5, 7), (5, 8), (5, 9), (5, 10), (5, 11), (5, 12), (5, 13), (5, 14)] [24, 25, 26, 27, 28, 29, 30, 31, 32, 33, 34, 35, 36, 37, 39, 40, 67, 68, 69, 70, 71, 72, 73, 74, 75, 76, 77, 78, 79, 80, 81, 82, 83, 84, 85] V V129 := agV21.tr ajV129 (by decide) (by decide)
          have hi131 : HI V129 Z b := (HI.ag (HI.ag (HI.ag (HI.ag hi ajV6 (by decide)) ajV11 (by decide)) ajV21 (by decide)) ajV129 (by decide))
          refine W.know (fun kr1 kr2 => ?_)
          refine W.widen (k := zcc Z) (n := zss Z) (Nat.sub_le _ _) (Nat.sub_le _ _) ?_
          exact W.iret (v := z126) hx hb hr (fun t ht hW => ⟨⟨z126, (V129, L, Z), rfl, ⟨hMV129, agV129, rfl, zoZ, hi131⟩, ⟨by rw [ht]; exact hP, va_K.moved hW.alike hK, hD⟩, by rw [ht]; exact kr1, by rw [ht]; exact kr2⟩, hS.F ht⟩) hS.2.2 dX11_call_76
  · skip
    have f132 : z28.toInt = 0 := b_eq rfl (by decide) c34
    refine lv_aload_n hx hb dX11_call_34 rfl (lv_at hl 0 rfl) ?_
    refine lv_iconst (v := 3) hx hb dX11_call_35 (by decide) ?_
    refine lv_iconst (v := 0) hx hb dX11_call_36 (by decide) ?_
    have r133 : Int32.toInt 3 = 3 := by decide
    refine gA_int (gA_runV (As := [.int 3, .int 0]) (rest := []) (ci := 11) (q0 := 0) hx hb hml hown hg hP hD hK hS hA hnw hgk (x_ends l D ks H.size ad kk V21 L Z 3 0 hMV21 ) w1171 w1173 w42 w156 w1174 rfl xgHouse hdV_yX11_ends ⟨Nat.le_of_ble_eq_true rfl, Nat.le_of_ble_eq_true rfl⟩ rfl hl.1 rfl (Nat.le_of_ble_eq_true rfl) dX11_call_37 ⟨z0, z0⟩) hP hD hK hS hA (fun z134 u135 H locs w136 hP hD hK hS => ?_)
    obtain ⟨V137, L138⟩ := u135
    obtain ⟨hMV137, ajV137, axL138⟩ := w136
    have axL138 : L = L138 := Eq.symm axL138
    subst axL138
    have hP : va_P D vwCl (xw ad kk V137 L Z) H := hP
    have hD : va_D A (xw ad kk V137 L Z) := hD
    have hMV137 : rgd bX V137 := hMV137
    have ajV137 : agr [(0, 9)] [] V21 V137 := ajV137
    have agV137 : agr [(0, 9), (3, 13), (3, 14), (3, 15), (4, 5), (4, 6), (4, 7), (4, 8), (4, 9), (5, 6), (5, 7), (5, 8), (5, 9), (5, 10), (5, 11), (5, 12), (5, 13), (5, 14)] [24, 25, 26, 27, 28, 29, 30, 31, 32, 33, 34, 35, 36, 37, 39, 40, 67, 68, 69, 70, 71, 72, 73, 74, 75, 76, 77, 78, 79, 80, 81, 82, 83, 84, 85] V V137 := agV21.tr ajV137 (by decide) (by decide)
    have hi139 : HI V137 Z b := (HI.ag (HI.ag (HI.ag (HI.ag hi ajV6 (by decide)) ajV11 (by decide)) ajV21 (by decide)) ajV137 (by decide))
    refine W.know (fun kr1 kr2 => ?_)
    refine W.widen (k := zcc Z) (n := zss Z) (Nat.sub_le _ _) (Nat.sub_le _ _) ?_
    exact W.iret (v := z134) hx hb hr (fun t ht hW => ⟨⟨z134, (V137, L, Z), rfl, ⟨hMV137, agV137, rfl, zoZ, hi139⟩, ⟨by rw [ht]; exact hP, va_K.moved hW.alike hK, hD⟩, by rw [ht]; exact kr1, by rw [ht]; exact kr2⟩, hS.F ht⟩) hS.2.2 dX11_call_40
end
