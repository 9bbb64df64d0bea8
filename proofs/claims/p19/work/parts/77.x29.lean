section
theorem n514 : lw_tbl[514]? = some (Cond.fieldLinkNest RX5 235 "WiringHouse$Component" "needs" "I" "WiringHouse") := la9 (n := 155) (i := 359) lz9 (la9 (n := 240) (i := 119) ln9_1 (lb9 (i := 119) (by decide +kernel)))
theorem n506 : lw_tbl[506]? = some (Cond.fieldLinkNest RX5 236 "WiringHouse$Component" "needKinds" "[I" "WiringHouse") := la9 (n := 155) (i := 351) lz9 (la9 (n := 240) (i := 111) ln9_1 (lb9 (i := 111) (by decide +kernel)))
theorem w1374 : Cond.methodLink RX5 239 yX0_candidates ∈ GW := gw_k tk9_6 19 (by decide +kernel) rfl
theorem w1375 : Cond.methodLink RX5 242 yJ6_numberOfTrailingZeros_0f7a4 ∈ GW := gw_k tk9_6 20 (by decide +kernel) rfl
theorem w1335 : Cond.code yX5_abandon cX5_abandon 4 none ∈ GW := gw_k tk9_5 220 (rfl) rfl
theorem w1332 : Cond.methodLink RX5 215 yX5_abandon ∈ GW := gw_k tk9_5 217 (by decide +kernel) rfl
theorem w1334 : Cond.instanceMethod yX5_abandon ∈ GW := gw_k tk9_5 219 (by decide +kernel) rfl
theorem w54 : Cond.selects RX5 yX5_abandon yX5_abandon ∈ GW := gw_mem 54 (by decide +kernel) rfl
theorem hdV_yX5_abandon : yX5_abandon.cls = RX5 ∧ yX5_abandon.cls ≠ "java/lang/invoke/MethodHandle" ∧ yX5_abandon.cls ≠ "java/lang/invoke/VarHandle" ∧ (parseMethodDescriptor yX5_abandon.desc).map (fun d => d.parameters.length) = some 1 := by decide +kernel
theorem w1373 : Cond.code yX5_nextCandidate cX5_nextCandidate 7 (some .int) ∈ GW := gw_k tk9_6 18 (rfl) rfl
theorem w1370 : Cond.methodLink RX5 224 yX5_nextCandidate ∈ GW := gw_k tk9_6 15 (by decide +kernel) rfl
theorem w1372 : Cond.instanceMethod yX5_nextCandidate ∈ GW := gw_k tk9_6 17 (by decide +kernel) rfl
theorem w56 : Cond.selects RX5 yX5_nextCandidate yX5_nextCandidate ∈ GW := gw_mem 56 (by decide +kernel) rfl
theorem hdV_yX5_nextCandidate : yX5_nextCandidate.cls = RX5 ∧ yX5_nextCandidate.cls ≠ "java/lang/invoke/MethodHandle" ∧ yX5_nextCandidate.cls ≠ "java/lang/invoke/VarHandle" ∧ (parseMethodDescriptor yX5_nextCandidate.desc).map (fun d => d.parameters.length) = some 1 := by decide +kernel
theorem n539 : lw_tbl[539]? = some (Cond.fieldLinkNest RX5 228 "WiringHouse$Component" "openedStart" "I" "WiringHouse") := la9 (n := 155) (i := 384) lz9 (la9 (n := 240) (i := 144) ln9_1 (lb9 (i := 144) (by decide +kernel)))
theorem w1347 : Cond.code yX5_finish cX5_finish 2 none ∈ GW := gw_k tk9_5 232 (rfl) rfl
theorem w1344 : Cond.methodLink RX5 218 yX5_finish ∈ GW := gw_k tk9_5 229 (by decide +kernel) rfl
theorem w1346 : Cond.instanceMethod yX5_finish ∈ GW := gw_k tk9_5 231 (by decide +kernel) rfl
theorem w55 : Cond.selects RX5 yX5_finish yX5_finish ∈ GW := gw_mem 55 (by decide +kernel) rfl
theorem hdV_yX5_finish : yX5_finish.cls = RX5 ∧ yX5_finish.cls ≠ "java/lang/invoke/MethodHandle" ∧ yX5_finish.cls ≠ "java/lang/invoke/VarHandle" ∧ (parseMethodDescriptor yX5_finish.desc).map (fun d => d.parameters.length) = some 1 := by decide +kernel
theorem w1355 : Cond.code yX8_join cX8_join 6 none ∈ GW := gw_k tk9_6 0 (rfl) rfl
theorem w1352 : Cond.methodLink RX5 221 yX8_join ∈ GW := gw_k tk9_5 237 (by decide +kernel) rfl
theorem w1353 : Cond.instanceMethod yX8_join ∈ GW := gw_k tk9_5 238 (by decide +kernel) rfl
theorem w1354 : Cond.selects RX8 yX8_join yX8_join ∈ GW := gw_k tk9_5 239 (by decide +kernel) rfl
theorem hdV_yX8_join : yX8_join.cls = RX8 ∧ yX8_join.cls ≠ "java/lang/invoke/MethodHandle" ∧ yX8_join.cls ≠ "java/lang/invoke/VarHandle" ∧ (parseMethodDescriptor yX8_join.desc).map (fun d => d.parameters.length) = some 3 := by decide +kernel
theorem dk9_dX5_nextCandidate_0_0 : dOk cX5_nextCandidate [(0, .aload_n 0, 1), (1, .getfield 24, 3), (4, .getfield 178, 3), (7, .aload_n 1, 1), (8, .getfield 103, 3), (11, .aaload, 1), (12, .astore_n 2, 1), (13, .aload_n 1, 1), (14, .getfield 109, 3), (17, .aload_n 2, 1), (18, .getfield 235, 3), (21, .if_icmp .ge 102, 3), (123, .iconst (-1), 1), (124, .ireturn, 1), (24, .aload_n 2, 1), (25, .getfield 236, 3), (28, .aload_n 1, 1), (29, .getfield 109, 3), (32, .iaload, 1), (33, .iconst 1, 1), (34, .if_icmp .ne 7, 3), (41, .iconst 0, 1), (42, .istore_n 3, 1), (43, .iload_n 3, 1)] = true ∧ dOk cX5_nextCandidate [(44, .ifCond .eq 7, 3), (51, .aload_n 0, 1), (52, .getfield 24, 3), (55, .aload_n 1, 1), (56, .getfield 103, 3), (59, .aload_n 1, 1), (60, .getfield 109, 3), (63, .invokevirtual 239, 3), (66, .istore 4, 2), (68, .iload 4, 2), (70, .aload_n 1, 1), (71, .getfield 112, 3), (74, .iushr, 1), (75, .istore 5, 2), (77, .iload 5, 2), (79, .ifCond .eq 26, 3), (105, .aload_n 1, 1), (106, .dup, 1), (107, .getfield 109, 3), (110, .iconst 1, 1), (111, .iadd, 1), (112, .putfield 109, 3), (115, .aload_n 1, 1), (116, .iconst 0, 1)] = true ∧ dOk cX5_nextCandidate [(117, .putfield 112, 3), (120, .goto (-107), 3), (82, .aload_n 1, 1), (83, .getfield 112, 3), (86, .iload 5, 2), (88, .invokestatic 242, 3), (91, .iadd, 1), (92, .istore 6, 2), (94, .aload_n 1, 1), (95, .iload 6, 2), (97, .iconst 1, 1), (98, .iadd, 1), (99, .putfield 112, 3), (102, .iload 6, 2), (104, .ireturn, 1), (37, .iconst 1, 1), (38, .goto 4, 3), (47, .iconst 0, 1), (48, .goto 18, 3)] = true := by decide +kernel
theorem dX5_nextCandidate_0 : decode cX5_nextCandidate 0 = .ok (.aload_n 0, 1) := dr9 dk9_dX5_nextCandidate_0_0.1 0 (0, .aload_n 0, 1) rfl
theorem dX5_nextCandidate_1 : decode cX5_nextCandidate 1 = .ok (.getfield 24, 3) := dr9 dk9_dX5_nextCandidate_0_0.1 1 (1, .getfield 24, 3) rfl
theorem dX5_nextCandidate_4 : decode cX5_nextCandidate 4 = .ok (.getfield 178, 3) := dr9 dk9_dX5_nextCandidate_0_0.1 2 (4, .getfield 178, 3) rfl
theorem dX5_nextCandidate_7 : decode cX5_nextCandidate 7 = .ok (.aload_n 1, 1) := dr9 dk9_dX5_nextCandidate_0_0.1 3 (7, .aload_n 1, 1) rfl
theorem dX5_nextCandidate_8 : decode cX5_nextCandidate 8 = .ok (.getfield 103, 3) := dr9 dk9_dX5_nextCandidate_0_0.1 4 (8, .getfield 103, 3) rfl
theorem dX5_nextCandidate_11 : decode cX5_nextCandidate 11 = .ok (.aaload, 1) := dr9 dk9_dX5_nextCandidate_0_0.1 5 (11, .aaload, 1) rfl
theorem dX5_nextCandidate_12 : decode cX5_nextCandidate 12 = .ok (.astore_n 2, 1) := dr9 dk9_dX5_nextCandidate_0_0.1 6 (12, .astore_n 2, 1) rfl
theorem dX5_nextCandidate_13 : decode cX5_nextCandidate 13 = .ok (.aload_n 1, 1) := dr9 dk9_dX5_nextCandidate_0_0.1 7 (13, .aload_n 1, 1) rfl
theorem dX5_nextCandidate_14 : decode cX5_nextCandidate 14 = .ok (.getfield 109, 3) := dr9 dk9_dX5_nextCandidate_0_0.1 8 (14, .getfield 109, 3) rfl
theorem dX5_nextCandidate_17 : decode cX5_nextCandidate 17 = .ok (.aload_n 2, 1) := dr9 dk9_dX5_nextCandidate_0_0.1 9 (17, .aload_n 2, 1) rfl
theorem dX5_nextCandidate_18 : decode cX5_nextCandidate 18 = .ok (.getfield 235, 3) := dr9 dk9_dX5_nextCandidate_0_0.1 10 (18, .getfield 235, 3) rfl
theorem dX5_nextCandidate_21 : decode cX5_nextCandidate 21 = .ok (.if_icmp .ge 102, 3) := dr9 dk9_dX5_nextCandidate_0_0.1 11 (21, .if_icmp .ge 102, 3) rfl
theorem dX5_nextCandidate_123 : decode cX5_nextCandidate 123 = .ok (.iconst (-1), 1) := dr9 dk9_dX5_nextCandidate_0_0.1 12 (123, .iconst (-1), 1) rfl
theorem dX5_nextCandidate_124 : decode cX5_nextCandidate 124 = .ok (.ireturn, 1) := dr9 dk9_dX5_nextCandidate_0_0.1 13 (124, .ireturn, 1) rfl
theorem dX5_nextCandidate_24 : decode cX5_nextCandidate 24 = .ok (.aload_n 2, 1) := dr9 dk9_dX5_nextCandidate_0_0.1 14 (24, .aload_n 2, 1) rfl
theorem dX5_nextCandidate_25 : decode cX5_nextCandidate 25 = .ok (.getfield 236, 3) := dr9 dk9_dX5_nextCandidate_0_0.1 15 (25, .getfield 236, 3) rfl
theorem dX5_nextCandidate_28 : decode cX5_nextCandidate 28 = .ok (.aload_n 1, 1) := dr9 dk9_dX5_nextCandidate_0_0.1 16 (28, .aload_n 1, 1) rfl
theorem dX5_nextCandidate_29 : decode cX5_nextCandidate 29 = .ok (.getfield 109, 3) := dr9 dk9_dX5_nextCandidate_0_0.1 17 (29, .getfield 109, 3) rfl
theorem dX5_nextCandidate_32 : decode cX5_nextCandidate 32 = .ok (.iaload, 1) := dr9 dk9_dX5_nextCandidate_0_0.1 18 (32, .iaload, 1) rfl
theorem dX5_nextCandidate_33 : decode cX5_nextCandidate 33 = .ok (.iconst 1, 1) := dr9 dk9_dX5_nextCandidate_0_0.1 19 (33, .iconst 1, 1) rfl
theorem dX5_nextCandidate_34 : decode cX5_nextCandidate 34 = .ok (.if_icmp .ne 7, 3) := dr9 dk9_dX5_nextCandidate_0_0.1 20 (34, .if_icmp .ne 7, 3) rfl
theorem dX5_nextCandidate_41 : decode cX5_nextCandidate 41 = .ok (.iconst 0, 1) := dr9 dk9_dX5_nextCandidate_0_0.1 21 (41, .iconst 0, 1) rfl
theorem dX5_nextCandidate_42 : decode cX5_nextCandidate 42 = .ok (.istore_n 3, 1) := dr9 dk9_dX5_nextCandidate_0_0.1 22 (42, .istore_n 3, 1) rfl
theorem dX5_nextCandidate_43 : decode cX5_nextCandidate 43 = .ok (.iload_n 3, 1) := dr9 dk9_dX5_nextCandidate_0_0.1 23 (43, .iload_n 3, 1) rfl
theorem dX5_nextCandidate_44 : decode cX5_nextCandidate 44 = .ok (.ifCond .eq 7, 3) := dr9 dk9_dX5_nextCandidate_0_0.2.1 0 (44, .ifCond .eq 7, 3) rfl
theorem dX5_nextCandidate_51 : decode cX5_nextCandidate 51 = .ok (.aload_n 0, 1) := dr9 dk9_dX5_nextCandidate_0_0.2.1 1 (51, .aload_n 0, 1) rfl
theorem dX5_nextCandidate_52 : decode cX5_nextCandidate 52 = .ok (.getfield 24, 3) := dr9 dk9_dX5_nextCandidate_0_0.2.1 2 (52, .getfield 24, 3) rfl
theorem dX5_nextCandidate_55 : decode cX5_nextCandidate 55 = .ok (.aload_n 1, 1) := dr9 dk9_dX5_nextCandidate_0_0.2.1 3 (55, .aload_n 1, 1) rfl
theorem dX5_nextCandidate_56 : decode cX5_nextCandidate 56 = .ok (.getfield 103, 3) := dr9 dk9_dX5_nextCandidate_0_0.2.1 4 (56, .getfield 103, 3) rfl
theorem dX5_nextCandidate_59 : decode cX5_nextCandidate 59 = .ok (.aload_n 1, 1) := dr9 dk9_dX5_nextCandidate_0_0.2.1 5 (59, .aload_n 1, 1) rfl
theorem dX5_nextCandidate_60 : decode cX5_nextCandidate 60 = .ok (.getfield 109, 3) := dr9 dk9_dX5_nextCandidate_0_0.2.1 6 (60, .getfield 109, 3) rfl
theorem dX5_nextCandidate_63 : decode cX5_nextCandidate 63 = .ok (.invokevirtual 239, 3) := dr9 dk9_dX5_nextCandidate_0_0.2.1 7 (63, .invokevirtual 239, 3) rfl
theorem dX5_nextCandidate_66 : decode cX5_nextCandidate 66 = .ok (.istore 4, 2) := dr9 dk9_dX5_nextCandidate_0_0.2.1 8 (66, .istore 4, 2) rfl
theorem dX5_nextCandidate_68 : decode cX5_nextCandidate 68 = .ok (.iload 4, 2) := dr9 dk9_dX5_nextCandidate_0_0.2.1 9 (68, .iload 4, 2) rfl
theorem dX5_nextCandidate_70 : decode cX5_nextCandidate 70 = .ok (.aload_n 1, 1) := dr9 dk9_dX5_nextCandidate_0_0.2.1 10 (70, .aload_n 1, 1) rfl
theorem dX5_nextCandidate_71 : decode cX5_nextCandidate 71 = .ok (.getfield 112, 3) := dr9 dk9_dX5_nextCandidate_0_0.2.1 11 (71, .getfield 112, 3) rfl
theorem dX5_nextCandidate_74 : decode cX5_nextCandidate 74 = .ok (.iushr, 1) := dr9 dk9_dX5_nextCandidate_0_0.2.1 12 (74, .iushr, 1) rfl
theorem dX5_nextCandidate_75 : decode cX5_nextCandidate 75 = .ok (.istore 5, 2) := dr9 dk9_dX5_nextCandidate_0_0.2.1 13 (75, .istore 5, 2) rfl
theorem dX5_nextCandidate_77 : decode cX5_nextCandidate 77 = .ok (.iload 5, 2) := dr9 dk9_dX5_nextCandidate_0_0.2.1 14 (77, .iload 5, 2) rfl
theorem dX5_nextCandidate_79 : decode cX5_nextCandidate 79 = .ok (.ifCond .eq 26, 3) := dr9 dk9_dX5_nextCandidate_0_0.2.1 15 (79, .ifCond .eq 26, 3) rfl
theorem dX5_nextCandidate_105 : decode cX5_nextCandidate 105 = .ok (.aload_n 1, 1) := dr9 dk9_dX5_nextCandidate_0_0.2.1 16 (105, .aload_n 1, 1) rfl
theorem dX5_nextCandidate_106 : decode cX5_nextCandidate 106 = .ok (.dup, 1) := dr9 dk9_dX5_nextCandidate_0_0.2.1 17 (106, .dup, 1) rfl
theorem dX5_nextCandidate_107 : decode cX5_nextCandidate 107 = .ok (.getfield 109, 3) := dr9 dk9_dX5_nextCandidate_0_0.2.1 18 (107, .getfield 109, 3) rfl
theorem dX5_nextCandidate_110 : decode cX5_nextCandidate 110 = .ok (.iconst 1, 1) := dr9 dk9_dX5_nextCandidate_0_0.2.1 19 (110, .iconst 1, 1) rfl
theorem dX5_nextCandidate_111 : decode cX5_nextCandidate 111 = .ok (.iadd, 1) := dr9 dk9_dX5_nextCandidate_0_0.2.1 20 (111, .iadd, 1) rfl
theorem dX5_nextCandidate_112 : decode cX5_nextCandidate 112 = .ok (.putfield 109, 3) := dr9 dk9_dX5_nextCandidate_0_0.2.1 21 (112, .putfield 109, 3) rfl
theorem dX5_nextCandidate_115 : decode cX5_nextCandidate 115 = .ok (.aload_n 1, 1) := dr9 dk9_dX5_nextCandidate_0_0.2.1 22 (115, .aload_n 1, 1) rfl
theorem dX5_nextCandidate_116 : decode cX5_nextCandidate 116 = .ok (.iconst 0, 1) := dr9 dk9_dX5_nextCandidate_0_0.2.1 23 (116, .iconst 0, 1) rfl
theorem dX5_nextCandidate_117 : decode cX5_nextCandidate 117 = .ok (.putfield 112, 3) := dr9 dk9_dX5_nextCandidate_0_0.2.2 0 (117, .putfield 112, 3) rfl
theorem dX5_nextCandidate_120 : decode cX5_nextCandidate 120 = .ok (.goto (-107), 3) := dr9 dk9_dX5_nextCandidate_0_0.2.2 1 (120, .goto (-107), 3) rfl
theorem dX5_nextCandidate_82 : decode cX5_nextCandidate 82 = .ok (.aload_n 1, 1) := dr9 dk9_dX5_nextCandidate_0_0.2.2 2 (82, .aload_n 1, 1) rfl
theorem dX5_nextCandidate_83 : decode cX5_nextCandidate 83 = .ok (.getfield 112, 3) := dr9 dk9_dX5_nextCandidate_0_0.2.2 3 (83, .getfield 112, 3) rfl
theorem dX5_nextCandidate_86 : decode cX5_nextCandidate 86 = .ok (.iload 5, 2) := dr9 dk9_dX5_nextCandidate_0_0.2.2 4 (86, .iload 5, 2) rfl
theorem dX5_nextCandidate_88 : decode cX5_nextCandidate 88 = .ok (.invokestatic 242, 3) := dr9 dk9_dX5_nextCandidate_0_0.2.2 5 (88, .invokestatic 242, 3) rfl
theorem dX5_nextCandidate_91 : decode cX5_nextCandidate 91 = .ok (.iadd, 1) := dr9 dk9_dX5_nextCandidate_0_0.2.2 6 (91, .iadd, 1) rfl
theorem dX5_nextCandidate_92 : decode cX5_nextCandidate 92 = .ok (.istore 6, 2) := dr9 dk9_dX5_nextCandidate_0_0.2.2 7 (92, .istore 6, 2) rfl
theorem dX5_nextCandidate_94 : decode cX5_nextCandidate 94 = .ok (.aload_n 1, 1) := dr9 dk9_dX5_nextCandidate_0_0.2.2 8 (94, .aload_n 1, 1) rfl
theorem dX5_nextCandidate_95 : decode cX5_nextCandidate 95 = .ok (.iload 6, 2) := dr9 dk9_dX5_nextCandidate_0_0.2.2 9 (95, .iload 6, 2) rfl
theorem dX5_nextCandidate_97 : decode cX5_nextCandidate 97 = .ok (.iconst 1, 1) := dr9 dk9_dX5_nextCandidate_0_0.2.2 10 (97, .iconst 1, 1) rfl
theorem dX5_nextCandidate_98 : decode cX5_nextCandidate 98 = .ok (.iadd, 1) := dr9 dk9_dX5_nextCandidate_0_0.2.2 11 (98, .iadd, 1) rfl
theorem dX5_nextCandidate_99 : decode cX5_nextCandidate 99 = .ok (.putfield 112, 3) := dr9 dk9_dX5_nextCandidate_0_0.2.2 12 (99, .putfield 112, 3) rfl
theorem dX5_nextCandidate_102 : decode cX5_nextCandidate 102 = .ok (.iload 6, 2) := dr9 dk9_dX5_nextCandidate_0_0.2.2 13 (102, .iload 6, 2) rfl
theorem dX5_nextCandidate_104 : decode cX5_nextCandidate 104 = .ok (.ireturn, 1) := dr9 dk9_dX5_nextCandidate_0_0.2.2 14 (104, .ireturn, 1) rfl
theorem dX5_nextCandidate_37 : decode cX5_nextCandidate 37 = .ok (.iconst 1, 1) := dr9 dk9_dX5_nextCandidate_0_0.2.2 15 (37, .iconst 1, 1) rfl
theorem dX5_nextCandidate_38 : decode cX5_nextCandidate 38 = .ok (.goto 4, 3) := dr9 dk9_dX5_nextCandidate_0_0.2.2 16 (38, .goto 4, 3) rfl
theorem dX5_nextCandidate_47 : decode cX5_nextCandidate 47 = .ok (.iconst 0, 1) := dr9 dk9_dX5_nextCandidate_0_0.2.2 17 (47, .iconst 0, 1) rfl
theorem dX5_nextCandidate_48 : decode cX5_nextCandidate 48 = .ok (.goto 18, 3) := dr9 dk9_dX5_nextCandidate_0_0.2.2 18 (48, .goto 18, 3) rfl
theorem dk9_dX5_goOnMaking_0_0 : dOk cX5_goOnMaking [(0, .aload_n 1, 1), (1, .getfield 94, 3), (4, .iconst 1, 1), (5, .if_icmp .ne 7, 3), (12, .iconst 0, 1), (13, .istore_n 2, 1), (14, .aload_n 0, 1), (15, .getfield 49, 3), (18, .iconst 2, 1), (19, .if_icmp .eq 11, 3), (30, .aload_n 0, 1), (31, .dup, 1), (32, .getfield 55, 3), (35, .iload_n 2, 1), (36, .ifCond .eq 7, 3), (43, .iconst 1, 1), (44, .iadd, 1), (45, .putfield 55, 3), (48, .aload_n 0, 1), (49, .aload_n 1, 1), (50, .invokevirtual 215, 3), (53, .return_, 1), (22, .aload_n 0, 1), (23, .getfield 49, 3)] = true ∧ dOk cX5_goOnMaking [(26, .iconst 3, 1), (27, .if_icmp .ne 27, 3), (54, .iload_n 2, 1), (55, .ifCond .eq 9, 3), (64, .aload_n 0, 1), (65, .getfield 49, 3), (68, .iconst 1, 1), (69, .if_icmp .ne 22, 3), (91, .aload_n 0, 1), (92, .aload_n 1, 1), (93, .invokevirtual 224, 3), (96, .istore_n 3, 1), (97, .aload_n 0, 1), (98, .getfield 24, 3), (101, .getfield 178, 3), (104, .aload_n 1, 1), (105, .getfield 103, 3), (108, .aaload, 1), (109, .getfield 228, 3), (112, .istore 4, 2), (114, .iload_n 3, 1), (115, .iconst (-1), 1), (116, .if_icmp .eq 19, 3), (135, .iload 4, 2)] = true ∧ dOk cX5_goOnMaking [(137, .iconst (-1), 1), (138, .if_icmp .eq 20, 3), (158, .aload_n 0, 1), (159, .aload_n 1, 1), (160, .invokevirtual 218, 3), (163, .return_, 1), (141, .aload_n 1, 1), (142, .iconst 1, 1), (143, .putfield 94, 3), (146, .aload_n 0, 1), (147, .aload_n 1, 1), (148, .iload 4, 2), (150, .iconst 0, 1), (151, .invokevirtual 231, 3), (154, .pop, 1), (155, .goto 8, 3), (119, .aload_n 0, 1), (120, .iload_n 3, 1), (121, .aload_n 1, 1), (122, .getfield 106, 3), (125, .aload_n 1, 1), (126, .getfield 97, 3), (129, .invokevirtual 153, 3), (132, .goto 31, 3)] = true ∧ dOk cX5_goOnMaking [(72, .aload_n 0, 1), (73, .getfield 28, 3), (76, .aload_n 1, 1), (77, .getfield 100, 3), (80, .aload_n 1, 1), (81, .getfield 109, 3), (84, .aload_n 0, 1), (85, .getfield 67, 3), (88, .invokevirtual 221, 3), (8, .iconst 1, 1), (9, .goto 4, 3), (39, .iconst 0, 1), (40, .goto 4, 3), (58, .aload_n 0, 1), (59, .aload_n 1, 1), (60, .invokevirtual 218, 3), (63, .return_, 1)] = true := by decide +kernel
theorem dX5_goOnMaking_0 : decode cX5_goOnMaking 0 = .ok (.aload_n 1, 1) := dr9 dk9_dX5_goOnMaking_0_0.1 0 (0, .aload_n 1, 1) rfl
theorem dX5_goOnMaking_1 : decode cX5_goOnMaking 1 = .ok (.getfield 94, 3) := dr9 dk9_dX5_goOnMaking_0_0.1 1 (1, .getfield 94, 3) rfl
theorem dX5_goOnMaking_4 : decode cX5_goOnMaking 4 = .ok (.iconst 1, 1) := dr9 dk9_dX5_goOnMaking_0_0.1 2 (4, .iconst 1, 1) rfl
theorem dX5_goOnMaking_5 : decode cX5_goOnMaking 5 = .ok (.if_icmp .ne 7, 3) := dr9 dk9_dX5_goOnMaking_0_0.1 3 (5, .if_icmp .ne 7, 3) rfl
theorem dX5_goOnMaking_12 : decode cX5_goOnMaking 12 = .ok (.iconst 0, 1) := dr9 dk9_dX5_goOnMaking_0_0.1 4 (12, .iconst 0, 1) rfl
theorem dX5_goOnMaking_13 : decode cX5_goOnMaking 13 = .ok (.istore_n 2, 1) := dr9 dk9_dX5_goOnMaking_0_0.1 5 (13, .istore_n 2, 1) rfl
theorem dX5_goOnMaking_14 : decode cX5_goOnMaking 14 = .ok (.aload_n 0, 1) := dr9 dk9_dX5_goOnMaking_0_0.1 6 (14, .aload_n 0, 1) rfl
theorem dX5_goOnMaking_15 : decode cX5_goOnMaking 15 = .ok (.getfield 49, 3) := dr9 dk9_dX5_goOnMaking_0_0.1 7 (15, .getfield 49, 3) rfl
theorem dX5_goOnMaking_18 : decode cX5_goOnMaking 18 = .ok (.iconst 2, 1) := dr9 dk9_dX5_goOnMaking_0_0.1 8 (18, .iconst 2, 1) rfl
theorem dX5_goOnMaking_19 : decode cX5_goOnMaking 19 = .ok (.if_icmp .eq 11, 3) := dr9 dk9_dX5_goOnMaking_0_0.1 9 (19, .if_icmp .eq 11, 3) rfl
theorem dX5_goOnMaking_30 : decode cX5_goOnMaking 30 = .ok (.aload_n 0, 1) := dr9 dk9_dX5_goOnMaking_0_0.1 10 (30, .aload_n 0, 1) rfl
theorem dX5_goOnMaking_31 : decode cX5_goOnMaking 31 = .ok (.dup, 1) := dr9 dk9_dX5_goOnMaking_0_0.1 11 (31, .dup, 1) rfl
theorem dX5_goOnMaking_32 : decode cX5_goOnMaking 32 = .ok (.getfield 55, 3) := dr9 dk9_dX5_goOnMaking_0_0.1 12 (32, .getfield 55, 3) rfl
theorem dX5_goOnMaking_35 : decode cX5_goOnMaking 35 = .ok (.iload_n 2, 1) := dr9 dk9_dX5_goOnMaking_0_0.1 13 (35, .iload_n 2, 1) rfl
theorem dX5_goOnMaking_36 : decode cX5_goOnMaking 36 = .ok (.ifCond .eq 7, 3) := dr9 dk9_dX5_goOnMaking_0_0.1 14 (36, .ifCond .eq 7, 3) rfl
theorem dX5_goOnMaking_43 : decode cX5_goOnMaking 43 = .ok (.iconst 1, 1) := dr9 dk9_dX5_goOnMaking_0_0.1 15 (43, .iconst 1, 1) rfl
theorem dX5_goOnMaking_44 : decode cX5_goOnMaking 44 = .ok (.iadd, 1) := dr9 dk9_dX5_goOnMaking_0_0.1 16 (44, .iadd, 1) rfl
theorem dX5_goOnMaking_45 : decode cX5_goOnMaking 45 = .ok (.putfield 55, 3) := dr9 dk9_dX5_goOnMaking_0_0.1 17 (45, .putfield 55, 3) rfl
theorem dX5_goOnMaking_48 : decode cX5_goOnMaking 48 = .ok (.aload_n 0, 1) := dr9 dk9_dX5_goOnMaking_0_0.1 18 (48, .aload_n 0, 1) rfl
theorem dX5_goOnMaking_49 : decode cX5_goOnMaking 49 = .ok (.aload_n 1, 1) := dr9 dk9_dX5_goOnMaking_0_0.1 19 (49, .aload_n 1, 1) rfl
theorem dX5_goOnMaking_50 : decode cX5_goOnMaking 50 = .ok (.invokevirtual 215, 3) := dr9 dk9_dX5_goOnMaking_0_0.1 20 (50, .invokevirtual 215, 3) rfl
theorem dX5_goOnMaking_53 : decode cX5_goOnMaking 53 = .ok (.return_, 1) := dr9 dk9_dX5_goOnMaking_0_0.1 21 (53, .return_, 1) rfl
theorem dX5_goOnMaking_22 : decode cX5_goOnMaking 22 = .ok (.aload_n 0, 1) := dr9 dk9_dX5_goOnMaking_0_0.1 22 (22, .aload_n 0, 1) rfl
theorem dX5_goOnMaking_23 : decode cX5_goOnMaking 23 = .ok (.getfield 49, 3) := dr9 dk9_dX5_goOnMaking_0_0.1 23 (23, .getfield 49, 3) rfl
theorem dX5_goOnMaking_26 : decode cX5_goOnMaking 26 = .ok (.iconst 3, 1) := dr9 dk9_dX5_goOnMaking_0_0.2.1 0 (26, .iconst 3, 1) rfl
theorem dX5_goOnMaking_27 : decode cX5_goOnMaking 27 = .ok (.if_icmp .ne 27, 3) := dr9 dk9_dX5_goOnMaking_0_0.2.1 1 (27, .if_icmp .ne 27, 3) rfl
theorem dX5_goOnMaking_54 : decode cX5_goOnMaking 54 = .ok (.iload_n 2, 1) := dr9 dk9_dX5_goOnMaking_0_0.2.1 2 (54, .iload_n 2, 1) rfl
theorem dX5_goOnMaking_55 : decode cX5_goOnMaking 55 = .ok (.ifCond .eq 9, 3) := dr9 dk9_dX5_goOnMaking_0_0.2.1 3 (55, .ifCond .eq 9, 3) rfl
theorem dX5_goOnMaking_64 : decode cX5_goOnMaking 64 = .ok (.aload_n 0, 1) := dr9 dk9_dX5_goOnMaking_0_0.2.1 4 (64, .aload_n 0, 1) rfl
theorem dX5_goOnMaking_65 : decode cX5_goOnMaking 65 = .ok (.getfield 49, 3) := dr9 dk9_dX5_goOnMaking_0_0.2.1 5 (65, .getfield 49, 3) rfl
theorem dX5_goOnMaking_68 : decode cX5_goOnMaking 68 = .ok (.iconst 1, 1) := dr9 dk9_dX5_goOnMaking_0_0.2.1 6 (68, .iconst 1, 1) rfl
theorem dX5_goOnMaking_69 : decode cX5_goOnMaking 69 = .ok (.if_icmp .ne 22, 3) := dr9 dk9_dX5_goOnMaking_0_0.2.1 7 (69, .if_icmp .ne 22, 3) rfl
theorem dX5_goOnMaking_91 : decode cX5_goOnMaking 91 = .ok (.aload_n 0, 1) := dr9 dk9_dX5_goOnMaking_0_0.2.1 8 (91, .aload_n 0, 1) rfl
theorem dX5_goOnMaking_92 : decode cX5_goOnMaking 92 = .ok (.aload_n 1, 1) := dr9 dk9_dX5_goOnMaking_0_0.2.1 9 (92, .aload_n 1, 1) rfl
theorem dX5_goOnMaking_93 : decode cX5_goOnMaking 93 = .ok (.invokevirtual 224, 3) := dr9 dk9_dX5_goOnMaking_0_0.2.1 10 (93, .invokevirtual 224, 3) rfl
theorem dX5_goOnMaking_96 : decode cX5_goOnMaking 96 = .ok (.istore_n 3, 1) := dr9 dk9_dX5_goOnMaking_0_0.2.1 11 (96, .istore_n 3, 1) rfl
theorem dX5_goOnMaking_97 : decode cX5_goOnMaking 97 = .ok (.aload_n 0, 1) := dr9 dk9_dX5_goOnMaking_0_0.2.1 12 (97, .aload_n 0, 1) rfl
theorem dX5_goOnMaking_98 : decode cX5_goOnMaking 98 = .ok (.getfield 24, 3) := dr9 dk9_dX5_goOnMaking_0_0.2.1 13 (98, .getfield 24, 3) rfl
theorem dX5_goOnMaking_101 : decode cX5_goOnMaking 101 = .ok (.getfield 178, 3) := dr9 dk9_dX5_goOnMaking_0_0.2.1 14 (101, .getfield 178, 3) rfl
theorem dX5_goOnMaking_104 : decode cX5_goOnMaking 104 = .ok (.aload_n 1, 1) := dr9 dk9_dX5_goOnMaking_0_0.2.1 15 (104, .aload_n 1, 1) rfl
theorem dX5_goOnMaking_105 : decode cX5_goOnMaking 105 = .ok (.getfield 103, 3) := dr9 dk9_dX5_goOnMaking_0_0.2.1 16 (105, .getfield 103, 3) rfl
theorem dX5_goOnMaking_108 : decode cX5_goOnMaking 108 = .ok (.aaload, 1) := dr9 dk9_dX5_goOnMaking_0_0.2.1 17 (108, .aaload, 1) rfl
theorem dX5_goOnMaking_109 : decode cX5_goOnMaking 109 = .ok (.getfield 228, 3) := dr9 dk9_dX5_goOnMaking_0_0.2.1 18 (109, .getfield 228, 3) rfl
theorem dX5_goOnMaking_112 : decode cX5_goOnMaking 112 = .ok (.istore 4, 2) := dr9 dk9_dX5_goOnMaking_0_0.2.1 19 (112, .istore 4, 2) rfl
theorem dX5_goOnMaking_114 : decode cX5_goOnMaking 114 = .ok (.iload_n 3, 1) := dr9 dk9_dX5_goOnMaking_0_0.2.1 20 (114, .iload_n 3, 1) rfl
theorem dX5_goOnMaking_115 : decode cX5_goOnMaking 115 = .ok (.iconst (-1), 1) := dr9 dk9_dX5_goOnMaking_0_0.2.1 21 (115, .iconst (-1), 1) rfl
theorem dX5_goOnMaking_116 : decode cX5_goOnMaking 116 = .ok (.if_icmp .eq 19, 3) := dr9 dk9_dX5_goOnMaking_0_0.2.1 22 (116, .if_icmp .eq 19, 3) rfl
theorem dX5_goOnMaking_135 : decode cX5_goOnMaking 135 = .ok (.iload 4, 2) := dr9 dk9_dX5_goOnMaking_0_0.2.1 23 (135, .iload 4, 2) rfl
theorem dX5_goOnMaking_137 : decode cX5_goOnMaking 137 = .ok (.iconst (-1), 1) := dr9 dk9_dX5_goOnMaking_0_0.2.2.1 0 (137, .iconst (-1), 1) rfl
theorem dX5_goOnMaking_138 : decode cX5_goOnMaking 138 = .ok (.if_icmp .eq 20, 3) := dr9 dk9_dX5_goOnMaking_0_0.2.2.1 1 (138, .if_icmp .eq 20, 3) rfl
theorem dX5_goOnMaking_158 : decode cX5_goOnMaking 158 = .ok (.aload_n 0, 1) := dr9 dk9_dX5_goOnMaking_0_0.2.2.1 2 (158, .aload_n 0, 1) rfl
theorem dX5_goOnMaking_159 : decode cX5_goOnMaking 159 = .ok (.aload_n 1, 1) := dr9 dk9_dX5_goOnMaking_0_0.2.2.1 3 (159, .aload_n 1, 1) rfl
theorem dX5_goOnMaking_160 : decode cX5_goOnMaking 160 = .ok (.invokevirtual 218, 3) := dr9 dk9_dX5_goOnMaking_0_0.2.2.1 4 (160, .invokevirtual 218, 3) rfl
theorem dX5_goOnMaking_163 : decode cX5_goOnMaking 163 = .ok (.return_, 1) := dr9 dk9_dX5_goOnMaking_0_0.2.2.1 5 (163, .return_, 1) rfl
theorem dX5_goOnMaking_141 : decode cX5_goOnMaking 141 = .ok (.aload_n 1, 1) := dr9 dk9_dX5_goOnMaking_0_0.2.2.1 6 (141, .aload_n 1, 1) rfl
theorem dX5_goOnMaking_142 : decode cX5_goOnMaking 142 = .ok (.iconst 1, 1) := dr9 dk9_dX5_goOnMaking_0_0.2.2.1 7 (142, .iconst 1, 1) rfl
theorem dX5_goOnMaking_143 : decode cX5_goOnMaking 143 = .ok (.putfield 94, 3) := dr9 dk9_dX5_goOnMaking_0_0.2.2.1 8 (143, .putfield 94, 3) rfl
theorem dX5_goOnMaking_146 : decode cX5_goOnMaking 146 = .ok (.aload_n 0, 1) := dr9 dk9_dX5_goOnMaking_0_0.2.2.1 9 (146, .aload_n 0, 1) rfl
theorem dX5_goOnMaking_147 : decode cX5_goOnMaking 147 = .ok (.aload_n 1, 1) := dr9 dk9_dX5_goOnMaking_0_0.2.2.1 10 (147, .aload_n 1, 1) rfl
theorem dX5_goOnMaking_148 : decode cX5_goOnMaking 148 = .ok (.iload 4, 2) := dr9 dk9_dX5_goOnMaking_0_0.2.2.1 11 (148, .iload 4, 2) rfl
theorem dX5_goOnMaking_150 : decode cX5_goOnMaking 150 = .ok (.iconst 0, 1) := dr9 dk9_dX5_goOnMaking_0_0.2.2.1 12 (150, .iconst 0, 1) rfl
theorem dX5_goOnMaking_151 : decode cX5_goOnMaking 151 = .ok (.invokevirtual 231, 3) := dr9 dk9_dX5_goOnMaking_0_0.2.2.1 13 (151, .invokevirtual 231, 3) rfl
theorem dX5_goOnMaking_154 : decode cX5_goOnMaking 154 = .ok (.pop, 1) := dr9 dk9_dX5_goOnMaking_0_0.2.2.1 14 (154, .pop, 1) rfl
theorem dX5_goOnMaking_155 : decode cX5_goOnMaking 155 = .ok (.goto 8, 3) := dr9 dk9_dX5_goOnMaking_0_0.2.2.1 15 (155, .goto 8, 3) rfl
theorem dX5_goOnMaking_119 : decode cX5_goOnMaking 119 = .ok (.aload_n 0, 1) := dr9 dk9_dX5_goOnMaking_0_0.2.2.1 16 (119, .aload_n 0, 1) rfl
theorem dX5_goOnMaking_120 : decode cX5_goOnMaking 120 = .ok (.iload_n 3, 1) := dr9 dk9_dX5_goOnMaking_0_0.2.2.1 17 (120, .iload_n 3, 1) rfl
theorem dX5_goOnMaking_121 : decode cX5_goOnMaking 121 = .ok (.aload_n 1, 1) := dr9 dk9_dX5_goOnMaking_0_0.2.2.1 18 (121, .aload_n 1, 1) rfl
theorem dX5_goOnMaking_122 : decode cX5_goOnMaking 122 = .ok (.getfield 106, 3) := dr9 dk9_dX5_goOnMaking_0_0.2.2.1 19 (122, .getfield 106, 3) rfl
theorem dX5_goOnMaking_125 : decode cX5_goOnMaking 125 = .ok (.aload_n 1, 1) := dr9 dk9_dX5_goOnMaking_0_0.2.2.1 20 (125, .aload_n 1, 1) rfl
theorem dX5_goOnMaking_126 : decode cX5_goOnMaking 126 = .ok (.getfield 97, 3) := dr9 dk9_dX5_goOnMaking_0_0.2.2.1 21 (126, .getfield 97, 3) rfl
theorem dX5_goOnMaking_129 : decode cX5_goOnMaking 129 = .ok (.invokevirtual 153, 3) := dr9 dk9_dX5_goOnMaking_0_0.2.2.1 22 (129, .invokevirtual 153, 3) rfl
theorem dX5_goOnMaking_132 : decode cX5_goOnMaking 132 = .ok (.goto 31, 3) := dr9 dk9_dX5_goOnMaking_0_0.2.2.1 23 (132, .goto 31, 3) rfl
theorem dX5_goOnMaking_72 : decode cX5_goOnMaking 72 = .ok (.aload_n 0, 1) := dr9 dk9_dX5_goOnMaking_0_0.2.2.2 0 (72, .aload_n 0, 1) rfl
theorem dX5_goOnMaking_73 : decode cX5_goOnMaking 73 = .ok (.getfield 28, 3) := dr9 dk9_dX5_goOnMaking_0_0.2.2.2 1 (73, .getfield 28, 3) rfl
theorem dX5_goOnMaking_76 : decode cX5_goOnMaking 76 = .ok (.aload_n 1, 1) := dr9 dk9_dX5_goOnMaking_0_0.2.2.2 2 (76, .aload_n 1, 1) rfl
theorem dX5_goOnMaking_77 : decode cX5_goOnMaking 77 = .ok (.getfield 100, 3) := dr9 dk9_dX5_goOnMaking_0_0.2.2.2 3 (77, .getfield 100, 3) rfl
theorem dX5_goOnMaking_80 : decode cX5_goOnMaking 80 = .ok (.aload_n 1, 1) := dr9 dk9_dX5_goOnMaking_0_0.2.2.2 4 (80, .aload_n 1, 1) rfl
theorem dX5_goOnMaking_81 : decode cX5_goOnMaking 81 = .ok (.getfield 109, 3) := dr9 dk9_dX5_goOnMaking_0_0.2.2.2 5 (81, .getfield 109, 3) rfl
theorem dX5_goOnMaking_84 : decode cX5_goOnMaking 84 = .ok (.aload_n 0, 1) := dr9 dk9_dX5_goOnMaking_0_0.2.2.2 6 (84, .aload_n 0, 1) rfl
theorem dX5_goOnMaking_85 : decode cX5_goOnMaking 85 = .ok (.getfield 67, 3) := dr9 dk9_dX5_goOnMaking_0_0.2.2.2 7 (85, .getfield 67, 3) rfl
theorem dX5_goOnMaking_88 : decode cX5_goOnMaking 88 = .ok (.invokevirtual 221, 3) := dr9 dk9_dX5_goOnMaking_0_0.2.2.2 8 (88, .invokevirtual 221, 3) rfl
theorem dX5_goOnMaking_8 : decode cX5_goOnMaking 8 = .ok (.iconst 1, 1) := dr9 dk9_dX5_goOnMaking_0_0.2.2.2 9 (8, .iconst 1, 1) rfl
theorem dX5_goOnMaking_9 : decode cX5_goOnMaking 9 = .ok (.goto 4, 3) := dr9 dk9_dX5_goOnMaking_0_0.2.2.2 10 (9, .goto 4, 3) rfl
theorem dX5_goOnMaking_39 : decode cX5_goOnMaking 39 = .ok (.iconst 0, 1) := dr9 dk9_dX5_goOnMaking_0_0.2.2.2 11 (39, .iconst 0, 1) rfl
theorem dX5_goOnMaking_40 : decode cX5_goOnMaking 40 = .ok (.goto 4, 3) := dr9 dk9_dX5_goOnMaking_0_0.2.2.2 12 (40, .goto 4, 3) rfl
theorem dX5_goOnMaking_58 : decode cX5_goOnMaking 58 = .ok (.aload_n 0, 1) := dr9 dk9_dX5_goOnMaking_0_0.2.2.2 13 (58, .aload_n 0, 1) rfl
theorem dX5_goOnMaking_59 : decode cX5_goOnMaking 59 = .ok (.aload_n 1, 1) := dr9 dk9_dX5_goOnMaking_0_0.2.2.2 14 (59, .aload_n 1, 1) rfl
theorem dX5_goOnMaking_60 : decode cX5_goOnMaking 60 = .ok (.invokevirtual 218, 3) := dr9 dk9_dX5_goOnMaking_0_0.2.2.2 15 (60, .invokevirtual 218, 3) rfl
theorem dX5_goOnMaking_63 : decode cX5_goOnMaking 63 = .ok (.return_, 1) := dr9 dk9_dX5_goOnMaking_0_0.2.2.2 16 (63, .return_, 1) rfl
abbrev r_x_nextCandidate : Room := { frames := 2, cells := 0, slots := 0, locals := 53 }
abbrev q_x_nextCandidate (D : va_G) (ks : KS) (ad : Nat → Nat) (kk : Nat → ClassId) (V : Vf) (L : Lf) (Z : XZ) (b : Nat) (gf : Nat) (A : Nat → Prop) : Array Value → State → Outcome → State → Prop := va_Qi (fun (r : Int32) (u : Vf × Lf) => rgd bX u.1 ∧ agr [] [75, 76] V u.1 ∧ u.2 = L ∧ ((-1) ≤ r.toInt ∧ r.toInt ≤ 23) ∧ (Imp (0 ≤ r.toInt) (MO u.1 Z b gf True True True)) ∧ (MO u.1 Z b gf False False False)) (fun u t => gq D A (xw ad kk u.1 u.2 Z) (xty kk Z) t) A
set_option maxHeartbeats 4000000 in
set_option maxRecDepth 100000 in
theorem x_nextCandidate (l : Launch) (D : va_G) (ks : KS) (sz : Nat) (ad : Nat → Nat) (kk : Nat → ClassId) (V : Vf) (L : Lf) (Z : XZ) (b : Nat) (gf : Nat) (hMV : rgd bX V) (hb2 : b < 2) (hgf : gf < Z.nf) (mo : MO V Z b gf False False False) (gd : (gf : Int) + 1 = (V 5 6).toInt) (gk : (V 67 gf).toInt = 1) (gph : (V 68 gf).toInt ≠ 1)  : Met l yX5_nextCandidate (Cond.code yX5_nextCandidate cX5_nextCandidate 7 (some .int) :: GW) r_x_nextCandidate (va_Pc [.ref (ad 5), .ref (Z.fa gf)] (gp D ks (xw ad kk V L Z) (xty kk Z) sz)) (q_x_nextCandidate D ks ad kk V L Z  b gf (va_A (xw ad kk V L Z) sz)) 0 0 (va_A (xw ad kk V L Z) sz) := by
  refine g_met (q_x_nextCandidate D ks ad kk V L Z  b gf) (by decide) (Nat.le_of_ble_eq_true rfl) ?_
  intro p e s m below meth c A ls H locs hx hb hr hml hown hg hlocks hin hnw hgk hP hK hD hS hA hl
  have hown : s.vm.findClass RX5 = some m.cls := hown
  have hl : lv_has ls 7 [(0, .ref (ad 5)), (1, .ref (Z.fa gf))] := hl
  have hP : va_P D vwCl (xw ad kk V L Z) H := hP
  have hD : va_D A (xw ad kk V L Z) := hD
  have hK : va_K D vwCl (xty kk Z) s := hK
  have agV : agr [] [75, 76] V V := agr.rf
  have r1 : 0 ≤ ((V 5 6)).toInt ∧ ((V 5 6)).toInt ≤ 400 := hMV 5 6
  have kdp := i_clamp (x := V 5 6) rfl (by (first | exact om_c66f1b494bd9 gd | omega))
  have hdn : (gf : Int) + 1 ≤ (Z.nf : Int) := by (first | exact om_29efded833ec hgf | omega)
  have mup := MO.up mo
  have msz := mup.1
  have mbk := mup.2.2.2.1
  obtain ⟨xk, fk⟩ := MO.fk mo
  have r2 : (-1) ≤ ((V 71 gf)).toInt ∧ ((V 71 gf)).toInt ≤ 23 := hMV 71 gf
  have r3 : 0 ≤ ((V 75 gf)).toInt ∧ ((V 75 gf)).toInt ≤ 12 := hMV 75 gf
  have r4 : 0 ≤ ((V 80 gf)).toInt ∧ ((V 80 gf)).toInt ≤ 300 := hMV 80 gf
  have r5 : 0 ≤ ((V 84 gf)).toInt ∧ ((V 84 gf)).toInt ≤ 2147483647 := hMV 84 gf
  have r6 : 0 ≤ ((V 5 8)).toInt ∧ ((V 5 8)).toInt ≤ 300 := hMV 5 8
  have r7 : 0 ≤ ((V 5 9)).toInt ∧ ((V 5 9)).toInt ≤ 3 := hMV 5 9
  have r8 : 0 ≤ ((V 3 13)).toInt ∧ ((V 3 13)).toInt ≤ 300 := hMV 3 13
  have r9 : 0 ≤ ((V 43 (5 * b + 2))).toInt ∧ ((V 43 (5 * b + 2))).toInt ≤ ((xcap (5 * b + 2) : Nat) : Int) := hMV 43 (5 * b + 2)
  have r10 : xcap (5 * b + 2) = 24 := xcap_2
  have r11 : 0 ≤ ((V 41 b)).toInt ∧ ((V 41 b)).toInt ≤ 12 := hMV 41 b
  have r12 : 0 ≤ ((V 42 b)).toInt ∧ ((V 42 b)).toInt ≤ 8200 := hMV 42 b
  have fc := fk.1 (by omega)
  have fo := fk.2.1 (by omega) (by omega)
  have fi := fk.2.2.2.2.1 (by omega)
  refine lv_aload_n hx hb dX5_nextCandidate_0 rfl (lv_at hl 0 rfl) ?_
  refine va_get (D := D) (ci := 5) (v := .ref (ad (38 + Int32.toNatClampNeg (V 5 5)))) (fs := (xfMachine ad V L Z)) (C := RX5) (T := TX5) (N := 15) hx hb hg inX5 hown hK hP 5 xgMachine rfl 5 (by decide) (hg _ w672) (fun _ h9 => h9) rfl dX5_nextCandidate_1 ?_
  have r13 : 0 ≤ ((V 5 5)).toInt ∧ ((V 5 5)).toInt ≤ 1 := hMV 5 5
  refine g_topv (v := .ref (ad (38 + b))) (rfP (by first | omega | ((try (have i_mo := Imp.go mo (by omega))); omega))) ?_
  refine va_getN (D := D) (ci := 0) (v := .ref (ad (64 + b))) (fs := (xfBook ad V b)) (C := RX0) (T := TX0) (N := 13) hx hb hg inX0 hown hK hP (38 + b) (xgBook hb2) rfl 7 (by decide) (hnw.use 618 n618 rfl) (fun _ h9 => h9) rfl dX5_nextCandidate_4 ?_
  refine lv_aload_n hx hb dX5_nextCandidate_7 rfl (lv_at hl 1 rfl) ?_
  refine va_getN (D := D) (ci := 4) (v := .int (V 71 gf)) (fs := (xfFrame V gf)) (C := RX4) (T := TX4) (N := 19) hx hb hg inX4 hown hK hP (336 + gf) (xgFrame hgf) rfl 4 (by decide) (hnw.use 1193 n1193 rfl) (fun _ h9 => h9) rfl dX5_nextCandidate_8 ?_
  have il14 : b < 2 := by first | exact om_f940a4667dd6 hb2 | first | omega | ((try (have i_mo := Imp.go mo (by omega))); omega)
  refine va_aldq (D := D) (i := (V 71 gf)) hx hb hK hP (64 + b) (57 + b) (xgcomps il14) (xtcomps il14) (i_in (a := ((V 71 gf)).toInt) rfl (by first | omega | ((try (have i_mo := Imp.go mo (by omega))); omega))) dX5_nextCandidate_11 ?_
  have kc15 := i_clamp (x := (V 71 gf)) rfl (by first | omega | ((try (have i_mo := Imp.go mo (by omega))); omega))
  refine g_topv (v := .ref (ad (72 + (24 * b + (Int32.toNatClampNeg (V 71 gf)))))) (congrArg va_rf (if_pos (by first | omega | ((try (have i_mo := Imp.go mo (by omega))); omega)))) ?_
  have il16 : (24 * b + (Int32.toNatClampNeg (V 71 gf))) < 48 := by first | exact om_31a61188bc78 hb2 r2.2 kc15 | first | omega | ((try (have i_mo := Imp.go mo (by omega))); omega)
  refine lv_astore_n (lv' := [(2, .ref (ad (72 + (24 * b + (Int32.toNatClampNeg (V 71 gf)))))), (0, .ref (ad 5)), (1, .ref (Z.fa gf))]) hx hb dX5_nextCandidate_12 rfl hl (by decide) rfl (fun ls hl => ?_)
  have lp18 : ∀ (fulp18 : Nat) (V17 : Vf) (H : Heap) (locs : List Loc) (ls : Array Slot), ME V V17 gf → (V 75 gf).toInt ≤ (V17 75 gf).toInt ∧ (V17 75 gf).toInt ≤ 8 → 0 ≤ (V17 76 gf).toInt ∧ (V17 76 gf).toInt ≤ 25 → 25 * (8 - (V17 75 gf).toInt) - (V17 76 gf).toInt ≤ 25 * (8 - (V 75 gf).toInt) - (V 76 gf).toInt → 8 - (V17 75 gf).toInt < (fulp18 : Int) → agr [] [75, 76] V V17 → rgd bX V17 → va_P D vwCl (xw ad kk V17 L Z) H → va_D A (xw ad kk V17 L Z) → va_S A s.heap H locs → lv_has ls 7 [(2, .ref (ad (72 + (24 * b + (Int32.toNatClampNeg (V 71 gf)))))), (0, .ref (ad 5)), (1, .ref (Z.fa gf))] → W p l e r_x_nextCandidate s m ([.ref (ad 5), .ref (Z.fa gf)] : List Value).toArray below meth c H locs 0 0 (MQ below (q_x_nextCandidate D ks ad kk V L Z  b gf A) ([.ref (ad 5), .ref (Z.fa gf)] : List Value).toArray s 0 0 A) (F0 m 13 ls []) := by
    intro fulp18
    induction fulp18 with
    | zero =>
      intro V17 H locs ls xlp18_0 xlp18_1 xlp18_2 xlp18_3 hn ajV17 hMV17 hP hD hS hl
      exfalso; (first | exact om_e2d570575604 xlp18_1.2 hn | omega)
    | succ fulp18 ihlp18 =>
      intro V17 H locs ls xlp18_0 xlp18_1 xlp18_2 xlp18_3 hn ajV17 hMV17 hP hD hS hl
      have agV17 : agr [] [75, 76] V V17 := agV.tr ajV17 (by decide) (by decide)
      have r19 : 0 ≤ ((V17 75 gf)).toInt ∧ ((V17 75 gf)).toInt ≤ 12 := hMV17 75 gf
      refine lv_aload_n hx hb dX5_nextCandidate_13 rfl (lv_at hl 2 rfl) ?_
      refine va_getN (D := D) (ci := 4) (v := .int (V17 75 gf)) (fs := (xfFrame V17 gf)) (C := RX4) (T := TX4) (N := 19) hx hb hg inX4 hown hK hP (336 + gf) (xgFrame hgf) rfl 8 (by decide) (hnw.use 1197 n1197 rfl) (fun _ h9 => h9) rfl dX5_nextCandidate_14 ?_
      refine lv_aload_n hx hb dX5_nextCandidate_17 rfl (lv_at hl 0 rfl) ?_
      refine va_getN (D := D) (ci := 3) (v := .int (V17 49 (24 * b + (Int32.toNatClampNeg (V 71 gf))))) (fs := (xfComp ad V17 (24 * b + (Int32.toNatClampNeg (V 71 gf))))) (C := RX3) (T := TX3) (N := 13) hx hb hg inX3 hown hK hP (72 + (24 * b + (Int32.toNatClampNeg (V 71 gf)))) (xgComp il16) rfl 4 (by decide) (hnw.use 514 n514 rfl) (fun _ h9 => h9) rfl dX5_nextCandidate_18 ?_
      refine g_top (v := (V 49 (24 * b + (Int32.toNatClampNeg (V 71 gf))))) (ajV17 49 (24 * b + (Int32.toNatClampNeg (V 71 gf))) rfl) ?_
      have r20 : 0 ≤ ((V 49 (24 * b + (Int32.toNatClampNeg (V 71 gf))))).toInt ∧ ((V 49 (24 * b + (Int32.toNatClampNeg (V 71 gf))))).toInt ≤ 8 := hMV 49 (24 * b + (Int32.toNatClampNeg (V 71 gf)))
      refine lv_icmp_ge (tgt := 123) hx hb dX5_nextCandidate_21 (by decide) (fun c21 => ?_) (fun c21 => ?_)
      · skip
        have f22 : ((V 49 (24 * b + (Int32.toNatClampNeg (V 71 gf))))).toInt ≤ ((V17 75 gf)).toInt := b_le rfl rfl c21
        refine lv_iconst (v := (-1)) hx hb dX5_nextCandidate_123 (by decide) ?_
        have me23 : ME V V17 gf := (ME.tr ME.rf xlp18_0)
        have pq24 : (V17 67 gf).toInt = ((V 67 gf)).toInt := congrArg Int32.toInt (ajV17 67 gf rfl)
        have pq25 : (V17 68 gf).toInt = ((V 68 gf)).toInt := congrArg Int32.toInt (ajV17 68 gf rfl)
        have pq26 : (V17 70 gf).toInt = ((V 70 gf)).toInt := congrArg Int32.toInt (ajV17 70 gf rfl)
        have pq27 : (V17 71 gf).toInt = ((V 71 gf)).toInt := congrArg Int32.toInt (ajV17 71 gf rfl)
        have pq28 : (V17 80 gf).toInt = ((V 80 gf)).toInt := congrArg Int32.toInt (ajV17 80 gf rfl)
        have pq29 : (V17 84 gf).toInt = ((V 84 gf)).toInt := congrArg Int32.toInt (ajV17 84 gf rfl)
        have pq30 : (V17 5 6).toInt = ((V 5 6)).toInt := congrArg Int32.toInt (ajV17 5 6 rfl)
        have pq31 : (V17 5 8).toInt = ((V 5 8)).toInt := congrArg Int32.toInt (ajV17 5 8 rfl)
        have pq32 : (V17 5 9).toInt = ((V 5 9)).toInt := congrArg Int32.toInt (ajV17 5 9 rfl)
        have pq33 : (V17 3 13).toInt = ((V 3 13)).toInt := congrArg Int32.toInt (ajV17 3 13 rfl)
        have pq34 : (V17 43 (5 * b + 2)).toInt = ((V 43 (5 * b + 2))).toInt := congrArg Int32.toInt (ajV17 43 (5 * b + 2) rfl)
        have pq35 : (V17 42 b).toInt = ((V 42 b)).toInt := congrArg Int32.toInt (ajV17 42 b rfl)
        have pq36 : (V17 41 b).toInt = ((V 41 b)).toInt := congrArg Int32.toInt (ajV17 41 b rfl)
        have mo37 : MO V17 Z b gf False False False := MO.ch mo me23 (ajV17 67 gf rfl) (ajV17 80 gf rfl) (fun _ => Or.inl (by omega)) (fun x h => FK.nx h (by omega) (by omega) (by omega) (by omega) (by omega) (by omega) (by omega) (by omega) (fun z => z.elim))
        exact W.iret (v := (-1)) hx hb hr (fun t ht hW => ⟨⟨(-1), (V17, L), rfl, ⟨hMV17, agV17, rfl, (by decide), (Imp.mk (fun hp => absurd hp (by decide))), mo37⟩, by rw [ht]; exact hP, va_K.moved hW.alike hK, hD⟩, hS.F ht⟩) hS.2.2 dX5_nextCandidate_124
      · skip
        have f38 : ((V17 75 gf)).toInt < ((V 49 (24 * b + (Int32.toNatClampNeg (V 71 gf))))).toInt := b_nle rfl rfl c21
        refine lv_aload_n hx hb dX5_nextCandidate_24 rfl (lv_at hl 0 rfl) ?_
        refine va_getN (D := D) (ci := 3) (v := .ref (ad (216 + (24 * b + (Int32.toNatClampNeg (V 71 gf)))))) (fs := (xfComp ad V17 (24 * b + (Int32.toNatClampNeg (V 71 gf))))) (C := RX3) (T := TX3) (N := 13) hx hb hg inX3 hown hK hP (72 + (24 * b + (Int32.toNatClampNeg (V 71 gf)))) (xgComp il16) rfl 2 (by decide) (hnw.use 506 n506 rfl) (fun _ h9 => h9) rfl dX5_nextCandidate_25 ?_
        refine lv_aload_n hx hb dX5_nextCandidate_28 rfl (lv_at hl 2 rfl) ?_
        refine va_getN (D := D) (ci := 4) (v := .int (V17 75 gf)) (fs := (xfFrame V17 gf)) (C := RX4) (T := TX4) (N := 19) hx hb hg inX4 hown hK hP (336 + gf) (xgFrame hgf) rfl 8 (by decide) (hnw.use 1197 n1197 rfl) (fun _ h9 => h9) rfl dX5_nextCandidate_29 ?_
        have il39 : (24 * b + (Int32.toNatClampNeg (V 71 gf))) < 48 := by first | exact om_31a61188bc78 hb2 r2.2 kc15 | first | omega | ((try (have i_mo := Imp.go mo (by omega))); omega)
        refine va_iald (D := D) (i := (V17 75 gf)) hx hb hK hP (216 + (24 * b + (Int32.toNatClampNeg (V 71 gf)))) (209 + (24 * b + (Int32.toNatClampNeg (V 71 gf)))) (xgneedKinds il39) (xtneedKinds il39) (i_in (a := ((V17 75 gf)).toInt) rfl (by first | omega | ((try (have i_mo := Imp.go mo (by omega))); omega))) dX5_nextCandidate_32 ?_
        have kc40 := i_clamp (x := (V17 75 gf)) rfl (by first | exact om_eafa9039069c r19.1 | first | omega | ((try (have i_mo := Imp.go mo (by omega))); omega))
        refine g_top (v := V17 60 (8 * (24 * b + (Int32.toNatClampNeg (V 71 gf))) + (Int32.toNatClampNeg (V17 75 gf)))) (if_pos (by first | omega | ((try (have i_mo := Imp.go mo (by omega))); omega))) ?_
        refine g_top (v := (V 60 (8 * (24 * b + (Int32.toNatClampNeg (V 71 gf))) + (Int32.toNatClampNeg (V17 75 gf))))) (ajV17 60 (8 * (24 * b + (Int32.toNatClampNeg (V 71 gf))) + (Int32.toNatClampNeg (V17 75 gf))) rfl) ?_
        refine lv_iconst (v := 1) hx hb dX5_nextCandidate_33 (by decide) ?_
        refine lv_icmp_ne (tgt := 41) hx hb dX5_nextCandidate_34 (by decide) (fun c41 => ?_) (fun c41 => ?_)
        · skip
          have f42 : ((V 60 (8 * (24 * b + (Int32.toNatClampNeg (V 71 gf))) + (Int32.toNatClampNeg (V17 75 gf))))).toInt ≠ 1 := b_neq rfl (by decide) c41
          refine lv_iconst (v := 0) hx hb dX5_nextCandidate_41 (by decide) ?_
          refine lv_istore_n (lv' := [(3, .int 0), (2, .ref (ad (72 + (24 * b + (Int32.toNatClampNeg (V 71 gf)))))), (0, .ref (ad 5)), (1, .ref (Z.fa gf))]) hx hb dX5_nextCandidate_42 rfl hl (by decide) rfl (fun ls hl => ?_)
          refine lv_iload_n hx hb dX5_nextCandidate_43 rfl (lv_at hl 0 rfl) ?_
          refine lv_if_eq (tgt := 51) hx hb dX5_nextCandidate_44 (by decide) (fun _ => ?_) (fun q => absurd (by decide) q)
          refine lv_aload_n hx hb dX5_nextCandidate_51 rfl (lv_at hl 2 rfl) ?_
          refine va_get (D := D) (ci := 5) (v := .ref (ad (38 + Int32.toNatClampNeg (V17 5 5)))) (fs := (xfMachine ad V17 L Z)) (C := RX5) (T := TX5) (N := 15) hx hb hg inX5 hown hK hP 5 xgMachine rfl 5 (by decide) (hg _ w672) (fun _ h9 => h9) rfl dX5_nextCandidate_52 ?_
          have pq43 : (V17 5 5).toInt = ((V 5 5)).toInt := congrArg Int32.toInt (ajV17 5 5 rfl)
          refine g_topv (v := .ref (ad (38 + b))) (rfP (by first | omega | ((try (have i_mo := Imp.go mo (by omega))); omega))) ?_
          refine lv_aload_n hx hb dX5_nextCandidate_55 rfl (lv_at hl 3 rfl) ?_
          refine va_getN (D := D) (ci := 4) (v := .int (V17 71 gf)) (fs := (xfFrame V17 gf)) (C := RX4) (T := TX4) (N := 19) hx hb hg inX4 hown hK hP (336 + gf) (xgFrame hgf) rfl 4 (by decide) (hnw.use 1193 n1193 rfl) (fun _ h9 => h9) rfl dX5_nextCandidate_56 ?_
          refine g_top (v := (V 71 gf)) (ajV17 71 gf rfl) ?_
          refine lv_aload_n hx hb dX5_nextCandidate_59 rfl (lv_at hl 3 rfl) ?_
          refine va_getN (D := D) (ci := 4) (v := .int (V17 75 gf)) (fs := (xfFrame V17 gf)) (C := RX4) (T := TX4) (N := 19) hx hb hg inX4 hown hK hP (336 + gf) (xgFrame hgf) rfl 8 (by decide) (hnw.use 1197 n1197 rfl) (fun _ h9 => h9) rfl dX5_nextCandidate_60 ?_
          refine gA_int (gA_runV (As := [.int (V 71 gf), .int (V17 75 gf)]) (rest := []) (ci := 0) (q0 := (38 + b)) hx hb hml hown hg hP hD hK hS hA hnw hgk (x_candidates2 l D ks H.size ad kk V17 L Z (V 71 gf) (V17 75 gf) (b) hMV17 (by first | exact om_4099399d7215 r2.2 kc15 | first | omega | ((try (have i_mo := Imp.go mo (by omega))); omega)) (by first | exact om_45aa31722d3e r19.1 r20.2 f38 | first | omega | ((try (have i_mo := Imp.go mo (by omega))); omega)) (show b < 2 from by first | exact om_f940a4667dd6 hb2 | first | omega | ((try (have i_mo := Imp.go mo (by omega))); omega))) w1374 w1082 w1083 w167 w1084 rfl (xgBook hb2) hdV_yX0_candidates ⟨Nat.le_of_ble_eq_true rfl, Nat.le_of_ble_eq_true rfl⟩ rfl hl.1 rfl (Nat.le_of_ble_eq_true rfl) dX5_nextCandidate_63 ⟨Nat.le_of_ble_eq_true rfl, Nat.le_of_ble_eq_true rfl⟩) hP hD hK hS hA (fun z44 u45 H locs w46 hP hD hK hS => ?_)
          have rgz44 := w46
          have rgz44 : 0 ≤ z44.toInt ∧ z44.toInt ≤ 16777215 := rgz44
          refine lv_istore (lv' := [(4, .int z44), (3, .int 0), (2, .ref (ad (72 + (24 * b + (Int32.toNatClampNeg (V 71 gf)))))), (0, .ref (ad 5)), (1, .ref (Z.fa gf))]) hx hb dX5_nextCandidate_66 hl (by decide) rfl (fun ls hl => ?_)
          refine lv_iload hx hb dX5_nextCandidate_68 (lv_at hl 0 rfl) ?_
          refine lv_aload_n hx hb dX5_nextCandidate_70 rfl (lv_at hl 4 rfl) ?_
          refine va_getN (D := D) (ci := 4) (v := .int (V17 76 gf)) (fs := (xfFrame V17 gf)) (C := RX4) (T := TX4) (N := 19) hx hb hg inX4 hown hK hP (336 + gf) (xgFrame hgf) rfl 9 (by decide) (hnw.use 1198 n1198 rfl) (fun _ h9 => h9) rfl dX5_nextCandidate_71 ?_
          refine lv_iushr hx hb dX5_nextCandidate_74 rfl ?_
          refine lv_topi (fun z47 ez47 => ?_)
          have hu24 : (V17 76 gf).toInt < 24 → 0 ≤ z47.toInt ∧ z47.toInt < ((2 ^ (24 - (V17 76 gf).toInt.toNat) : Nat) : Int) := fun h => ushr_24 ez47 (show 0 ≤ z44.toInt ∧ z44.toInt < 16777216 from by (first | exact om_3142f42e06e3 rgz44.1 rgz44.2 | omega)) ⟨by omega, h⟩
          have hu0 : 24 ≤ (V17 76 gf).toInt → z47.toInt = 0 := fun h => ushr_0 ez47 (show 0 ≤ z44.toInt ∧ z44.toInt < 16777216 from by (first | exact om_3142f42e06e3 rgz44.1 rgz44.2 | omega)) ⟨h, by omega⟩
          refine lv_istore (lv' := [(5, .int z47), (4, .int z44), (3, .int 0), (2, .ref (ad (72 + (24 * b + (Int32.toNatClampNeg (V 71 gf)))))), (0, .ref (ad 5)), (1, .ref (Z.fa gf))]) hx hb dX5_nextCandidate_75 hl (by decide) rfl (fun ls hl => ?_)
          refine lv_iload hx hb dX5_nextCandidate_77 (lv_at hl 0 rfl) ?_
          refine lv_if_eq (tgt := 105) hx hb dX5_nextCandidate_79 (by decide) (fun c48 => ?_) (fun c48 => ?_)
          · skip
            have f49 : z47.toInt = 0 := b_eq rfl (by decide) c48
            refine lv_aload_n hx hb dX5_nextCandidate_105 rfl (lv_at hl 5 rfl) ?_
            refine lv_dup hx hb dX5_nextCandidate_106 rfl ?_
            refine va_getN (D := D) (ci := 4) (v := .int (V17 75 gf)) (fs := (xfFrame V17 gf)) (C := RX4) (T := TX4) (N := 19) hx hb hg inX4 hown hK hP (336 + gf) (xgFrame hgf) rfl 8 (by decide) (hnw.use 1197 n1197 rfl) (fun _ h9 => h9) rfl dX5_nextCandidate_107 ?_
            refine lv_iconst (v := 1) hx hb dX5_nextCandidate_110 (by decide) ?_
            refine lv_iadd hx hb dX5_nextCandidate_111 ?_
            refine lv_topi (fun z50 ez50 => ?_)
            have hz50 : z50.toInt = ((V17 75 gf)).toInt + 1 := i_add ez50 rfl (by decide) (by (first | exact om_56ff1e099a1d r19.1 r20.2 f38 | omega))
            refine va_putN (D := D) (ci := 4) (v := .int z50) (ty := tyX4 8) (fs := (xfFrame V17 gf)) (C := RX4) (T := TX4) (N := 19) hx hb hg inX4 tyX4 tyX4_ok nmX4 hown hK hP hD hS (336 + gf) (xgFrame hgf) rfl 8 (by decide) (hnw.use 1197 n1197 rfl) (fun _ h9 => h9) rfl (tyX4_ok 8 (by decide)) rfl rfl (Nat.le_of_ble_eq_true rfl) dX5_nextCandidate_112 (fun H locs hP hD hS => ?_)
            obtain ⟨V51, hV51⟩ : ∃ z, z = up2 V17 75 gf z50 := ⟨_, rfl⟩
            have ew52 : (xw ad kk V17 L Z).set (336 + gf) ((Z.fa gf), .inr (4, (xfFrame V17 gf).set 8 (.int z50))) = xw ad kk V51 L Z := by rw [hV51]; exact xpFrame_position hgf
            have hP : va_P D vwCl (xw ad kk V51 L Z) H := by rw [← ew52]; exact hP
            have hD : va_D A (xw ad kk V51 L Z) := by rw [← ew52]; exact hD
            have hMV51 : rgd bX V51 := hMV17.put hV51 (show 0 ≤ z50.toInt ∧ z50.toInt ≤ 12 from by first | exact om_a43fe9ef6d7f r19.1 r20.2 f38 hz50 | first | omega | ((try (have i_mo := Imp.go mo (by omega))); omega))
            have agV51 : agr [] [75, 76] V V51 := agV17.up hV51 rfl
            refine lv_aload_n hx hb dX5_nextCandidate_115 rfl (lv_at hl 5 rfl) ?_
            refine lv_iconst (v := 0) hx hb dX5_nextCandidate_116 (by decide) ?_
            refine va_putN (D := D) (ci := 4) (v := .int 0) (ty := tyX4 9) (fs := (xfFrame V51 gf)) (C := RX4) (T := TX4) (N := 19) hx hb hg inX4 tyX4 tyX4_ok nmX4 hown hK hP hD hS (336 + gf) (xgFrame hgf) rfl 9 (by decide) (hnw.use 1198 n1198 rfl) (fun _ h9 => h9) rfl (tyX4_ok 9 (by decide)) rfl rfl (Nat.le_of_ble_eq_true rfl) dX5_nextCandidate_117 (fun H locs hP hD hS => ?_)
            obtain ⟨V53, hV53⟩ : ∃ z, z = up2 V51 76 gf 0 := ⟨_, rfl⟩
            have ew54 : (xw ad kk V51 L Z).set (336 + gf) ((Z.fa gf), .inr (4, (xfFrame V51 gf).set 9 (.int 0))) = xw ad kk V53 L Z := by rw [hV53]; exact xpFrame_item hgf
            have hP : va_P D vwCl (xw ad kk V53 L Z) H := by rw [← ew54]; exact hP
            have hD : va_D A (xw ad kk V53 L Z) := by rw [← ew54]; exact hD
            have hMV53 : rgd bX V53 := hMV51.put hV53 (i_full _)
            have agV53 : agr [] [75, 76] V V53 := agV51.up hV53 rfl
            refine lv_goto (tgt := 13) hx hb dX5_nextCandidate_120 (by decide) ?_
            have r55 : Int32.toInt 0 = 0 := by decide
            have pq56 : (V53 75 gf).toInt = z50.toInt := congrArg Int32.toInt ((up2_o hV53 (by decide)).trans (up2_s hV51))
            have pq57 : (V53 76 gf).toInt = 0 := (congrArg Int32.toInt (up2_s hV53)).trans (by decide)
            have me58 : ME V V53 gf := (ME.up (ME.up (ME.tr ME.rf xlp18_0) hV51 (Or.inl ⟨by decide, by decide, Nat.le_refl _⟩)) hV53 (Or.inl ⟨by decide, by decide, Nat.le_refl _⟩))
            exact ihlp18 V53 H locs ls me58 (show (V 75 gf).toInt ≤ (V53 75 gf).toInt ∧ (V53 75 gf).toInt ≤ 8 from by first | exact om_157c73f4d754 xlp18_1.1 r20.2 f38 hz50 pq56 | first | omega | ((try (have i_mo := Imp.go mo (by omega))); omega)) (show 0 ≤ (V53 76 gf).toInt ∧ (V53 76 gf).toInt ≤ 25 from by first | exact om_f0ec0da15ce4 pq57 | first | omega | ((try (have i_mo := Imp.go mo (by omega))); omega)) (show 25 * (8 - (V53 75 gf).toInt) - (V53 76 gf).toInt ≤ 25 * (8 - (V 75 gf).toInt) - (V 76 gf).toInt from by first | exact om_f4ecaeba4d96 xlp18_2.2 xlp18_3 hz50 pq56 pq57 | first | omega | ((try (have i_mo := Imp.go mo (by omega))); omega)) (by first | exact om_1e21532676d6 hn hz50 pq56 | first | omega | ((try (have i_mo := Imp.go mo (by omega))); omega)) (agr.up (agr.up (agr.tr agr.rf ajV17 (by decide) (by decide)) hV51 rfl) hV53 rfl) hMV53 hP hD hS (lv_sub hl [3, 4, 5] rfl)
          · skip
            have f59 : z47.toInt ≠ 0 := b_neq rfl (by decide) c48
            have hit : (V17 76 gf).toInt < 24 := by rcases Int.lt_or_le (V17 76 gf).toInt 24 with h | h; exact h; have q := hu0 h; omega
            have hz24 := hu24 hit
            refine lv_aload_n hx hb dX5_nextCandidate_82 rfl (lv_at hl 5 rfl) ?_
            refine va_getN (D := D) (ci := 4) (v := .int (V17 76 gf)) (fs := (xfFrame V17 gf)) (C := RX4) (T := TX4) (N := 19) hx hb hg inX4 hown hK hP (336 + gf) (xgFrame hgf) rfl 9 (by decide) (hnw.use 1198 n1198 rfl) (fun _ h9 => h9) rfl dX5_nextCandidate_83 ?_
            refine lv_iload hx hb dX5_nextCandidate_86 (lv_at hl 0 rfl) ?_
            refine gE_int (g_runS (As := [.int z47]) (rest := [.int (V17 76 gf)]) (wc := []) (tc := []) hx hb hml hown hg gw_self hP hD hK hS hA hnw hgk [] [] (by decide) rfl rfl (x_nTZ2 l D ks H.size z47 ) w1375 w1143 w175 w1144 hdS_yJ6_numberOfTrailingZeros_0f7a4 ⟨Nat.le_of_ble_eq_true rfl, Nat.le_of_ble_eq_true rfl⟩ rfl hl.1 rfl (Nat.le_of_ble_eq_true rfl) dX5_nextCandidate_88 ⟨Nat.le_of_ble_eq_true rfl, Nat.le_of_ble_eq_true rfl⟩) hP hD hK hS hA (fun z60 u61 H locs w62 hP hD hK hS => ?_)
            obtain ⟨rgz60, t63⟩ := w62
            have rgz60 : 0 ≤ z60.toInt ∧ z60.toInt ≤ 32 := rgz60
            have t63 : ∀ m : Nat, 0 < z47.toInt → z47.toInt < ((2 ^ m : Nat) : Int) → z60.toInt < (m : Int) := t63
            have hr24 := t63 (24 - (V17 76 gf).toInt.toNat) (by omega) hz24.2
            refine lv_iadd hx hb dX5_nextCandidate_91 ?_
            refine lv_topi (fun z64 ez64 => ?_)
            have hz64 : z64.toInt = ((V17 76 gf)).toInt + z60.toInt := i_add ez64 rfl rfl (by (first | exact om_7820ea5c7df8 xlp18_2.1 hit rgz60.1 rgz60.2 | omega))
            refine lv_istore (lv' := [(6, .int z64), (5, .int z47), (4, .int z44), (3, .int 0), (2, .ref (ad (72 + (24 * b + (Int32.toNatClampNeg (V 71 gf)))))), (0, .ref (ad 5)), (1, .ref (Z.fa gf))]) hx hb dX5_nextCandidate_92 hl (by decide) rfl (fun ls hl => ?_)
            refine lv_aload_n hx hb dX5_nextCandidate_94 rfl (lv_at hl 6 rfl) ?_
            refine lv_iload hx hb dX5_nextCandidate_95 (lv_at hl 0 rfl) ?_
            refine lv_iconst (v := 1) hx hb dX5_nextCandidate_97 (by decide) ?_
            refine lv_iadd hx hb dX5_nextCandidate_98 ?_
            refine lv_topi (fun z65 ez65 => ?_)
            have hz65 : z65.toInt = z64.toInt + 1 := i_add ez65 rfl (by decide) (by (first | exact om_2780df997877 xlp18_2.1 hit rgz60.1 rgz60.2 hz64 | omega))
            refine va_putN (D := D) (ci := 4) (v := .int z65) (ty := tyX4 9) (fs := (xfFrame V17 gf)) (C := RX4) (T := TX4) (N := 19) hx hb hg inX4 tyX4 tyX4_ok nmX4 hown hK hP hD hS (336 + gf) (xgFrame hgf) rfl 9 (by decide) (hnw.use 1198 n1198 rfl) (fun _ h9 => h9) rfl (tyX4_ok 9 (by decide)) rfl rfl (Nat.le_of_ble_eq_true rfl) dX5_nextCandidate_99 (fun H locs hP hD hS => ?_)
            obtain ⟨V66, hV66⟩ : ∃ z, z = up2 V17 76 gf z65 := ⟨_, rfl⟩
            have ew67 : (xw ad kk V17 L Z).set (336 + gf) ((Z.fa gf), .inr (4, (xfFrame V17 gf).set 9 (.int z65))) = xw ad kk V66 L Z := by rw [hV66]; exact xpFrame_item hgf
            have hP : va_P D vwCl (xw ad kk V66 L Z) H := by rw [← ew67]; exact hP
            have hD : va_D A (xw ad kk V66 L Z) := by rw [← ew67]; exact hD
            have hMV66 : rgd bX V66 := hMV17.put hV66 (i_full _)
            have agV66 : agr [] [75, 76] V V66 := agV17.up hV66 rfl
            refine lv_iload hx hb dX5_nextCandidate_102 (lv_at hl 0 rfl) ?_
            have me68 : ME V V66 gf := (ME.up (ME.tr ME.rf xlp18_0) hV66 (Or.inl ⟨by decide, by decide, Nat.le_refl _⟩))
            have pq69 : (V66 67 gf).toInt = ((V 67 gf)).toInt := congrArg Int32.toInt ((up2_o hV66 (by decide)).trans (ajV17 67 gf rfl))
            have pq70 : (V66 68 gf).toInt = ((V 68 gf)).toInt := congrArg Int32.toInt ((up2_o hV66 (by decide)).trans (ajV17 68 gf rfl))
            have pq71 : (V66 70 gf).toInt = ((V 70 gf)).toInt := congrArg Int32.toInt ((up2_o hV66 (by decide)).trans (ajV17 70 gf rfl))
            have pq72 : (V66 71 gf).toInt = ((V 71 gf)).toInt := congrArg Int32.toInt ((up2_o hV66 (by decide)).trans (ajV17 71 gf rfl))
            have pq73 : (V66 75 gf).toInt = ((V17 75 gf)).toInt := congrArg Int32.toInt (up2_o hV66 (by decide))
            have pq74 : (V66 76 gf).toInt = z65.toInt := congrArg Int32.toInt (up2_s hV66)
            have pq75 : (V66 80 gf).toInt = ((V 80 gf)).toInt := congrArg Int32.toInt ((up2_o hV66 (by decide)).trans (ajV17 80 gf rfl))
            have pq76 : (V66 84 gf).toInt = ((V 84 gf)).toInt := congrArg Int32.toInt ((up2_o hV66 (by decide)).trans (ajV17 84 gf rfl))
            have pq77 : (V66 5 6).toInt = ((V 5 6)).toInt := congrArg Int32.toInt ((up2_o hV66 (by decide)).trans (ajV17 5 6 rfl))
            have pq78 : (V66 5 8).toInt = ((V 5 8)).toInt := congrArg Int32.toInt ((up2_o hV66 (by decide)).trans (ajV17 5 8 rfl))
            have pq79 : (V66 5 9).toInt = ((V 5 9)).toInt := congrArg Int32.toInt ((up2_o hV66 (by decide)).trans (ajV17 5 9 rfl))
            have pq80 : (V66 3 13).toInt = ((V 3 13)).toInt := congrArg Int32.toInt ((up2_o hV66 (by decide)).trans (ajV17 3 13 rfl))
            have pq81 : (V66 43 (5 * b + 2)).toInt = ((V 43 (5 * b + 2))).toInt := congrArg Int32.toInt ((up2_o hV66 (by decide)).trans (ajV17 43 (5 * b + 2) rfl))
            have pq82 : (V66 42 b).toInt = ((V 42 b)).toInt := congrArg Int32.toInt ((up2_o hV66 (by decide)).trans (ajV17 42 b rfl))
            have pq83 : (V66 41 b).toInt = ((V 41 b)).toInt := congrArg Int32.toInt ((up2_o hV66 (by decide)).trans (ajV17 41 b rfl))
            have mo84 : MO V66 Z b gf True True True := MO.ch mo me68 ((up2_o hV66 (by decide)).trans (ajV17 67 gf rfl)) ((up2_o hV66 (by decide)).trans (ajV17 80 gf rfl)) (fun _ => Or.inl (by omega)) (fun x h => FK.nx h (by omega) (by omega) (by omega) (by omega) (by omega) (by omega) (by omega) (by omega) (fun _ => ⟨by omega, by omega⟩))
            have me85 : ME V V66 gf := (ME.up (ME.tr ME.rf xlp18_0) hV66 (Or.inl ⟨by decide, by decide, Nat.le_refl _⟩))
            have mo86 : MO V66 Z b gf False False False := MO.ch mo me85 ((up2_o hV66 (by decide)).trans (ajV17 67 gf rfl)) ((up2_o hV66 (by decide)).trans (ajV17 80 gf rfl)) (fun _ => Or.inl (by omega)) (fun x h => FK.nx h (by omega) (by omega) (by omega) (by omega) (by omega) (by omega) (by omega) (by omega) (fun z => z.elim))
            exact W.iret (v := z64) hx hb hr (fun t ht hW => ⟨⟨z64, (V66, L), rfl, ⟨hMV66, agV66, rfl, (show (-1) ≤ z64.toInt ∧ z64.toInt ≤ 23 from by first | omega | ((try (have i_mo := Imp.go mo (by omega))); omega)), (Imp.mk (fun _ => mo84)), mo86⟩, by rw [ht]; exact hP, va_K.moved hW.alike hK, hD⟩, hS.F ht⟩) hS.2.2 dX5_nextCandidate_104
        · skip
          have f87 : ((V 60 (8 * (24 * b + (Int32.toNatClampNeg (V 71 gf))) + (Int32.toNatClampNeg (V17 75 gf))))).toInt = 1 := b_eq rfl (by decide) c41
          refine lv_iconst (v := 1) hx hb dX5_nextCandidate_37 (by decide) ?_
          refine lv_goto (tgt := 42) hx hb dX5_nextCandidate_38 (by decide) ?_
          refine lv_istore_n (lv' := [(3, .int 1), (2, .ref (ad (72 + (24 * b + (Int32.toNatClampNeg (V 71 gf)))))), (0, .ref (ad 5)), (1, .ref (Z.fa gf))]) hx hb dX5_nextCandidate_42 rfl hl (by decide) rfl (fun ls hl => ?_)
          refine lv_iload_n hx hb dX5_nextCandidate_43 rfl (lv_at hl 0 rfl) ?_
          refine lv_if_eq (tgt := 51) hx hb dX5_nextCandidate_44 (by decide) (fun q => absurd q (by decide)) (fun _ => ?_)
          refine lv_iconst (v := 0) hx hb dX5_nextCandidate_47 (by decide) ?_
          refine lv_goto (tgt := 66) hx hb dX5_nextCandidate_48 (by decide) ?_
          refine lv_istore (lv' := [(4, .int 0), (3, .int 1), (2, .ref (ad (72 + (24 * b + (Int32.toNatClampNeg (V 71 gf)))))), (0, .ref (ad 5)), (1, .ref (Z.fa gf))]) hx hb dX5_nextCandidate_66 hl (by decide) rfl (fun ls hl => ?_)
          refine lv_iload hx hb dX5_nextCandidate_68 (lv_at hl 0 rfl) ?_
          refine lv_aload_n hx hb dX5_nextCandidate_70 rfl (lv_at hl 4 rfl) ?_
          refine va_getN (D := D) (ci := 4) (v := .int (V17 76 gf)) (fs := (xfFrame V17 gf)) (C := RX4) (T := TX4) (N := 19) hx hb hg inX4 hown hK hP (336 + gf) (xgFrame hgf) rfl 9 (by decide) (hnw.use 1198 n1198 rfl) (fun _ h9 => h9) rfl dX5_nextCandidate_71 ?_
          refine lv_iushr hx hb dX5_nextCandidate_74 rfl ?_
          refine lv_topi (fun z88 ez88 => ?_)
          have hu24 : (V17 76 gf).toInt < 24 → 0 ≤ z88.toInt ∧ z88.toInt < ((2 ^ (24 - (V17 76 gf).toInt.toNat) : Nat) : Int) := fun h => ushr_24 ez88 (show 0 ≤ Int32.toInt 0 ∧ Int32.toInt 0 < 16777216 from by decide) ⟨by omega, h⟩
          have hu0 : 24 ≤ (V17 76 gf).toInt → z88.toInt = 0 := fun h => ushr_0 ez88 (show 0 ≤ Int32.toInt 0 ∧ Int32.toInt 0 < 16777216 from by decide) ⟨h, by omega⟩
          refine lv_istore (lv' := [(5, .int z88), (4, .int 0), (3, .int 1), (2, .ref (ad (72 + (24 * b + (Int32.toNatClampNeg (V 71 gf)))))), (0, .ref (ad 5)), (1, .ref (Z.fa gf))]) hx hb dX5_nextCandidate_75 hl (by decide) rfl (fun ls hl => ?_)
          refine lv_iload hx hb dX5_nextCandidate_77 (lv_at hl 0 rfl) ?_
          refine lv_if_eq (tgt := 105) hx hb dX5_nextCandidate_79 (by decide) (fun c89 => ?_) (fun c89 => ?_)
          · skip
            have f90 : z88.toInt = 0 := b_eq rfl (by decide) c89
            refine lv_aload_n hx hb dX5_nextCandidate_105 rfl (lv_at hl 5 rfl) ?_
            refine lv_dup hx hb dX5_nextCandidate_106 rfl ?_
            refine va_getN (D := D) (ci := 4) (v := .int (V17 75 gf)) (fs := (xfFrame V17 gf)) (C := RX4) (T := TX4) (N := 19) hx hb hg inX4 hown hK hP (336 + gf) (xgFrame hgf) rfl 8 (by decide) (hnw.use 1197 n1197 rfl) (fun _ h9 => h9) rfl dX5_nextCandidate_107 ?_
            refine lv_iconst (v := 1) hx hb dX5_nextCandidate_110 (by decide) ?_
            refine lv_iadd hx hb dX5_nextCandidate_111 ?_
            refine lv_topi (fun z91 ez91 => ?_)
            have hz91 : z91.toInt = ((V17 75 gf)).toInt + 1 := i_add ez91 rfl (by decide) (by (first | exact om_56ff1e099a1d r19.1 r20.2 f38 | omega))
            refine va_putN (D := D) (ci := 4) (v := .int z91) (ty := tyX4 8) (fs := (xfFrame V17 gf)) (C := RX4) (T := TX4) (N := 19) hx hb hg inX4 tyX4 tyX4_ok nmX4 hown hK hP hD hS (336 + gf) (xgFrame hgf) rfl 8 (by decide) (hnw.use 1197 n1197 rfl) (fun _ h9 => h9) rfl (tyX4_ok 8 (by decide)) rfl rfl (Nat.le_of_ble_eq_true rfl) dX5_nextCandidate_112 (fun H locs hP hD hS => ?_)
            obtain ⟨V92, hV92⟩ : ∃ z, z = up2 V17 75 gf z91 := ⟨_, rfl⟩
            have ew93 : (xw ad kk V17 L Z).set (336 + gf) ((Z.fa gf), .inr (4, (xfFrame V17 gf).set 8 (.int z91))) = xw ad kk V92 L Z := by rw [hV92]; exact xpFrame_position hgf
            have hP : va_P D vwCl (xw ad kk V92 L Z) H := by rw [← ew93]; exact hP
            have hD : va_D A (xw ad kk V92 L Z) := by rw [← ew93]; exact hD
            have hMV92 : rgd bX V92 := hMV17.put hV92 (show 0 ≤ z91.toInt ∧ z91.toInt ≤ 12 from by first | exact om_a43fe9ef6d7f r19.1 r20.2 f38 hz91 | first | omega | ((try (have i_mo := Imp.go mo (by omega))); omega))
            have agV92 : agr [] [75, 76] V V92 := agV17.up hV92 rfl
            refine lv_aload_n hx hb dX5_nextCandidate_115 rfl (lv_at hl 5 rfl) ?_
            refine lv_iconst (v := 0) hx hb dX5_nextCandidate_116 (by decide) ?_
            refine va_putN (D := D) (ci := 4) (v := .int 0) (ty := tyX4 9) (fs := (xfFrame V92 gf)) (C := RX4) (T := TX4) (N := 19) hx hb hg inX4 tyX4 tyX4_ok nmX4 hown hK hP hD hS (336 + gf) (xgFrame hgf) rfl 9 (by decide) (hnw.use 1198 n1198 rfl) (fun _ h9 => h9) rfl (tyX4_ok 9 (by decide)) rfl rfl (Nat.le_of_ble_eq_true rfl) dX5_nextCandidate_117 (fun H locs hP hD hS => ?_)
            obtain ⟨V94, hV94⟩ : ∃ z, z = up2 V92 76 gf 0 := ⟨_, rfl⟩
            have ew95 : (xw ad kk V92 L Z).set (336 + gf) ((Z.fa gf), .inr (4, (xfFrame V92 gf).set 9 (.int 0))) = xw ad kk V94 L Z := by rw [hV94]; exact xpFrame_item hgf
            have hP : va_P D vwCl (xw ad kk V94 L Z) H := by rw [← ew95]; exact hP
            have hD : va_D A (xw ad kk V94 L Z) := by rw [← ew95]; exact hD
            have hMV94 : rgd bX V94 := hMV92.put hV94 (i_full _)
            have agV94 : agr [] [75, 76] V V94 := agV92.up hV94 rfl
            refine lv_goto (tgt := 13) hx hb dX5_nextCandidate_120 (by decide) ?_
            have r96 : Int32.toInt 0 = 0 := by decide
            have r97 : Int32.toInt 1 = 1 := by decide
            have pq98 : (V94 75 gf).toInt = z91.toInt := congrArg Int32.toInt ((up2_o hV94 (by decide)).trans (up2_s hV92))
            have pq99 : (V94 76 gf).toInt = 0 := (congrArg Int32.toInt (up2_s hV94)).trans (by decide)
            have me100 : ME V V94 gf := (ME.up (ME.up (ME.tr ME.rf xlp18_0) hV92 (Or.inl ⟨by decide, by decide, Nat.le_refl _⟩)) hV94 (Or.inl ⟨by decide, by decide, Nat.le_refl _⟩))
            exact ihlp18 V94 H locs ls me100 (show (V 75 gf).toInt ≤ (V94 75 gf).toInt ∧ (V94 75 gf).toInt ≤ 8 from by first | exact om_157c73f4d754 xlp18_1.1 r20.2 f38 hz91 pq98 | first | omega | ((try (have i_mo := Imp.go mo (by omega))); omega)) (show 0 ≤ (V94 76 gf).toInt ∧ (V94 76 gf).toInt ≤ 25 from by first | exact om_f0ec0da15ce4 pq99 | first | omega | ((try (have i_mo := Imp.go mo (by omega))); omega)) (show 25 * (8 - (V94 75 gf).toInt) - (V94 76 gf).toInt ≤ 25 * (8 - (V 75 gf).toInt) - (V 76 gf).toInt from by first | exact om_f4ecaeba4d96 xlp18_2.2 xlp18_3 hz91 pq98 pq99 | first | omega | ((try (have i_mo := Imp.go mo (by omega))); omega)) (by first | exact om_1e21532676d6 hn hz91 pq98 | first | omega | ((try (have i_mo := Imp.go mo (by omega))); omega)) (agr.up (agr.up (agr.tr agr.rf ajV17 (by decide) (by decide)) hV92 rfl) hV94 rfl) hMV94 hP hD hS (lv_sub hl [3, 4, 5] rfl)
          · skip
            have f101 : z88.toInt ≠ 0 := b_neq rfl (by decide) c89
            have hit : (V17 76 gf).toInt < 24 := by rcases Int.lt_or_le (V17 76 gf).toInt 24 with h | h; exact h; have q := hu0 h; omega
            have hz24 := hu24 hit
            refine lv_aload_n hx hb dX5_nextCandidate_82 rfl (lv_at hl 5 rfl) ?_
            refine va_getN (D := D) (ci := 4) (v := .int (V17 76 gf)) (fs := (xfFrame V17 gf)) (C := RX4) (T := TX4) (N := 19) hx hb hg inX4 hown hK hP (336 + gf) (xgFrame hgf) rfl 9 (by decide) (hnw.use 1198 n1198 rfl) (fun _ h9 => h9) rfl dX5_nextCandidate_83 ?_
            refine lv_iload hx hb dX5_nextCandidate_86 (lv_at hl 0 rfl) ?_
            refine gE_int (g_runS (As := [.int z88]) (rest := [.int (V17 76 gf)]) (wc := []) (tc := []) hx hb hml hown hg gw_self hP hD hK hS hA hnw hgk [] [] (by decide) rfl rfl (x_nTZ2 l D ks H.size z88 ) w1375 w1143 w175 w1144 hdS_yJ6_numberOfTrailingZeros_0f7a4 ⟨Nat.le_of_ble_eq_true rfl, Nat.le_of_ble_eq_true rfl⟩ rfl hl.1 rfl (Nat.le_of_ble_eq_true rfl) dX5_nextCandidate_88 ⟨Nat.le_of_ble_eq_true rfl, Nat.le_of_ble_eq_true rfl⟩) hP hD hK hS hA (fun z102 u103 H locs w104 hP hD hK hS => ?_)
            obtain ⟨rgz102, t105⟩ := w104
            have rgz102 : 0 ≤ z102.toInt ∧ z102.toInt ≤ 32 := rgz102
            have t105 : ∀ m : Nat, 0 < z88.toInt → z88.toInt < ((2 ^ m : Nat) : Int) → z102.toInt < (m : Int) := t105
            have hr24 := t105 (24 - (V17 76 gf).toInt.toNat) (by omega) hz24.2
            refine lv_iadd hx hb dX5_nextCandidate_91 ?_
            refine lv_topi (fun z106 ez106 => ?_)
            have hz106 : z106.toInt = ((V17 76 gf)).toInt + z102.toInt := i_add ez106 rfl rfl (by (first | exact om_7820ea5c7df8 xlp18_2.1 hit rgz102.1 rgz102.2 | omega))
            refine lv_istore (lv' := [(6, .int z106), (5, .int z88), (4, .int 0), (3, .int 1), (2, .ref (ad (72 + (24 * b + (Int32.toNatClampNeg (V 71 gf)))))), (0, .ref (ad 5)), (1, .ref (Z.fa gf))]) hx hb dX5_nextCandidate_92 hl (by decide) rfl (fun ls hl => ?_)
            refine lv_aload_n hx hb dX5_nextCandidate_94 rfl (lv_at hl 6 rfl) ?_
            refine lv_iload hx hb dX5_nextCandidate_95 (lv_at hl 0 rfl) ?_
            refine lv_iconst (v := 1) hx hb dX5_nextCandidate_97 (by decide) ?_
            refine lv_iadd hx hb dX5_nextCandidate_98 ?_
            refine lv_topi (fun z107 ez107 => ?_)
            have hz107 : z107.toInt = z106.toInt + 1 := i_add ez107 rfl (by decide) (by (first | exact om_2780df997877 xlp18_2.1 hit rgz102.1 rgz102.2 hz106 | omega))
            refine va_putN (D := D) (ci := 4) (v := .int z107) (ty := tyX4 9) (fs := (xfFrame V17 gf)) (C := RX4) (T := TX4) (N := 19) hx hb hg inX4 tyX4 tyX4_ok nmX4 hown hK hP hD hS (336 + gf) (xgFrame hgf) rfl 9 (by decide) (hnw.use 1198 n1198 rfl) (fun _ h9 => h9) rfl (tyX4_ok 9 (by decide)) rfl rfl (Nat.le_of_ble_eq_true rfl) dX5_nextCandidate_99 (fun H locs hP hD hS => ?_)
            obtain ⟨V108, hV108⟩ : ∃ z, z = up2 V17 76 gf z107 := ⟨_, rfl⟩
            have ew109 : (xw ad kk V17 L Z).set (336 + gf) ((Z.fa gf), .inr (4, (xfFrame V17 gf).set 9 (.int z107))) = xw ad kk V108 L Z := by rw [hV108]; exact xpFrame_item hgf
            have hP : va_P D vwCl (xw ad kk V108 L Z) H := by rw [← ew109]; exact hP
            have hD : va_D A (xw ad kk V108 L Z) := by rw [← ew109]; exact hD
            have hMV108 : rgd bX V108 := hMV17.put hV108 (i_full _)
            have agV108 : agr [] [75, 76] V V108 := agV17.up hV108 rfl
            refine lv_iload hx hb dX5_nextCandidate_102 (lv_at hl 0 rfl) ?_
            have me110 : ME V V108 gf := (ME.up (ME.tr ME.rf xlp18_0) hV108 (Or.inl ⟨by decide, by decide, Nat.le_refl _⟩))
            have pq111 : (V108 67 gf).toInt = ((V 67 gf)).toInt := congrArg Int32.toInt ((up2_o hV108 (by decide)).trans (ajV17 67 gf rfl))
            have pq112 : (V108 68 gf).toInt = ((V 68 gf)).toInt := congrArg Int32.toInt ((up2_o hV108 (by decide)).trans (ajV17 68 gf rfl))
            have pq113 : (V108 70 gf).toInt = ((V 70 gf)).toInt := congrArg Int32.toInt ((up2_o hV108 (by decide)).trans (ajV17 70 gf rfl))
            have pq114 : (V108 71 gf).toInt = ((V 71 gf)).toInt := congrArg Int32.toInt ((up2_o hV108 (by decide)).trans (ajV17 71 gf rfl))
            have pq115 : (V108 75 gf).toInt = ((V17 75 gf)).toInt := congrArg Int32.toInt (up2_o hV108 (by decide))
            have pq116 : (V108 76 gf).toInt = z107.toInt := congrArg Int32.toInt (up2_s hV108)
            have pq117 : (V108 80 gf).toInt = ((V 80 gf)).toInt := congrArg Int32.toInt ((up2_o hV108 (by decide)).trans (ajV17 80 gf rfl))
            have pq118 : (V108 84 gf).toInt = ((V 84 gf)).toInt := congrArg Int32.toInt ((up2_o hV108 (by decide)).trans (ajV17 84 gf rfl))
            have pq119 : (V108 5 6).toInt = ((V 5 6)).toInt := congrArg Int32.toInt ((up2_o hV108 (by decide)).trans (ajV17 5 6 rfl))
            have pq120 : (V108 5 8).toInt = ((V 5 8)).toInt := congrArg Int32.toInt ((up2_o hV108 (by decide)).trans (ajV17 5 8 rfl))
            have pq121 : (V108 5 9).toInt = ((V 5 9)).toInt := congrArg Int32.toInt ((up2_o hV108 (by decide)).trans (ajV17 5 9 rfl))
            have pq122 : (V108 3 13).toInt = ((V 3 13)).toInt := congrArg Int32.toInt ((up2_o hV108 (by decide)).trans (ajV17 3 13 rfl))
            have pq123 : (V108 43 (5 * b + 2)).toInt = ((V 43 (5 * b + 2))).toInt := congrArg Int32.toInt ((up2_o hV108 (by decide)).trans (ajV17 43 (5 * b + 2) rfl))
            have pq124 : (V108 42 b).toInt = ((V 42 b)).toInt := congrArg Int32.toInt ((up2_o hV108 (by decide)).trans (ajV17 42 b rfl))
            have pq125 : (V108 41 b).toInt = ((V 41 b)).toInt := congrArg Int32.toInt ((up2_o hV108 (by decide)).trans (ajV17 41 b rfl))
            have mo126 : MO V108 Z b gf True True True := MO.ch mo me110 ((up2_o hV108 (by decide)).trans (ajV17 67 gf rfl)) ((up2_o hV108 (by decide)).trans (ajV17 80 gf rfl)) (fun _ => Or.inl (by omega)) (fun x h => FK.nx h (by omega) (by omega) (by omega) (by omega) (by omega) (by omega) (by omega) (by omega) (fun _ => ⟨by omega, by omega⟩))
            have me127 : ME V V108 gf := (ME.up (ME.tr ME.rf xlp18_0) hV108 (Or.inl ⟨by decide, by decide, Nat.le_refl _⟩))
            have mo128 : MO V108 Z b gf False False False := MO.ch mo me127 ((up2_o hV108 (by decide)).trans (ajV17 67 gf rfl)) ((up2_o hV108 (by decide)).trans (ajV17 80 gf rfl)) (fun _ => Or.inl (by omega)) (fun x h => FK.nx h (by omega) (by omega) (by omega) (by omega) (by omega) (by omega) (by omega) (by omega) (fun z => z.elim))
            exact W.iret (v := z106) hx hb hr (fun t ht hW => ⟨⟨z106, (V108, L), rfl, ⟨hMV108, agV108, rfl, (show (-1) ≤ z106.toInt ∧ z106.toInt ≤ 23 from by first | omega | ((try (have i_mo := Imp.go mo (by omega))); omega)), (Imp.mk (fun _ => mo126)), mo128⟩, by rw [ht]; exact hP, va_K.moved hW.alike hK, hD⟩, hS.F ht⟩) hS.2.2 dX5_nextCandidate_104
  have me129 : ME V V gf := ME.rf
  exact lp18 ((8 - (V 75 gf).toInt + 1 : Int).toNat) V H locs ls me129 (show (V 75 gf).toInt ≤ (V 75 gf).toInt ∧ (V 75 gf).toInt ≤ 8 from by first | omega | ((try (have i_mo := Imp.go mo (by omega))); omega)) (show 0 ≤ (V 76 gf).toInt ∧ (V 76 gf).toInt ≤ 25 from by first | omega | ((try (have i_mo := Imp.go mo (by omega))); omega)) (show 25 * (8 - (V 75 gf).toInt) - (V 76 gf).toInt ≤ 25 * (8 - (V 75 gf).toInt) - (V 76 gf).toInt from by first | exact om_1d32fe7c388b | first | omega | ((try (have i_mo := Imp.go mo (by omega))); omega)) (by first | exact om_a4cbf953e09c | first | omega | ((try (have i_mo := Imp.go mo (by omega))); omega)) agr.rf hMV hP hD hS (lv_sub hl [0, 1, 2] rfl)
abbrev r_x_goOnMaking (Z : XZ) : Room := { frames := 5, cells := zcc Z, slots := zss Z, locals := 121 }
abbrev q_x_goOnMaking (D : va_G) (ks : KS) (ad : Nat → Nat) (kk : Nat → ClassId) (V : Vf) (L : Lf) (Z : XZ) (b : Nat) (gf : Nat) (A : Nat → Prop) : Array Value → State → Outcome → State → Prop := qZv D (fun (u : Vf × Lf × XZ) => rgd bX u.1 ∧ agr [(3, 13), (3, 14), (3, 15), (5, 6), (5, 8), (5, 9), (5, 10), (5, 11), (5, 12), (5, 13), (5, 14)] [24, 25, 26, 27, 28, 29, 30, 31, 32, 40, 67, 68, 69, 70, 71, 72, 73, 74, 75, 76, 77, 78, 79, 80, 81, 82, 83, 84, 85] V u.1 ∧ u.2.1 = L ∧ ZL Z u.2.2 ∧ (MJ u.1 u.2.2 b)) (fun u => xw ad kk u.1 u.2.1 u.2.2) (fun u => xty kk u.2.2) (fun u => zcc Z - zcc u.2.2) (fun u => zss Z - zss u.2.2) A
set_option maxHeartbeats 4000000 in
set_option maxRecDepth 100000 in
theorem x_goOnMaking (l : Launch) (D : va_G) (ks : KS) (sz : Nat) (ad : Nat → Nat) (kk : Nat → ClassId) (V : Vf) (L : Lf) (Z : XZ) (b : Nat) (gf : Nat) (hMV : rgd bX V) (hb2 : b < 2) (hgf : gf < Z.nf) (mo : MO V Z b gf True (QN V b) (QN V b)) (gd : (gf : Int) + 1 = (V 5 6).toInt) (gk : (V 67 gf).toInt = 1)  : Met l yX5_goOnMaking (Cond.code yX5_goOnMaking cX5_goOnMaking 5 none :: GW) (r_x_goOnMaking Z) (va_Pc [.ref (ad 5), .ref (Z.fa gf)] (gp D ks (xw ad kk V L Z) (xty kk Z) sz)) (q_x_goOnMaking D ks ad kk V L Z  b gf (va_A (xw ad kk V L Z) sz)) (zcc Z) (zss Z) (va_A (xw ad kk V L Z) sz) := by
  refine g_met (q_x_goOnMaking D ks ad kk V L Z  b gf) (by decide) (Nat.le_of_ble_eq_true rfl) ?_
  intro p e s m below meth c A ls H locs hx hb hr hml hown hg hlocks hin hnw hgk hP hK hD hS hA hl
  have hown : s.vm.findClass RX5 = some m.cls := hown
  have hl : lv_has ls 5 [(0, .ref (ad 5)), (1, .ref (Z.fa gf))] := hl
  have hP : va_P D vwCl (xw ad kk V L Z) H := hP
  have hD : va_D A (xw ad kk V L Z) := hD
  have hK : va_K D vwCl (xty kk Z) s := hK
  have agV : agr [(3, 13), (3, 14), (3, 15), (5, 6), (5, 8), (5, 9), (5, 10), (5, 11), (5, 12), (5, 13), (5, 14)] [24, 25, 26, 27, 28, 29, 30, 31, 32, 40, 67, 68, 69, 70, 71, 72, 73, 74, 75, 76, 77, 78, 79, 80, 81, 82, 83, 84, 85] V V := agr.rf
  have zoZ : ZL Z Z := ZL.rf
  refine W.know (fun ka kb => ?_)
  refine W.tight (k := zcc Z - zcc Z) (n := zss Z - zss Z) (by omega) (by omega) ?_
  have r1 : 0 ≤ ((V 5 6)).toInt ∧ ((V 5 6)).toInt ≤ 400 := hMV 5 6
  have kdp := i_clamp (x := V 5 6) rfl (by (first | exact om_c66f1b494bd9 gd | omega))
  have hdn : (gf : Int) + 1 ≤ (Z.nf : Int) := by (first | exact om_29efded833ec hgf | omega)
  have mup := MO.up mo
  have msz := mup.1
  have mbk := mup.2.2.2.1
  obtain ⟨xk, fk⟩ := MO.fk mo
  have r2 : (-1) ≤ ((V 71 gf)).toInt ∧ ((V 71 gf)).toInt ≤ 23 := hMV 71 gf
  have r3 : 0 ≤ ((V 75 gf)).toInt ∧ ((V 75 gf)).toInt ≤ 12 := hMV 75 gf
  have r4 : 0 ≤ ((V 80 gf)).toInt ∧ ((V 80 gf)).toInt ≤ 300 := hMV 80 gf
  have r5 : 0 ≤ ((V 84 gf)).toInt ∧ ((V 84 gf)).toInt ≤ 2147483647 := hMV 84 gf
  have r6 : 0 ≤ ((V 5 8)).toInt ∧ ((V 5 8)).toInt ≤ 300 := hMV 5 8
  have r7 : 0 ≤ ((V 5 9)).toInt ∧ ((V 5 9)).toInt ≤ 3 := hMV 5 9
  have r8 : 0 ≤ ((V 3 13)).toInt ∧ ((V 3 13)).toInt ≤ 300 := hMV 3 13
  have r9 : 0 ≤ ((V 43 (5 * b + 2))).toInt ∧ ((V 43 (5 * b + 2))).toInt ≤ ((xcap (5 * b + 2) : Nat) : Int) := hMV 43 (5 * b + 2)
  have r10 : xcap (5 * b + 2) = 24 := xcap_2
  have r11 : 0 ≤ ((V 41 b)).toInt ∧ ((V 41 b)).toInt ≤ 12 := hMV 41 b
  have r12 : 0 ≤ ((V 42 b)).toInt ∧ ((V 42 b)).toInt ≤ 8200 := hMV 42 b
  have fc := fk.1 (by omega)
  have fo := fk.2.1 (by omega) (by omega)
  have fi := fk.2.2.2.2.1 (by omega)
  have mup0 := mup
  have fc0 := fc
  refine lv_aload_n hx hb dX5_goOnMaking_0 rfl (lv_at hl 1 rfl) ?_
  refine va_getN (D := D) (ci := 4) (v := .int (V 68 gf)) (fs := (xfFrame V gf)) (C := RX4) (T := TX4) (N := 19) hx hb hg inX4 hown hK hP (336 + gf) (xgFrame hgf) rfl 1 (by decide) (hnw.use 1190 n1190 rfl) (fun _ h9 => h9) rfl dX5_goOnMaking_1 ?_
  refine lv_iconst (v := 1) hx hb dX5_goOnMaking_4 (by decide) ?_
  refine lv_icmp_ne (tgt := 12) hx hb dX5_goOnMaking_5 (by decide) (fun c13 => ?_) (fun c13 => ?_)
  · skip
    have f14 : ((V 68 gf)).toInt ≠ 1 := b_neq rfl (by decide) c13
    refine lv_iconst (v := 0) hx hb dX5_goOnMaking_12 (by decide) ?_
    refine lv_istore_n (lv' := [(2, .int 0), (0, .ref (ad 5)), (1, .ref (Z.fa gf))]) hx hb dX5_goOnMaking_13 rfl hl (by decide) rfl (fun ls hl => ?_)
    refine lv_aload_n hx hb dX5_goOnMaking_14 rfl (lv_at hl 1 rfl) ?_
    refine va_get (D := D) (ci := 5) (v := .int (V 5 9)) (fs := (xfMachine ad V L Z)) (C := RX5) (T := TX5) (N := 15) hx hb hg inX5 hown hK hP 5 xgMachine rfl 9 (by decide) (hg _ w676) (fun _ h9 => h9) rfl dX5_goOnMaking_15 ?_
    refine lv_iconst (v := 2) hx hb dX5_goOnMaking_18 (by decide) ?_
    refine lv_icmp_eq (tgt := 30) hx hb dX5_goOnMaking_19 (by decide) (fun c15 => ?_) (fun c15 => ?_)
    · skip
      have f16 : ((V 5 9)).toInt = 2 := b_eq rfl (by decide) c15
      refine lv_aload_n hx hb dX5_goOnMaking_30 rfl (lv_at hl 1 rfl) ?_
      refine lv_dup hx hb dX5_goOnMaking_31 rfl ?_
      refine va_get (D := D) (ci := 5) (v := .int (V 5 11)) (fs := (xfMachine ad V L Z)) (C := RX5) (T := TX5) (N := 15) hx hb hg inX5 hown hK hP 5 xgMachine rfl 11 (by decide) (hg _ w678) (fun _ h9 => h9) rfl dX5_goOnMaking_32 ?_
      refine lv_iload_n hx hb dX5_goOnMaking_35 rfl (lv_at hl 0 rfl) ?_
      refine lv_if_eq (tgt := 43) hx hb dX5_goOnMaking_36 (by decide) (fun _ => ?_) (fun q => absurd (by decide) q)
      refine lv_iconst (v := 1) hx hb dX5_goOnMaking_43 (by decide) ?_
      refine lv_iadd hx hb dX5_goOnMaking_44 ?_
      have r17 := i_full (V 5 11)
      refine lv_topi (fun z18 ez18 => ?_)
      have hz18 : Imp (-2147483648 ≤ ((V 5 11)).toInt + 1 ∧ ((V 5 11)).toInt + 1 ≤ 2147483647) (z18.toInt = ((V 5 11)).toInt + 1) := Imp.mk (fun hp => i_add ez18 rfl (by decide) hp)
      refine va_put (D := D) (ci := 5) (v := .int z18) (ty := tyX5 11) (fs := (xfMachine ad V L Z)) (C := RX5) (T := TX5) (N := 15) hx hb hg inX5 tyX5 tyX5_ok nmX5 hown hK hP hD hS 5 xgMachine rfl 11 (by decide) (hg _ w678) (fun _ h9 => h9) rfl (tyX5_ok 11 (by decide)) rfl rfl (Nat.le_of_ble_eq_true rfl) dX5_goOnMaking_45 (fun H locs hP hD hS => ?_)
      obtain ⟨V19, hV19⟩ : ∃ z, z = up2 V 5 11 z18 := ⟨_, rfl⟩
      have ew20 : (xw ad kk V L Z).set 5 ((ad 5), .inr (5, (xfMachine ad V L Z).set 11 (.int z18))) = xw ad kk V19 L Z := by rw [hV19]; exact xw_ss (by decide) rfl (xb_si (by decide))
      have hP : va_P D vwCl (xw ad kk V19 L Z) H := by rw [← ew20]; exact hP
      have hD : va_D A (xw ad kk V19 L Z) := by rw [← ew20]; exact hD
      have hMV19 : rgd bX V19 := hMV.put hV19 (i_full _)
      have agV19 : agr [(3, 13), (3, 14), (3, 15), (5, 6), (5, 8), (5, 9), (5, 10), (5, 11), (5, 12), (5, 13), (5, 14)] [24, 25, 26, 27, 28, 29, 30, 31, 32, 40, 67, 68, 69, 70, 71, 72, 73, 74, 75, 76, 77, 78, 79, 80, 81, 82, 83, 84, 85] V V19 := agV.up hV19 rfl
      refine lv_aload_n hx hb dX5_goOnMaking_48 rfl (lv_at hl 1 rfl) ?_
      refine lv_aload_n hx hb dX5_goOnMaking_49 rfl (lv_at hl 2 rfl) ?_
      have pq21 : (V19 5 6).toInt = ((V 5 6)).toInt := congrArg Int32.toInt (up2_k hV19 (by decide))
      have pq22 : (V19 67 gf).toInt = ((V 67 gf)).toInt := congrArg Int32.toInt (up2_o hV19 (by decide))
      have me23 : ME V V19 gf := (ME.up ME.rf hV19 (Or.inr (by omega)))
      have pq24 : (V19 68 gf).toInt = ((V 68 gf)).toInt := congrArg Int32.toInt (up2_o hV19 (by decide))
      have pq25 : (V19 70 gf).toInt = ((V 70 gf)).toInt := congrArg Int32.toInt (up2_o hV19 (by decide))
      have pq26 : (V19 71 gf).toInt = ((V 71 gf)).toInt := congrArg Int32.toInt (up2_o hV19 (by decide))
      have pq27 : (V19 75 gf).toInt = ((V 75 gf)).toInt := congrArg Int32.toInt (up2_o hV19 (by decide))
      have pq28 : (V19 76 gf).toInt = ((V 76 gf)).toInt := congrArg Int32.toInt (up2_o hV19 (by decide))
      have pq29 : (V19 80 gf).toInt = ((V 80 gf)).toInt := congrArg Int32.toInt (up2_o hV19 (by decide))
      have pq30 : (V19 84 gf).toInt = ((V 84 gf)).toInt := congrArg Int32.toInt (up2_o hV19 (by decide))
      have pq31 : (V19 5 8).toInt = ((V 5 8)).toInt := congrArg Int32.toInt (up2_k hV19 (by decide))
      have pq32 : (V19 5 9).toInt = ((V 5 9)).toInt := congrArg Int32.toInt (up2_k hV19 (by decide))
      have pq33 : (V19 3 13).toInt = ((V 3 13)).toInt := congrArg Int32.toInt (up2_o hV19 (by decide))
      have pq34 : (V19 43 (5 * b + 2)).toInt = ((V 43 (5 * b + 2))).toInt := congrArg Int32.toInt (up2_o hV19 (by decide))
      have pq35 : (V19 42 b).toInt = ((V 42 b)).toInt := congrArg Int32.toInt (up2_o hV19 (by decide))
      have pq36 : (V19 41 b).toInt = ((V 41 b)).toInt := congrArg Int32.toInt (up2_o hV19 (by decide))
      have mo37 : MO V19 Z b gf False False False := MO.ch mo me23 (up2_o hV19 (by decide)) (up2_o hV19 (by decide)) (fun _ => Or.inl (by omega)) (fun x h => FK.s1 h (by omega) (by omega) (by omega) (by omega) (by omega) (fun z => z.elim))
      refine gA_void (gA_runV (As := [.ref (Z.fa gf)]) (rest := []) (ci := 5) (q0 := 5) hx hb hml hown hg hP hD hK hS hA hnw hgk (x_abandon2 l D ks H.size ad kk V19 L Z (b) (gf) hMV19 (show b < 2 from by first | exact om_f940a4667dd6 hb2 | first | omega | ((try (have i_hz18 := Imp.go hz18 (by omega))); omega)) (show gf < Z.nf from by first | exact om_8c5722e49bb1 hgf | first | omega | ((try (have i_hz18 := Imp.go hz18 (by omega))); omega)) mo37 (show (gf : Int) + 1 = (V19 5 6).toInt from by first | exact om_6e5bbaaa0e03 gd pq21 | first | omega | ((try (have i_hz18 := Imp.go hz18 (by omega))); omega)) (show (V19 67 gf).toInt = 1 from by first | exact om_ed616bc53b7b gk pq22 | first | omega | ((try (have i_hz18 := Imp.go hz18 (by omega))); omega))) w1332 w1334 w54 w171 w1335 rfl xgMachine hdV_yX5_abandon ⟨Nat.le_of_ble_eq_true rfl, Nat.le_of_ble_eq_true rfl⟩ rfl hl.1 rfl (Nat.le_of_ble_eq_true rfl) dX5_goOnMaking_50 ⟨z0, z0⟩) hP hD hK hS hA (fun u39 H locs w40 hP hD hK hS => ?_)
      obtain ⟨V42, L43⟩ := u39
      obtain ⟨hMV42, ajV42, axL43, t41⟩ := w40
      have axL43 : L = L43 := Eq.symm axL43
      subst axL43
      have hP : va_P D vwCl (xw ad kk V42 L Z) H := hP
      have hD : va_D A (xw ad kk V42 L Z) := hD
      have hMV42 : rgd bX V42 := hMV42
      have ajV42 : agr [(5, 6)] [24, 25, 28] V19 V42 := ajV42
      have agV42 : agr [(3, 13), (3, 14), (3, 15), (5, 6), (5, 8), (5, 9), (5, 10), (5, 11), (5, 12), (5, 13), (5, 14)] [24, 25, 26, 27, 28, 29, 30, 31, 32, 40, 67, 68, 69, 70, 71, 72, 73, 74, 75, 76, 77, 78, 79, 80, 81, 82, 83, 84, 85] V V42 := agV19.tr ajV42 (by decide) (by decide)
      have t41 : MJ V42 Z b := t41
      refine W.know (fun kr1 kr2 => ?_)
      refine W.widen (k := zcc Z) (n := zss Z) (Nat.sub_le _ _) (Nat.sub_le _ _) ?_
      exact W.vret hx hb hr (fun t ht hW => ⟨⟨(V42, L, Z), rfl, ⟨hMV42, agV42, rfl, zoZ, t41⟩, ⟨by rw [ht]; exact hP, va_K.moved hW.alike hK, hD⟩, by rw [ht]; exact kr1, by rw [ht]; exact kr2⟩, hS.F ht⟩) hS.2.2 dX5_goOnMaking_53
    · skip
      have f44 : ((V 5 9)).toInt ≠ 2 := b_neq rfl (by decide) c15
      refine lv_aload_n hx hb dX5_goOnMaking_22 rfl (lv_at hl 1 rfl) ?_
      refine va_get (D := D) (ci := 5) (v := .int (V 5 9)) (fs := (xfMachine ad V L Z)) (C := RX5) (T := TX5) (N := 15) hx hb hg inX5 hown hK hP 5 xgMachine rfl 9 (by decide) (hg _ w676) (fun _ h9 => h9) rfl dX5_goOnMaking_23 ?_
      refine lv_iconst (v := 3) hx hb dX5_goOnMaking_26 (by decide) ?_
      refine lv_icmp_ne (tgt := 54) hx hb dX5_goOnMaking_27 (by decide) (fun c45 => ?_) (fun c45 => ?_)
      · skip
        have f46 : ((V 5 9)).toInt ≠ 3 := b_neq rfl (by decide) c45
        refine lv_iload_n hx hb dX5_goOnMaking_54 rfl (lv_at hl 0 rfl) ?_
        refine lv_if_eq (tgt := 64) hx hb dX5_goOnMaking_55 (by decide) (fun _ => ?_) (fun q => absurd (by decide) q)
        refine lv_aload_n hx hb dX5_goOnMaking_64 rfl (lv_at hl 1 rfl) ?_
        refine va_get (D := D) (ci := 5) (v := .int (V 5 9)) (fs := (xfMachine ad V L Z)) (C := RX5) (T := TX5) (N := 15) hx hb hg inX5 hown hK hP 5 xgMachine rfl 9 (by decide) (hg _ w676) (fun _ h9 => h9) rfl dX5_goOnMaking_65 ?_
        refine lv_iconst (v := 1) hx hb dX5_goOnMaking_68 (by decide) ?_
        refine lv_icmp_ne (tgt := 91) hx hb dX5_goOnMaking_69 (by decide) (fun c47 => ?_) (fun c47 => ?_)
        · skip
          have f48 : ((V 5 9)).toInt ≠ 1 := b_neq rfl (by decide) c47
          have me49 : ME V V gf := ME.rf
          have mo50 : MO V Z b gf False False False := MO.ch mo me49 rfl rfl (fun _ => Or.inl (by omega)) (fun x h => FK.s1 h (by omega) (by omega) (by omega) (by omega) (by omega) (fun z => z.elim))
          have mup := MO.up mo50
          have msz := mup.1
          have mbk := mup.2.2.2.1
          obtain ⟨xk, fk⟩ := MO.fk mo50
          have fc := fk.1 (by omega)
          have fo := fk.2.1 (by omega) (by omega)
          have fi := fk.2.2.2.2.1 (by omega)
          refine lv_aload_n hx hb dX5_goOnMaking_91 rfl (lv_at hl 1 rfl) ?_
          refine lv_aload_n hx hb dX5_goOnMaking_92 rfl (lv_at hl 2 rfl) ?_
          refine gA_int (gA_runV (As := [.ref (Z.fa gf)]) (rest := []) (ci := 5) (q0 := 5) hx hb hml hown hg hP hD hK hS hA hnw hgk (x_nextCandidate l D ks H.size ad kk V L Z (b) (gf) hMV (show b < 2 from by (first | exact om_f940a4667dd6 hb2 | omega)) (show gf < Z.nf from by (first | exact om_8c5722e49bb1 hgf | omega)) mo50 (show (gf : Int) + 1 = (V 5 6).toInt from by (first | exact om_b7eb86266639 gd | omega)) (show (V 67 gf).toInt = 1 from by (first | exact om_710535a98d88 gk | omega)) (show (V 68 gf).toInt ≠ 1 from by omega)) w1370 w1372 w56 w171 w1373 rfl xgMachine hdV_yX5_nextCandidate ⟨Nat.le_of_ble_eq_true rfl, Nat.le_of_ble_eq_true rfl⟩ rfl hl.1 rfl (Nat.le_of_ble_eq_true rfl) dX5_goOnMaking_93 ⟨z0, z0⟩) hP hD hK hS hA (fun z51 u52 H locs w53 hP hD hK hS => ?_)
          obtain ⟨V56, L57⟩ := u52
          obtain ⟨hMV56, ajV56, axL57, rgz51, t54, t55⟩ := w53
          have axL57 : L = L57 := Eq.symm axL57
          subst axL57
          have hP : va_P D vwCl (xw ad kk V56 L Z) H := hP
          have hD : va_D A (xw ad kk V56 L Z) := hD
          have hMV56 : rgd bX V56 := hMV56
          have ajV56 : agr [] [75, 76] V V56 := ajV56
          have agV56 : agr [(3, 13), (3, 14), (3, 15), (5, 6), (5, 8), (5, 9), (5, 10), (5, 11), (5, 12), (5, 13), (5, 14)] [24, 25, 26, 27, 28, 29, 30, 31, 32, 40, 67, 68, 69, 70, 71, 72, 73, 74, 75, 76, 77, 78, 79, 80, 81, 82, 83, 84, 85] V V56 := agV.tr ajV56 (by decide) (by decide)
          have rgz51 : (-1) ≤ z51.toInt ∧ z51.toInt ≤ 23 := rgz51
          have t54 : Imp (0 ≤ z51.toInt) (MO V56 Z b gf True True True) := t54
          have t55 : MO V56 Z b gf False False False := t55
          refine lv_istore_n (lv' := [(3, .int z51), (2, .int 0), (0, .ref (ad 5)), (1, .ref (Z.fa gf))]) hx hb dX5_goOnMaking_96 rfl hl (by decide) rfl (fun ls hl => ?_)
          have mup := MO.up t55
          have msz := mup.1
          have mbk := mup.2.2.2.1
          obtain ⟨xk, fk⟩ := MO.fk t55
          have pq58 : (V56 67 gf).toInt = ((V 67 gf)).toInt := congrArg Int32.toInt (ajV56 67 gf rfl)
          have pq59 : (V56 68 gf).toInt = ((V 68 gf)).toInt := congrArg Int32.toInt (ajV56 68 gf rfl)
          have pq60 : (V56 70 gf).toInt = ((V 70 gf)).toInt := congrArg Int32.toInt (ajV56 70 gf rfl)
          have pq61 : (V56 71 gf).toInt = ((V 71 gf)).toInt := congrArg Int32.toInt (ajV56 71 gf rfl)
          have r62 : 0 ≤ ((V56 75 gf)).toInt ∧ ((V56 75 gf)).toInt ≤ 12 := hMV56 75 gf
          have pq63 : (V56 80 gf).toInt = ((V 80 gf)).toInt := congrArg Int32.toInt (ajV56 80 gf rfl)
          have pq64 : (V56 84 gf).toInt = ((V 84 gf)).toInt := congrArg Int32.toInt (ajV56 84 gf rfl)
          have pq65 : (V56 5 6).toInt = ((V 5 6)).toInt := congrArg Int32.toInt (ajV56 5 6 rfl)
          have pq66 : (V56 5 8).toInt = ((V 5 8)).toInt := congrArg Int32.toInt (ajV56 5 8 rfl)
          have pq67 : (V56 5 9).toInt = ((V 5 9)).toInt := congrArg Int32.toInt (ajV56 5 9 rfl)
          have pq68 : (V56 3 13).toInt = ((V 3 13)).toInt := congrArg Int32.toInt (ajV56 3 13 rfl)
          have pq69 : (V56 43 (5 * b + 2)).toInt = ((V 43 (5 * b + 2))).toInt := congrArg Int32.toInt (ajV56 43 (5 * b + 2) rfl)
          have pq70 : (V56 41 b).toInt = ((V 41 b)).toInt := congrArg Int32.toInt (ajV56 41 b rfl)
          have pq71 : (V56 42 b).toInt = ((V 42 b)).toInt := congrArg Int32.toInt (ajV56 42 b rfl)
          have fc := fk.1 (by omega)
          have fo := fk.2.1 (by omega) (by omega)
          have fi := fk.2.2.2.2.1 (by omega)
          refine lv_aload_n hx hb dX5_goOnMaking_97 rfl (lv_at hl 2 rfl) ?_
          refine va_get (D := D) (ci := 5) (v := .ref (ad (38 + Int32.toNatClampNeg (V56 5 5)))) (fs := (xfMachine ad V56 L Z)) (C := RX5) (T := TX5) (N := 15) hx hb hg inX5 hown hK hP 5 xgMachine rfl 5 (by decide) (hg _ w672) (fun _ h9 => h9) rfl dX5_goOnMaking_98 ?_
          have pq72 : (V56 5 5).toInt = ((V 5 5)).toInt := congrArg Int32.toInt (ajV56 5 5 rfl)
          have r73 : 0 ≤ ((V 5 5)).toInt ∧ ((V 5 5)).toInt ≤ 1 := hMV 5 5
          refine g_topv (v := .ref (ad (38 + b))) (rfP (by omega)) ?_
          refine va_getN (D := D) (ci := 0) (v := .ref (ad (64 + b))) (fs := (xfBook ad V56 b)) (C := RX0) (T := TX0) (N := 13) hx hb hg inX0 hown hK hP (38 + b) (xgBook hb2) rfl 7 (by decide) (hnw.use 618 n618 rfl) (fun _ h9 => h9) rfl dX5_goOnMaking_101 ?_
          refine lv_aload_n hx hb dX5_goOnMaking_104 rfl (lv_at hl 3 rfl) ?_
          refine va_getN (D := D) (ci := 4) (v := .int (V56 71 gf)) (fs := (xfFrame V56 gf)) (C := RX4) (T := TX4) (N := 19) hx hb hg inX4 hown hK hP (336 + gf) (xgFrame hgf) rfl 4 (by decide) (hnw.use 1193 n1193 rfl) (fun _ h9 => h9) rfl dX5_goOnMaking_105 ?_
          refine g_top (v := (V 71 gf)) (ajV56 71 gf rfl) ?_
          have il74 : b < 2 := by (first | exact om_f940a4667dd6 hb2 | omega)
          refine va_aldq (D := D) (i := (V 71 gf)) hx hb hK hP (64 + b) (57 + b) (xgcomps il74) (xtcomps il74) (i_in (a := ((V 71 gf)).toInt) rfl (by omega)) dX5_goOnMaking_108 ?_
          have kc75 := i_clamp (x := (V 71 gf)) rfl (by omega)
          refine g_topv (v := .ref (ad (72 + (24 * b + (Int32.toNatClampNeg (V 71 gf)))))) (congrArg va_rf (if_pos (by omega))) ?_
          have il76 : (24 * b + (Int32.toNatClampNeg (V 71 gf))) < 48 := by (first | exact om_31a61188bc78 hb2 r2.2 kc75 | omega)
          refine va_getN (D := D) (ci := 3) (v := .int (V56 56 (24 * b + (Int32.toNatClampNeg (V 71 gf))))) (fs := (xfComp ad V56 (24 * b + (Int32.toNatClampNeg (V 71 gf))))) (C := RX3) (T := TX3) (N := 13) hx hb hg inX3 hown hK hP (72 + (24 * b + (Int32.toNatClampNeg (V 71 gf)))) (xgComp il76) rfl 11 (by decide) (hnw.use 539 n539 rfl) (fun _ h9 => h9) rfl dX5_goOnMaking_109 ?_
          refine g_top (v := (V 56 (24 * b + (Int32.toNatClampNeg (V 71 gf))))) (ajV56 56 (24 * b + (Int32.toNatClampNeg (V 71 gf))) rfl) ?_
          have r77 : (-1) ≤ ((V 56 (24 * b + (Int32.toNatClampNeg (V 71 gf))))).toInt ∧ ((V 56 (24 * b + (Int32.toNatClampNeg (V 71 gf))))).toInt ≤ 8200 := hMV 56 (24 * b + (Int32.toNatClampNeg (V 71 gf)))
          refine lv_istore (lv' := [(4, .int (V 56 (24 * b + (Int32.toNatClampNeg (V 71 gf))))), (3, .int z51), (2, .int 0), (0, .ref (ad 5)), (1, .ref (Z.fa gf))]) hx hb dX5_goOnMaking_112 hl (by decide) rfl (fun ls hl => ?_)
          refine lv_iload_n hx hb dX5_goOnMaking_114 rfl (lv_at hl 1 rfl) ?_
          refine lv_iconst (v := (-1)) hx hb dX5_goOnMaking_115 (by decide) ?_
          refine lv_icmp_eq (tgt := 135) hx hb dX5_goOnMaking_116 (by decide) (fun c78 => ?_) (fun c78 => ?_)
          · skip
            have f79 : z51.toInt = (-1) := b_eq rfl (by decide) c78
            refine lv_iload hx hb dX5_goOnMaking_135 (lv_at hl 0 rfl) ?_
            refine lv_iconst (v := (-1)) hx hb dX5_goOnMaking_137 (by decide) ?_
            refine lv_icmp_eq (tgt := 158) hx hb dX5_goOnMaking_138 (by decide) (fun c80 => ?_) (fun c80 => ?_)
            · skip
              have f81 : ((V 56 (24 * b + (Int32.toNatClampNeg (V 71 gf))))).toInt = (-1) := b_eq rfl (by decide) c80
              refine lv_aload_n hx hb dX5_goOnMaking_158 rfl (lv_at hl 3 rfl) ?_
              refine lv_aload_n hx hb dX5_goOnMaking_159 rfl (lv_at hl 4 rfl) ?_
              refine gA_void (gA_runV (As := [.ref (Z.fa gf)]) (rest := []) (ci := 5) (q0 := 5) hx hb hml hown hg hP hD hK hS hA hnw hgk (x_finish2 l D ks H.size ad kk V56 L Z (b) (gf) hMV56 (show b < 2 from by (first | exact om_f940a4667dd6 hb2 | omega)) (show gf < Z.nf from by (first | exact om_8c5722e49bb1 hgf | omega)) t55 (show (gf : Int) + 1 = (V56 5 6).toInt from by (first | exact om_6e5bbaaa0e03 gd pq65 | omega)) (show (V56 67 gf).toInt = 1 from by (first | exact om_ed616bc53b7b gk pq58 | omega))) w1344 w1346 w55 w171 w1347 rfl xgMachine hdV_yX5_finish ⟨Nat.le_of_ble_eq_true rfl, Nat.le_of_ble_eq_true rfl⟩ rfl hl.1 rfl (Nat.le_of_ble_eq_true rfl) dX5_goOnMaking_160 ⟨z0, z0⟩) hP hD hK hS hA (fun u83 H locs w84 hP hD hK hS => ?_)
              obtain ⟨V86, L87⟩ := u83
              obtain ⟨hMV86, ajV86, axL87, t85⟩ := w84
              have axL87 : L = L87 := Eq.symm axL87
              subst axL87
              have hP : va_P D vwCl (xw ad kk V86 L Z) H := hP
              have hD : va_D A (xw ad kk V86 L Z) := hD
              have hMV86 : rgd bX V86 := hMV86
              have ajV86 : agr [(3, 14), (5, 6), (5, 8), (5, 9), (5, 10)] [28, 29, 40] V56 V86 := ajV86
              have agV86 : agr [(3, 13), (3, 14), (3, 15), (5, 6), (5, 8), (5, 9), (5, 10), (5, 11), (5, 12), (5, 13), (5, 14)] [24, 25, 26, 27, 28, 29, 30, 31, 32, 40, 67, 68, 69, 70, 71, 72, 73, 74, 75, 76, 77, 78, 79, 80, 81, 82, 83, 84, 85] V V86 := agV56.tr ajV86 (by decide) (by decide)
              have t85 : MJ V86 Z b := t85
              refine W.know (fun kr1 kr2 => ?_)
              refine W.widen (k := zcc Z) (n := zss Z) (Nat.sub_le _ _) (Nat.sub_le _ _) ?_
              exact W.vret hx hb hr (fun t ht hW => ⟨⟨(V86, L, Z), rfl, ⟨hMV86, agV86, rfl, zoZ, t85⟩, ⟨by rw [ht]; exact hP, va_K.moved hW.alike hK, hD⟩, by rw [ht]; exact kr1, by rw [ht]; exact kr2⟩, hS.F ht⟩) hS.2.2 dX5_goOnMaking_163
            · skip
              have f88 : ((V 56 (24 * b + (Int32.toNatClampNeg (V 71 gf))))).toInt ≠ (-1) := b_neq rfl (by decide) c80
              have kcc := i_clamp (x := V 71 gf) rfl (by (first | exact om_50dfdfbb9dc6 kc75 | omega))
              have htx := (mup.2.1.1 (Int32.toNatClampNeg (V 71 gf)) (by omega)).1
              rw [(ajV56 56 (24 * b + Int32.toNatClampNeg (V 71 gf)) rfl)] at htx
              have hgs := htx.resolve_left (by omega)
              refine lv_aload_n hx hb dX5_goOnMaking_141 rfl (lv_at hl 4 rfl) ?_
              refine lv_iconst (v := 1) hx hb dX5_goOnMaking_142 (by decide) ?_
              refine va_putN (D := D) (ci := 4) (v := .int 1) (ty := tyX4 1) (fs := (xfFrame V56 gf)) (C := RX4) (T := TX4) (N := 19) hx hb hg inX4 tyX4 tyX4_ok nmX4 hown hK hP hD hS (336 + gf) (xgFrame hgf) rfl 1 (by decide) (hnw.use 1190 n1190 rfl) (fun _ h9 => h9) rfl (tyX4_ok 1 (by decide)) rfl rfl (Nat.le_of_ble_eq_true rfl) dX5_goOnMaking_143 (fun H locs hP hD hS => ?_)
              obtain ⟨V89, hV89⟩ : ∃ z, z = up2 V56 68 gf 1 := ⟨_, rfl⟩
              have ew90 : (xw ad kk V56 L Z).set (336 + gf) ((Z.fa gf), .inr (4, (xfFrame V56 gf).set 1 (.int 1))) = xw ad kk V89 L Z := by rw [hV89]; exact xpFrame_phase hgf
              have hP : va_P D vwCl (xw ad kk V89 L Z) H := by rw [← ew90]; exact hP
              have hD : va_D A (xw ad kk V89 L Z) := by rw [← ew90]; exact hD
              have hMV89 : rgd bX V89 := hMV56.put hV89 (i_full _)
              have agV89 : agr [(3, 13), (3, 14), (3, 15), (5, 6), (5, 8), (5, 9), (5, 10), (5, 11), (5, 12), (5, 13), (5, 14)] [24, 25, 26, 27, 28, 29, 30, 31, 32, 40, 67, 68, 69, 70, 71, 72, 73, 74, 75, 76, 77, 78, 79, 80, 81, 82, 83, 84, 85] V V89 := agV56.up hV89 rfl
              refine lv_aload_n hx hb dX5_goOnMaking_146 rfl (lv_at hl 3 rfl) ?_
              refine lv_aload_n hx hb dX5_goOnMaking_147 rfl (lv_at hl 4 rfl) ?_
              refine lv_iload hx hb dX5_goOnMaking_148 (lv_at hl 0 rfl) ?_
              refine lv_iconst (v := 0) hx hb dX5_goOnMaking_150 (by decide) ?_
              have r91 : Int32.toInt 0 = 0 := by decide
              have pq92 : (V89 71 gf).toInt = ((V 71 gf)).toInt := congrArg Int32.toInt ((up2_o hV89 (by decide)).trans (ajV56 71 gf rfl))
              have pq93 : (V89 43 (5 * b + 2)).toInt = ((V 43 (5 * b + 2))).toInt := congrArg Int32.toInt ((up2_o hV89 (by decide)).trans (ajV56 43 (5 * b + 2) rfl))
              have pq94 : (V89 3 13).toInt = ((V 3 13)).toInt := congrArg Int32.toInt ((up2_o hV89 (by decide)).trans (ajV56 3 13 rfl))
              have pq95 : (V89 70 gf).toInt = ((V 70 gf)).toInt := congrArg Int32.toInt ((up2_o hV89 (by decide)).trans (ajV56 70 gf rfl))
              have me96 : ME V56 V89 gf := (ME.up ME.rf hV89 (Or.inl ⟨by decide, by decide, Nat.le_refl _⟩))
              have pq97 : (V89 67 gf).toInt = ((V 67 gf)).toInt := congrArg Int32.toInt ((up2_o hV89 (by decide)).trans (ajV56 67 gf rfl))
              have pq98 : (V89 68 gf).toInt = 1 := (congrArg Int32.toInt (up2_s hV89)).trans (by decide)
              have pq99 : (V89 75 gf).toInt = ((V56 75 gf)).toInt := congrArg Int32.toInt (up2_o hV89 (by decide))
              have pq100 : (V89 76 gf).toInt = ((V56 76 gf)).toInt := congrArg Int32.toInt (up2_o hV89 (by decide))
              have pq101 : (V89 80 gf).toInt = ((V 80 gf)).toInt := congrArg Int32.toInt ((up2_o hV89 (by decide)).trans (ajV56 80 gf rfl))
              have pq102 : (V89 84 gf).toInt = ((V 84 gf)).toInt := congrArg Int32.toInt ((up2_o hV89 (by decide)).trans (ajV56 84 gf rfl))
              have pq103 : (V89 5 6).toInt = ((V 5 6)).toInt := congrArg Int32.toInt ((up2_o hV89 (by decide)).trans (ajV56 5 6 rfl))
              have pq104 : (V89 5 8).toInt = ((V 5 8)).toInt := congrArg Int32.toInt ((up2_o hV89 (by decide)).trans (ajV56 5 8 rfl))
              have pq105 : (V89 5 9).toInt = ((V 5 9)).toInt := congrArg Int32.toInt ((up2_o hV89 (by decide)).trans (ajV56 5 9 rfl))
              have pq106 : (V89 42 b).toInt = ((V 42 b)).toInt := congrArg Int32.toInt ((up2_o hV89 (by decide)).trans (ajV56 42 b rfl))
              have pq107 : (V89 41 b).toInt = ((V 41 b)).toInt := congrArg Int32.toInt ((up2_o hV89 (by decide)).trans (ajV56 41 b rfl))
              have mo108 : MO V89 Z b gf True True True := MO.ch t55 me96 (up2_o hV89 (by decide)) (up2_o hV89 (by decide)) (fun _ => Or.inl (by omega)) (fun x h => FK.k1 (by omega) (by omega) (by omega) (by omega) (h.2.2.2.2.2.1 (by omega)).1 (fun hph => absurd hph (by omega)))
              have mt109 : MT V89 Z b := MO.mt mo108 (by (first | exact om_c09d41618ed8 hgf | omega)) (by (first | exact om_82fa09255765 gd pq103 | omega))
              have me110 : ME V56 V89 0 := (ME.up ME.rf hV89 (Or.inl ⟨by decide, by decide, by omega⟩))
              have ha111 : (V89 42 b).toInt ≤ ((V 56 (24 * b + (Int32.toNatClampNeg (V 71 gf))))).toInt ∨ (bdp V89 b (((V 56 (24 * b + (Int32.toNatClampNeg (V 71 gf))))).toInt).toNat).1 = true := by rw [me110.1.bd, me110.1 42 b (by decide) (by decide)]; exact gs.fk hgs (hMV56 42 b).2
              refine W.know (fun k113 k114 => ?_)
              obtain ⟨Hk112, hHk112⟩ : ∃ z, z = H := ⟨_, rfl⟩
              have k113 : Hk112.size ≤ s.heap.size + (zcc Z - zcc Z) := by rw [hHk112]; exact k113
              have k114 : tot Hk112 ≤ tot s.heap + (zss Z - zss Z) := by rw [hHk112]; exact k114
              refine gZ_ref (gA_runV (As := [.ref (Z.fa gf), .int (V 56 (24 * b + (Int32.toNatClampNeg (V 71 gf)))), .int 0]) (rest := []) (ci := 5) (q0 := 5) hx hb hml hown hg hP hD hK hS hA hnw hgk (x_pushWork l D ks H.size ad kk V89 L Z (V 56 (24 * b + (Int32.toNatClampNeg (V 71 gf)))) 0 (b) (gf) hMV89 (by (first | exact om_986471d62c0d r77.1 r77.2 f88 | omega)) (show b < 2 from by (first | exact om_f940a4667dd6 hb2 | omega)) (show gf < Z.nf from by (first | exact om_8c5722e49bb1 hgf | omega)) mt109 (show 0 ≤ (V89 71 gf).toInt ∧ (V89 71 gf).toInt < (V89 43 (5 * b + 2)).toInt from by omega) (show 0 ≤ (V89 70 gf).toInt ∧ (V89 70 gf).toInt < (V89 3 13).toInt from by omega) ha111) w1376 w1378 w57 w171 w1379 rfl xgMachine hdV_yX5_pushWork ⟨Nat.le_of_ble_eq_true rfl, Nat.le_of_ble_eq_true rfl⟩ rfl hl.1 rfl (Nat.le_of_ble_eq_true rfl) dX5_goOnMaking_151 ⟨z1 zoZ.1, z1 zoZ.2.1⟩) hD hS hA (fun u116 H locs w117 hP hD hK hS y118 y119 => ?_)
              obtain ⟨V120, L121, Z122, f123⟩ := u116
              obtain ⟨hMV120, ajV120, axL121, zlZ122, ilf123, t124, t125, t126, t127⟩ := w117
              have axL121 : L = L121 := Eq.symm axL121
              subst axL121
              have hP : va_P D vwCl (xw ad kk V120 L Z122) H := hP
              have hD : va_D A (xw ad kk V120 L Z122) := hD
              have hK : va_K D vwCl (xty kk Z122) s := hK
              have hMV120 : rgd bX V120 := hMV120
              have ajV120 : agr [(5, 6), (5, 9)] [67, 68, 69, 70, 71, 72, 73, 74, 75, 76, 77, 78, 79, 80, 81, 82, 83, 84, 85] V89 V120 := ajV120
              have agV120 : agr [(3, 13), (3, 14), (3, 15), (5, 6), (5, 8), (5, 9), (5, 10), (5, 11), (5, 12), (5, 13), (5, 14)] [24, 25, 26, 27, 28, 29, 30, 31, 32, 40, 67, 68, 69, 70, 71, 72, 73, 74, 75, 76, 77, 78, 79, 80, 81, 82, 83, 84, 85] V V120 := agV89.tr ajV120 (by decide) (by decide)
              have zlZ122 : ZL Z Z122 := zlZ122
              have zoZ122 : ZL Z Z122 := ZL.tr zoZ zlZ122
              have ziZ122 := zlZ122.1
              have zjZ122 := zlZ122.2.1
              have zkZ122 := zlZ122.2.2.1
              have zmZ122 := zoZ122.1
              have znZ122 := zoZ122.2.1
              have zpZ_Z122 := zoZ.1
              have zqZ_Z122 := zoZ.2.1
              have y118 : H.size ≤ Hk112.size + (zcc Z - zcc Z122) := by rw [hHk112]; exact y118
              have y119 : tot H ≤ tot Hk112 + (zss Z - zss Z122) := by rw [hHk112]; exact y119
              refine W.tight (k := zcc Z - zcc Z122) (n := zss Z - zss Z122) (by first | exact tg9 y118 k113 zlZ122.1 zoZ.1 | omega) (by first | exact tg9 y119 k114 zlZ122.2.1 zoZ.2.1 | omega) ?_
              have hl : lv_has ls 5 [(4, .int (V 56 (24 * b + (Int32.toNatClampNeg (V 71 gf))))), (3, .int z51), (2, .int 0), (0, .ref (ad 5)), (1, .ref (Z122.fa gf))] := by rw [zlZ122.2.2.2.2 gf hgf]; exact hl
              have ilf123 : f123 < Z122.nf := ilf123
              have t124 : MJ V120 Z122 b := t124
              have t125 : (f123 : Int) + 1 = (V120 5 6).toInt := t125
              have t126 : (V120 67 f123).toInt = 4 ∧ (V120 68 f123).toInt = 0 := t126
              have t127 : (V120 5 9).toInt = 0 := t127
              have r128 : 0 ≤ ((V120 5 6)).toInt ∧ ((V120 5 6)).toInt ≤ 400 := hMV120 5 6
              have r129 : 0 ≤ ((V120 5 9)).toInt ∧ ((V120 5 9)).toInt ≤ 3 := hMV120 5 9
              refine lv_pop hx hb dX5_goOnMaking_154 rfl ?_
              refine lv_goto (tgt := 163) hx hb dX5_goOnMaking_155 (by decide) ?_
              refine W.know (fun kr1 kr2 => ?_)
              refine W.widen (k := zcc Z) (n := zss Z) (Nat.sub_le _ _) (Nat.sub_le _ _) ?_
              exact W.vret hx hb hr (fun t ht hW => ⟨⟨(V120, L, Z122), rfl, ⟨hMV120, agV120, rfl, zoZ122, t124⟩, ⟨by rw [ht]; exact hP, va_K.moved hW.alike hK, hD⟩, by rw [ht]; exact kr1, by rw [ht]; exact kr2⟩, hS.F ht⟩) hS.2.2 dX5_goOnMaking_163
          · skip
            have f130 : z51.toInt ≠ (-1) := b_neq rfl (by decide) c78
            have mow131 : MO V56 Z b gf True True False := MO.w (Imp.go t54 (by (first | exact om_e3b1d6ac9ce8 rgz51.1 f130 | omega))) id id False.elim
            refine lv_aload_n hx hb dX5_goOnMaking_119 rfl (lv_at hl 3 rfl) ?_
            refine lv_iload_n hx hb dX5_goOnMaking_120 rfl (lv_at hl 1 rfl) ?_
            refine lv_aload_n hx hb dX5_goOnMaking_121 rfl (lv_at hl 4 rfl) ?_
            refine va_getN (D := D) (ci := 4) (v := .int (V56 72 gf)) (fs := (xfFrame V56 gf)) (C := RX4) (T := TX4) (N := 19) hx hb hg inX4 hown hK hP (336 + gf) (xgFrame hgf) rfl 5 (by decide) (hnw.use 1194 n1194 rfl) (fun _ h9 => h9) rfl dX5_goOnMaking_122 ?_
            refine g_top (v := (V 72 gf)) (ajV56 72 gf rfl) ?_
            have r132 : 0 ≤ ((V 72 gf)).toInt ∧ ((V 72 gf)).toInt ≤ 39 := hMV 72 gf
            refine lv_aload_n hx hb dX5_goOnMaking_125 rfl (lv_at hl 4 rfl) ?_
            refine va_getN (D := D) (ci := 4) (v := .int (V56 69 gf)) (fs := (xfFrame V56 gf)) (C := RX4) (T := TX4) (N := 19) hx hb hg inX4 hown hK hP (336 + gf) (xgFrame hgf) rfl 2 (by decide) (hnw.use 1191 n1191 rfl) (fun _ h9 => h9) rfl dX5_goOnMaking_126 ?_
            refine g_top (v := (V 69 gf)) (ajV56 69 gf rfl) ?_
            have mt133 : MTw V56 Z b := MO.mtw mow131 (by (first | exact om_c09d41618ed8 hgf | omega)) (by (first | exact om_82fa09255765 gd pq65 | omega))
            refine W.know (fun k135 k136 => ?_)
            obtain ⟨Hk134, hHk134⟩ : ∃ z, z = H := ⟨_, rfl⟩
            have k135 : Hk134.size ≤ s.heap.size + (zcc Z - zcc Z) := by rw [hHk134]; exact k135
            have k136 : tot Hk134 ≤ tot s.heap + (zss Z - zss Z) := by rw [hHk134]; exact k136
            refine gZ_void (gA_runV (As := [.int z51, .int (V 72 gf), .int (V 69 gf)]) (rest := []) (ci := 5) (q0 := 5) hx hb hml hown hg hP hD hK hS hA hnw hgk (x_seek l D ks H.size ad kk V56 L Z z51 (V 72 gf) (V 69 gf) (b) hMV56 (by (first | exact om_5d2dd242fd3e rgz51.1 rgz51.2 f130 | omega)) (by (first | exact om_13ba01c174fe r132.1 r132.2 | omega)) (show b < 2 from by (first | exact om_f940a4667dd6 hb2 | omega)) mt133) w1256 w1258 w45 w171 w1259 rfl xgMachine hdV_yX5_seek ⟨Nat.le_of_ble_eq_true rfl, Nat.le_of_ble_eq_true rfl⟩ rfl hl.1 rfl (Nat.le_of_ble_eq_true rfl) dX5_goOnMaking_129 ⟨z1 zoZ.1, z1 zoZ.2.1⟩) hD hS hA (fun u138 H locs w139 hP hD hK hS y140 y141 => ?_)
            obtain ⟨V142, L143, Z144⟩ := u138
            obtain ⟨hMV142, ajV142, axL143, zlZ144, t146⟩ := w139
            have axL143 : L = L143 := Eq.symm axL143
            subst axL143
            have hP : va_P D vwCl (xw ad kk V142 L Z144) H := hP
            have hD : va_D A (xw ad kk V142 L Z144) := hD
            have hK : va_K D vwCl (xty kk Z144) s := hK
            have hMV142 : rgd bX V142 := hMV142
            have ajV142 : agr [(3, 13), (5, 6), (5, 9), (5, 10), (5, 11), (5, 12), (5, 13), (5, 14)] [25, 26, 27, 28, 30, 67, 68, 69, 70, 71, 72, 73, 74, 75, 76, 77, 78, 79, 80, 81, 82, 83, 84, 85] V56 V142 := ajV142
            have agV142 : agr [(3, 13), (3, 14), (3, 15), (5, 6), (5, 8), (5, 9), (5, 10), (5, 11), (5, 12), (5, 13), (5, 14)] [24, 25, 26, 27, 28, 29, 30, 31, 32, 40, 67, 68, 69, 70, 71, 72, 73, 74, 75, 76, 77, 78, 79, 80, 81, 82, 83, 84, 85] V V142 := agV56.tr ajV142 (by decide) (by decide)
            have zlZ144 : ZL Z Z144 := zlZ144
            have zoZ144 : ZL Z Z144 := ZL.tr zoZ zlZ144
            have ziZ144 := zlZ144.1
            have zjZ144 := zlZ144.2.1
            have zkZ144 := zlZ144.2.2.1
            have zmZ144 := zoZ144.1
            have znZ144 := zoZ144.2.1
            have zpZ_Z144 := zoZ.1
            have zqZ_Z144 := zoZ.2.1
            have y140 : H.size ≤ Hk134.size + (zcc Z - zcc Z144) := by rw [hHk134]; exact y140
            have y141 : tot H ≤ tot Hk134 + (zss Z - zss Z144) := by rw [hHk134]; exact y141
            refine W.tight (k := zcc Z - zcc Z144) (n := zss Z - zss Z144) (by first | exact tg9 y140 k135 zlZ144.1 zoZ.1 | omega) (by first | exact tg9 y141 k136 zlZ144.2.1 zoZ.2.1 | omega) ?_
            have hl : lv_has ls 5 [(4, .int (V 56 (24 * b + (Int32.toNatClampNeg (V 71 gf))))), (3, .int z51), (2, .int 0), (0, .ref (ad 5)), (1, .ref (Z144.fa gf))] := by rw [zlZ144.2.2.2.2 gf hgf]; exact hl
            have t146 : MJ V142 Z144 b := t146
            refine lv_goto (tgt := 163) hx hb dX5_goOnMaking_132 (by decide) ?_
            refine W.know (fun kr1 kr2 => ?_)
            refine W.widen (k := zcc Z) (n := zss Z) (Nat.sub_le _ _) (Nat.sub_le _ _) ?_
            exact W.vret hx hb hr (fun t ht hW => ⟨⟨(V142, L, Z144), rfl, ⟨hMV142, agV142, rfl, zoZ144, t146⟩, ⟨by rw [ht]; exact hP, va_K.moved hW.alike hK, hD⟩, by rw [ht]; exact kr1, by rw [ht]; exact kr2⟩, hS.F ht⟩) hS.2.2 dX5_goOnMaking_163
        · skip
          have f147 : ((V 5 9)).toInt = 1 := b_eq rfl (by decide) c47
          have f7 := ((fk.2.2.2.2.2.1 (by omega)).2 (by omega)).2 trivial
          refine lv_aload_n hx hb dX5_goOnMaking_72 rfl (lv_at hl 1 rfl) ?_
          refine va_get (D := D) (ci := 5) (v := .ref (ad 3)) (fs := (xfMachine ad V L Z)) (C := RX5) (T := TX5) (N := 15) hx hb hg inX5 hown hK hP 5 xgMachine rfl 0 (by decide) (hg _ w667) (fun _ h9 => h9) rfl dX5_goOnMaking_73 ?_
          refine lv_aload_n hx hb dX5_goOnMaking_76 rfl (lv_at hl 2 rfl) ?_
          refine va_getN (D := D) (ci := 4) (v := .int (V 70 gf)) (fs := (xfFrame V gf)) (C := RX4) (T := TX4) (N := 19) hx hb hg inX4 hown hK hP (336 + gf) (xgFrame hgf) rfl 3 (by decide) (hnw.use 1192 n1192 rfl) (fun _ h9 => h9) rfl dX5_goOnMaking_77 ?_
          refine lv_aload_n hx hb dX5_goOnMaking_80 rfl (lv_at hl 2 rfl) ?_
          refine va_getN (D := D) (ci := 4) (v := .int (V 75 gf)) (fs := (xfFrame V gf)) (C := RX4) (T := TX4) (N := 19) hx hb hg inX4 hown hK hP (336 + gf) (xgFrame hgf) rfl 8 (by decide) (hnw.use 1197 n1197 rfl) (fun _ h9 => h9) rfl dX5_goOnMaking_81 ?_
          refine lv_aload_n hx hb dX5_goOnMaking_84 rfl (lv_at hl 1 rfl) ?_
          refine va_get (D := D) (ci := 5) (v := .int (V 5 10)) (fs := (xfMachine ad V L Z)) (C := RX5) (T := TX5) (N := 15) hx hb hg inX5 hown hK hP 5 xgMachine rfl 10 (by decide) (hg _ w677) (fun _ h9 => h9) rfl dX5_goOnMaking_85 ?_
          have r148 : 0 ≤ ((V 3 15)).toInt ∧ ((V 3 15)).toInt ≤ 262144 := hMV 3 15
          refine W.know (fun k150 k151 => ?_)
          obtain ⟨Hk149, hHk149⟩ : ∃ z, z = H := ⟨_, rfl⟩
          have k150 : Hk149.size ≤ s.heap.size + (zcc Z - zcc Z) := by rw [hHk149]; exact k150
          have k151 : tot Hk149 ≤ tot s.heap + (zss Z - zss Z) := by rw [hHk149]; exact k151
          refine gZ_void (gA_runV (As := [.int (V 70 gf), .int (V 75 gf), .int (V 5 10)]) (rest := []) (ci := 8) (q0 := 3) hx hb hml hown hg hP hD hK hS hA hnw hgk (x_join l D ks H.size ad kk V L Z (V 70 gf) (V 75 gf) (V 5 10) hMV (by omega) (by omega) mup.2.2.2.2.1 mup.2.2.2.2.2.2.2.2.2 (show (V 3 15).toInt ≤ 250000 from by omega) (show ((V 70 gf)).toInt < (V 3 13).toInt from by omega)) w1352 w1353 w1354 w164 w1355 rfl xgStock hdV_yX8_join ⟨Nat.le_of_ble_eq_true rfl, Nat.le_of_ble_eq_true rfl⟩ rfl hl.1 rfl (Nat.le_of_ble_eq_true rfl) dX5_goOnMaking_88 ⟨z1 zoZ.1, z1 zoZ.2.1⟩) hD hS hA (fun u153 H locs w154 hP hD hK hS y155 y156 => ?_)
          obtain ⟨V157, L158, Z159⟩ := u153
          obtain ⟨hMV157, ajV157, axL158, zlZ159, t161⟩ := w154
          have axL158 : L = L158 := Eq.symm axL158
          subst axL158
          have hP : va_P D vwCl (xw ad kk V157 L Z159) H := hP
          have hD : va_D A (xw ad kk V157 L Z159) := hD
          have hK : va_K D vwCl (xty kk Z159) s := hK
          have hMV157 : rgd bX V157 := hMV157
          have ajV157 : agr [(3, 15)] [30, 31, 32] V V157 := ajV157
          have agV157 : agr [(3, 13), (3, 14), (3, 15), (5, 6), (5, 8), (5, 9), (5, 10), (5, 11), (5, 12), (5, 13), (5, 14)] [24, 25, 26, 27, 28, 29, 30, 31, 32, 40, 67, 68, 69, 70, 71, 72, 73, 74, 75, 76, 77, 78, 79, 80, 81, 82, 83, 84, 85] V V157 := agV.tr ajV157 (by decide) (by decide)
          have zlZ159 : ZL Z Z159 := zlZ159
          have zoZ159 : ZL Z Z159 := ZL.tr zoZ zlZ159
          have ziZ159 := zlZ159.1
          have zjZ159 := zlZ159.2.1
          have zkZ159 := zlZ159.2.2.1
          have zmZ159 := zoZ159.1
          have znZ159 := zoZ159.2.1
          have zpZ_Z159 := zoZ.1
          have zqZ_Z159 := zoZ.2.1
          have y155 : H.size ≤ Hk149.size + (zcc Z - zcc Z159) := by rw [hHk149]; exact y155
          have y156 : tot H ≤ tot Hk149 + (zss Z - zss Z159) := by rw [hHk149]; exact y156
          refine W.tight (k := zcc Z - zcc Z159) (n := zss Z - zss Z159) (by first | exact tg9 y155 k150 zlZ159.1 zoZ.1 | omega) (by first | exact tg9 y156 k151 zlZ159.2.1 zoZ.2.1 | omega) ?_
          have hl : lv_has ls 5 [(2, .int 0), (0, .ref (ad 5)), (1, .ref (Z159.fa gf))] := by rw [zlZ159.2.2.2.2 gf hgf]; exact hl
          have t161 : JN V V157 Z Z159 (8 * Int32.toNatClampNeg (V 70 gf) + Int32.toNatClampNeg (V 75 gf)) := t161
          have moj162 : MO V157 Z159 b gf False False False := MO.jn mo trivial (by (first | exact om_710535a98d88 gk | omega)) (by omega) t161
          have mup := MO.up moj162
          have msz := mup.1
          have mbk := mup.2.2.2.1
          obtain ⟨xk, fk⟩ := MO.fk moj162
          have pq163 : (V157 67 gf).toInt = ((V 67 gf)).toInt := congrArg Int32.toInt (ajV157 67 gf rfl)
          have pq164 : (V157 68 gf).toInt = ((V 68 gf)).toInt := congrArg Int32.toInt (ajV157 68 gf rfl)
          have pq165 : (V157 70 gf).toInt = ((V 70 gf)).toInt := congrArg Int32.toInt (ajV157 70 gf rfl)
          have pq166 : (V157 71 gf).toInt = ((V 71 gf)).toInt := congrArg Int32.toInt (ajV157 71 gf rfl)
          have pq167 : (V157 75 gf).toInt = ((V 75 gf)).toInt := congrArg Int32.toInt (ajV157 75 gf rfl)
          have pq168 : (V157 76 gf).toInt = ((V 76 gf)).toInt := congrArg Int32.toInt (ajV157 76 gf rfl)
          have pq169 : (V157 80 gf).toInt = ((V 80 gf)).toInt := congrArg Int32.toInt (ajV157 80 gf rfl)
          have pq170 : (V157 84 gf).toInt = ((V 84 gf)).toInt := congrArg Int32.toInt (ajV157 84 gf rfl)
          have pq171 : (V157 5 6).toInt = ((V 5 6)).toInt := congrArg Int32.toInt (ajV157 5 6 rfl)
          have pq172 : (V157 5 8).toInt = ((V 5 8)).toInt := congrArg Int32.toInt (ajV157 5 8 rfl)
          have pq173 : (V157 5 9).toInt = ((V 5 9)).toInt := congrArg Int32.toInt (ajV157 5 9 rfl)
          have pq174 : (V157 3 13).toInt = ((V 3 13)).toInt := congrArg Int32.toInt (ajV157 3 13 rfl)
          have pq175 : (V157 43 (5 * b + 2)).toInt = ((V 43 (5 * b + 2))).toInt := congrArg Int32.toInt (ajV157 43 (5 * b + 2) rfl)
          have pq176 : (V157 41 b).toInt = ((V 41 b)).toInt := congrArg Int32.toInt (ajV157 41 b rfl)
          have pq177 : (V157 42 b).toInt = ((V 42 b)).toInt := congrArg Int32.toInt (ajV157 42 b rfl)
          have fc := fk.1 (by omega)
          have fo := fk.2.1 (by omega) (by omega)
          have fi := fk.2.2.2.2.1 (by omega)
          refine lv_aload_n hx hb dX5_goOnMaking_91 rfl (lv_at hl 1 rfl) ?_
          refine lv_aload_n hx hb dX5_goOnMaking_92 rfl (lv_at hl 2 rfl) ?_
          refine gA_int (gA_runV (As := [.ref (Z159.fa gf)]) (rest := []) (ci := 5) (q0 := 5) hx hb hml hown hg hP hD hK hS hA hnw hgk (x_nextCandidate l D ks H.size ad kk V157 L Z159 (b) (gf) hMV157 (show b < 2 from by (first | exact om_f940a4667dd6 hb2 | omega)) (show gf < Z159.nf from by omega) moj162 (show (gf : Int) + 1 = (V157 5 6).toInt from by (first | exact om_6e5bbaaa0e03 gd pq171 | omega)) (show (V157 67 gf).toInt = 1 from by (first | exact om_ed616bc53b7b gk pq163 | omega)) (show (V157 68 gf).toInt ≠ 1 from by omega)) w1370 w1372 w56 w171 w1373 rfl xgMachine hdV_yX5_nextCandidate ⟨Nat.le_of_ble_eq_true rfl, Nat.le_of_ble_eq_true rfl⟩ rfl hl.1 rfl (Nat.le_of_ble_eq_true rfl) dX5_goOnMaking_93 ⟨z0, z0⟩) hP hD hK hS hA (fun z178 u179 H locs w180 hP hD hK hS => ?_)
          obtain ⟨V183, L184⟩ := u179
          obtain ⟨hMV183, ajV183, axL184, rgz178, t181, t182⟩ := w180
          have axL184 : L = L184 := Eq.symm axL184
          subst axL184
          have hP : va_P D vwCl (xw ad kk V183 L Z159) H := hP
          have hD : va_D A (xw ad kk V183 L Z159) := hD
          have hMV183 : rgd bX V183 := hMV183
          have ajV183 : agr [] [75, 76] V157 V183 := ajV183
          have agV183 : agr [(3, 13), (3, 14), (3, 15), (5, 6), (5, 8), (5, 9), (5, 10), (5, 11), (5, 12), (5, 13), (5, 14)] [24, 25, 26, 27, 28, 29, 30, 31, 32, 40, 67, 68, 69, 70, 71, 72, 73, 74, 75, 76, 77, 78, 79, 80, 81, 82, 83, 84, 85] V V183 := agV157.tr ajV183 (by decide) (by decide)
          have rgz178 : (-1) ≤ z178.toInt ∧ z178.toInt ≤ 23 := rgz178
          have t181 : Imp (0 ≤ z178.toInt) (MO V183 Z159 b gf True True True) := t181
          have t182 : MO V183 Z159 b gf False False False := t182
          refine lv_istore_n (lv' := [(3, .int z178), (2, .int 0), (0, .ref (ad 5)), (1, .ref (Z159.fa gf))]) hx hb dX5_goOnMaking_96 rfl hl (by decide) rfl (fun ls hl => ?_)
          have mup := MO.up t182
          have msz := mup.1
          have mbk := mup.2.2.2.1
          obtain ⟨xk, fk⟩ := MO.fk t182
          have pq185 : (V183 67 gf).toInt = ((V 67 gf)).toInt := congrArg Int32.toInt ((ajV183 67 gf rfl).trans (ajV157 67 gf rfl))
          have pq186 : (V183 68 gf).toInt = ((V 68 gf)).toInt := congrArg Int32.toInt ((ajV183 68 gf rfl).trans (ajV157 68 gf rfl))
          have pq187 : (V183 70 gf).toInt = ((V 70 gf)).toInt := congrArg Int32.toInt ((ajV183 70 gf rfl).trans (ajV157 70 gf rfl))
          have pq188 : (V183 71 gf).toInt = ((V 71 gf)).toInt := congrArg Int32.toInt ((ajV183 71 gf rfl).trans (ajV157 71 gf rfl))
          have r189 : 0 ≤ ((V183 75 gf)).toInt ∧ ((V183 75 gf)).toInt ≤ 12 := hMV183 75 gf
          have pq190 : (V183 80 gf).toInt = ((V 80 gf)).toInt := congrArg Int32.toInt ((ajV183 80 gf rfl).trans (ajV157 80 gf rfl))
          have pq191 : (V183 84 gf).toInt = ((V 84 gf)).toInt := congrArg Int32.toInt ((ajV183 84 gf rfl).trans (ajV157 84 gf rfl))
          have pq192 : (V183 5 6).toInt = ((V 5 6)).toInt := congrArg Int32.toInt ((ajV183 5 6 rfl).trans (ajV157 5 6 rfl))
          have pq193 : (V183 5 8).toInt = ((V 5 8)).toInt := congrArg Int32.toInt ((ajV183 5 8 rfl).trans (ajV157 5 8 rfl))
          have pq194 : (V183 5 9).toInt = ((V 5 9)).toInt := congrArg Int32.toInt ((ajV183 5 9 rfl).trans (ajV157 5 9 rfl))
          have pq195 : (V183 3 13).toInt = ((V 3 13)).toInt := congrArg Int32.toInt ((ajV183 3 13 rfl).trans (ajV157 3 13 rfl))
          have pq196 : (V183 43 (5 * b + 2)).toInt = ((V 43 (5 * b + 2))).toInt := congrArg Int32.toInt ((ajV183 43 (5 * b + 2) rfl).trans (ajV157 43 (5 * b + 2) rfl))
          have pq197 : (V183 41 b).toInt = ((V 41 b)).toInt := congrArg Int32.toInt ((ajV183 41 b rfl).trans (ajV157 41 b rfl))
          have pq198 : (V183 42 b).toInt = ((V 42 b)).toInt := congrArg Int32.toInt ((ajV183 42 b rfl).trans (ajV157 42 b rfl))
          have fc := fk.1 (by omega)
          have fo := fk.2.1 (by omega) (by omega)
          have fi := fk.2.2.2.2.1 (by omega)
          refine lv_aload_n hx hb dX5_goOnMaking_97 rfl (lv_at hl 2 rfl) ?_
          refine va_get (D := D) (ci := 5) (v := .ref (ad (38 + Int32.toNatClampNeg (V183 5 5)))) (fs := (xfMachine ad V183 L Z159)) (C := RX5) (T := TX5) (N := 15) hx hb hg inX5 hown hK hP 5 xgMachine rfl 5 (by decide) (hg _ w672) (fun _ h9 => h9) rfl dX5_goOnMaking_98 ?_
          have pq199 : (V183 5 5).toInt = ((V 5 5)).toInt := congrArg Int32.toInt ((ajV183 5 5 rfl).trans (ajV157 5 5 rfl))
          have r200 : 0 ≤ ((V 5 5)).toInt ∧ ((V 5 5)).toInt ≤ 1 := hMV 5 5
          refine g_topv (v := .ref (ad (38 + b))) (rfP (by omega)) ?_
          refine va_getN (D := D) (ci := 0) (v := .ref (ad (64 + b))) (fs := (xfBook ad V183 b)) (C := RX0) (T := TX0) (N := 13) hx hb hg inX0 hown hK hP (38 + b) (xgBook hb2) rfl 7 (by decide) (hnw.use 618 n618 rfl) (fun _ h9 => h9) rfl dX5_goOnMaking_101 ?_
          refine lv_aload_n hx hb dX5_goOnMaking_104 rfl (lv_at hl 3 rfl) ?_
          have il201 : gf < Z159.nf := by omega
          refine va_getN (D := D) (ci := 4) (v := .int (V183 71 gf)) (fs := (xfFrame V183 gf)) (C := RX4) (T := TX4) (N := 19) hx hb hg inX4 hown hK hP (336 + gf) (xgFrame il201) rfl 4 (by decide) (hnw.use 1193 n1193 rfl) (fun _ h9 => h9) rfl dX5_goOnMaking_105 ?_
          refine g_top (v := (V 71 gf)) ((ajV183 71 gf rfl).trans (ajV157 71 gf rfl)) ?_
          have il202 : b < 2 := by (first | exact om_f940a4667dd6 hb2 | omega)
          refine va_aldq (D := D) (i := (V 71 gf)) hx hb hK hP (64 + b) (57 + b) (xgcomps il202) (xtcomps il202) (i_in (a := ((V 71 gf)).toInt) rfl (by omega)) dX5_goOnMaking_108 ?_
          have kc203 := i_clamp (x := (V 71 gf)) rfl (by omega)
          refine g_topv (v := .ref (ad (72 + (24 * b + (Int32.toNatClampNeg (V 71 gf)))))) (congrArg va_rf (if_pos (by omega))) ?_
          have il204 : (24 * b + (Int32.toNatClampNeg (V 71 gf))) < 48 := by (first | exact om_31a61188bc78 hb2 r2.2 kc203 | omega)
          refine va_getN (D := D) (ci := 3) (v := .int (V183 56 (24 * b + (Int32.toNatClampNeg (V 71 gf))))) (fs := (xfComp ad V183 (24 * b + (Int32.toNatClampNeg (V 71 gf))))) (C := RX3) (T := TX3) (N := 13) hx hb hg inX3 hown hK hP (72 + (24 * b + (Int32.toNatClampNeg (V 71 gf)))) (xgComp il204) rfl 11 (by decide) (hnw.use 539 n539 rfl) (fun _ h9 => h9) rfl dX5_goOnMaking_109 ?_
          refine g_top (v := (V 56 (24 * b + (Int32.toNatClampNeg (V 71 gf))))) ((ajV183 56 (24 * b + (Int32.toNatClampNeg (V 71 gf))) rfl).trans (ajV157 56 (24 * b + (Int32.toNatClampNeg (V 71 gf))) rfl)) ?_
          have r205 : (-1) ≤ ((V 56 (24 * b + (Int32.toNatClampNeg (V 71 gf))))).toInt ∧ ((V 56 (24 * b + (Int32.toNatClampNeg (V 71 gf))))).toInt ≤ 8200 := hMV 56 (24 * b + (Int32.toNatClampNeg (V 71 gf)))
          refine lv_istore (lv' := [(4, .int (V 56 (24 * b + (Int32.toNatClampNeg (V 71 gf))))), (3, .int z178), (2, .int 0), (0, .ref (ad 5)), (1, .ref (Z159.fa gf))]) hx hb dX5_goOnMaking_112 hl (by decide) rfl (fun ls hl => ?_)
          refine lv_iload_n hx hb dX5_goOnMaking_114 rfl (lv_at hl 1 rfl) ?_
          refine lv_iconst (v := (-1)) hx hb dX5_goOnMaking_115 (by decide) ?_
          refine lv_icmp_eq (tgt := 135) hx hb dX5_goOnMaking_116 (by decide) (fun c206 => ?_) (fun c206 => ?_)
          · skip
            have f207 : z178.toInt = (-1) := b_eq rfl (by decide) c206
            refine lv_iload hx hb dX5_goOnMaking_135 (lv_at hl 0 rfl) ?_
            refine lv_iconst (v := (-1)) hx hb dX5_goOnMaking_137 (by decide) ?_
            refine lv_icmp_eq (tgt := 158) hx hb dX5_goOnMaking_138 (by decide) (fun c208 => ?_) (fun c208 => ?_)
            · skip
              have f209 : ((V 56 (24 * b + (Int32.toNatClampNeg (V 71 gf))))).toInt = (-1) := b_eq rfl (by decide) c208
              refine lv_aload_n hx hb dX5_goOnMaking_158 rfl (lv_at hl 3 rfl) ?_
              refine lv_aload_n hx hb dX5_goOnMaking_159 rfl (lv_at hl 4 rfl) ?_
              refine gA_void (gA_runV (As := [.ref (Z159.fa gf)]) (rest := []) (ci := 5) (q0 := 5) hx hb hml hown hg hP hD hK hS hA hnw hgk (x_finish2 l D ks H.size ad kk V183 L Z159 (b) (gf) hMV183 (show b < 2 from by (first | exact om_f940a4667dd6 hb2 | omega)) (show gf < Z159.nf from by (first | exact om_8c5722e49bb1 il201 | omega)) t182 (show (gf : Int) + 1 = (V183 5 6).toInt from by (first | exact om_6e5bbaaa0e03 gd pq192 | omega)) (show (V183 67 gf).toInt = 1 from by (first | exact om_ed616bc53b7b gk pq185 | omega))) w1344 w1346 w55 w171 w1347 rfl xgMachine hdV_yX5_finish ⟨Nat.le_of_ble_eq_true rfl, Nat.le_of_ble_eq_true rfl⟩ rfl hl.1 rfl (Nat.le_of_ble_eq_true rfl) dX5_goOnMaking_160 ⟨z0, z0⟩) hP hD hK hS hA (fun u211 H locs w212 hP hD hK hS => ?_)
              obtain ⟨V214, L215⟩ := u211
              obtain ⟨hMV214, ajV214, axL215, t213⟩ := w212
              have axL215 : L = L215 := Eq.symm axL215
              subst axL215
              have hP : va_P D vwCl (xw ad kk V214 L Z159) H := hP
              have hD : va_D A (xw ad kk V214 L Z159) := hD
              have hMV214 : rgd bX V214 := hMV214
              have ajV214 : agr [(3, 14), (5, 6), (5, 8), (5, 9), (5, 10)] [28, 29, 40] V183 V214 := ajV214
              have agV214 : agr [(3, 13), (3, 14), (3, 15), (5, 6), (5, 8), (5, 9), (5, 10), (5, 11), (5, 12), (5, 13), (5, 14)] [24, 25, 26, 27, 28, 29, 30, 31, 32, 40, 67, 68, 69, 70, 71, 72, 73, 74, 75, 76, 77, 78, 79, 80, 81, 82, 83, 84, 85] V V214 := agV183.tr ajV214 (by decide) (by decide)
              have t213 : MJ V214 Z159 b := t213
              refine W.know (fun kr1 kr2 => ?_)
              refine W.widen (k := zcc Z) (n := zss Z) (Nat.sub_le _ _) (Nat.sub_le _ _) ?_
              exact W.vret hx hb hr (fun t ht hW => ⟨⟨(V214, L, Z159), rfl, ⟨hMV214, agV214, rfl, zoZ159, t213⟩, ⟨by rw [ht]; exact hP, va_K.moved hW.alike hK, hD⟩, by rw [ht]; exact kr1, by rw [ht]; exact kr2⟩, hS.F ht⟩) hS.2.2 dX5_goOnMaking_163
            · skip
              have f216 : ((V 56 (24 * b + (Int32.toNatClampNeg (V 71 gf))))).toInt ≠ (-1) := b_neq rfl (by decide) c208
              have kcc := i_clamp (x := V 71 gf) rfl (by (first | exact om_50dfdfbb9dc6 kc203 | omega))
              have htx := (mup.2.1.1 (Int32.toNatClampNeg (V 71 gf)) (by omega)).1
              rw [((ajV183 56 (24 * b + Int32.toNatClampNeg (V 71 gf)) rfl).trans (ajV157 56 (24 * b + Int32.toNatClampNeg (V 71 gf)) rfl))] at htx
              have hgs := htx.resolve_left (by omega)
              refine lv_aload_n hx hb dX5_goOnMaking_141 rfl (lv_at hl 4 rfl) ?_
              refine lv_iconst (v := 1) hx hb dX5_goOnMaking_142 (by decide) ?_
              refine va_putN (D := D) (ci := 4) (v := .int 1) (ty := tyX4 1) (fs := (xfFrame V183 gf)) (C := RX4) (T := TX4) (N := 19) hx hb hg inX4 tyX4 tyX4_ok nmX4 hown hK hP hD hS (336 + gf) (xgFrame il201) rfl 1 (by decide) (hnw.use 1190 n1190 rfl) (fun _ h9 => h9) rfl (tyX4_ok 1 (by decide)) rfl rfl (Nat.le_of_ble_eq_true rfl) dX5_goOnMaking_143 (fun H locs hP hD hS => ?_)
              obtain ⟨V217, hV217⟩ : ∃ z, z = up2 V183 68 gf 1 := ⟨_, rfl⟩
              have ew218 : (xw ad kk V183 L Z159).set (336 + gf) ((Z159.fa gf), .inr (4, (xfFrame V183 gf).set 1 (.int 1))) = xw ad kk V217 L Z159 := by rw [hV217]; exact xpFrame_phase il201
              have hP : va_P D vwCl (xw ad kk V217 L Z159) H := by rw [← ew218]; exact hP
              have hD : va_D A (xw ad kk V217 L Z159) := by rw [← ew218]; exact hD
              have hMV217 : rgd bX V217 := hMV183.put hV217 (i_full _)
              have agV217 : agr [(3, 13), (3, 14), (3, 15), (5, 6), (5, 8), (5, 9), (5, 10), (5, 11), (5, 12), (5, 13), (5, 14)] [24, 25, 26, 27, 28, 29, 30, 31, 32, 40, 67, 68, 69, 70, 71, 72, 73, 74, 75, 76, 77, 78, 79, 80, 81, 82, 83, 84, 85] V V217 := agV183.up hV217 rfl
              refine lv_aload_n hx hb dX5_goOnMaking_146 rfl (lv_at hl 3 rfl) ?_
              refine lv_aload_n hx hb dX5_goOnMaking_147 rfl (lv_at hl 4 rfl) ?_
              refine lv_iload hx hb dX5_goOnMaking_148 (lv_at hl 0 rfl) ?_
              refine lv_iconst (v := 0) hx hb dX5_goOnMaking_150 (by decide) ?_
              have r219 : Int32.toInt 0 = 0 := by decide
              have pq220 : (V217 71 gf).toInt = ((V 71 gf)).toInt := congrArg Int32.toInt ((up2_o hV217 (by decide)).trans ((ajV183 71 gf rfl).trans (ajV157 71 gf rfl)))
              have pq221 : (V217 43 (5 * b + 2)).toInt = ((V 43 (5 * b + 2))).toInt := congrArg Int32.toInt ((up2_o hV217 (by decide)).trans ((ajV183 43 (5 * b + 2) rfl).trans (ajV157 43 (5 * b + 2) rfl)))
              have pq222 : (V217 3 13).toInt = ((V 3 13)).toInt := congrArg Int32.toInt ((up2_o hV217 (by decide)).trans ((ajV183 3 13 rfl).trans (ajV157 3 13 rfl)))
              have pq223 : (V217 70 gf).toInt = ((V 70 gf)).toInt := congrArg Int32.toInt ((up2_o hV217 (by decide)).trans ((ajV183 70 gf rfl).trans (ajV157 70 gf rfl)))
              have me224 : ME V183 V217 gf := (ME.up ME.rf hV217 (Or.inl ⟨by decide, by decide, Nat.le_refl _⟩))
              have pq225 : (V217 67 gf).toInt = ((V 67 gf)).toInt := congrArg Int32.toInt ((up2_o hV217 (by decide)).trans ((ajV183 67 gf rfl).trans (ajV157 67 gf rfl)))
              have pq226 : (V217 68 gf).toInt = 1 := (congrArg Int32.toInt (up2_s hV217)).trans (by decide)
              have pq227 : (V217 75 gf).toInt = ((V183 75 gf)).toInt := congrArg Int32.toInt (up2_o hV217 (by decide))
              have pq228 : (V217 76 gf).toInt = ((V183 76 gf)).toInt := congrArg Int32.toInt (up2_o hV217 (by decide))
              have pq229 : (V217 80 gf).toInt = ((V 80 gf)).toInt := congrArg Int32.toInt ((up2_o hV217 (by decide)).trans ((ajV183 80 gf rfl).trans (ajV157 80 gf rfl)))
              have pq230 : (V217 84 gf).toInt = ((V 84 gf)).toInt := congrArg Int32.toInt ((up2_o hV217 (by decide)).trans ((ajV183 84 gf rfl).trans (ajV157 84 gf rfl)))
              have pq231 : (V217 5 6).toInt = ((V 5 6)).toInt := congrArg Int32.toInt ((up2_o hV217 (by decide)).trans ((ajV183 5 6 rfl).trans (ajV157 5 6 rfl)))
              have pq232 : (V217 5 8).toInt = ((V 5 8)).toInt := congrArg Int32.toInt ((up2_o hV217 (by decide)).trans ((ajV183 5 8 rfl).trans (ajV157 5 8 rfl)))
              have pq233 : (V217 5 9).toInt = ((V 5 9)).toInt := congrArg Int32.toInt ((up2_o hV217 (by decide)).trans ((ajV183 5 9 rfl).trans (ajV157 5 9 rfl)))
              have pq234 : (V217 42 b).toInt = ((V 42 b)).toInt := congrArg Int32.toInt ((up2_o hV217 (by decide)).trans ((ajV183 42 b rfl).trans (ajV157 42 b rfl)))
              have pq235 : (V217 41 b).toInt = ((V 41 b)).toInt := congrArg Int32.toInt ((up2_o hV217 (by decide)).trans ((ajV183 41 b rfl).trans (ajV157 41 b rfl)))
              have mo236 : MO V217 Z159 b gf True True True := MO.ch t182 me224 (up2_o hV217 (by decide)) (up2_o hV217 (by decide)) (fun _ => Or.inl (by omega)) (fun x h => FK.k1 (by omega) (by omega) (by omega) (by omega) (h.2.2.2.2.2.1 (by omega)).1 (fun hph => absurd hph (by omega)))
              have mt237 : MT V217 Z159 b := MO.mt mo236 (by (first | exact om_c09d41618ed8 il201 | omega)) (by (first | exact om_82fa09255765 gd pq231 | omega))
              have me238 : ME V183 V217 0 := (ME.up ME.rf hV217 (Or.inl ⟨by decide, by decide, by omega⟩))
              have ha239 : (V217 42 b).toInt ≤ ((V 56 (24 * b + (Int32.toNatClampNeg (V 71 gf))))).toInt ∨ (bdp V217 b (((V 56 (24 * b + (Int32.toNatClampNeg (V 71 gf))))).toInt).toNat).1 = true := by rw [me238.1.bd, me238.1 42 b (by decide) (by decide)]; exact gs.fk hgs (hMV183 42 b).2
              refine W.know (fun k241 k242 => ?_)
              obtain ⟨Hk240, hHk240⟩ : ∃ z, z = H := ⟨_, rfl⟩
              have k241 : Hk240.size ≤ s.heap.size + (zcc Z - zcc Z159) := by rw [hHk240]; exact k241
              have k242 : tot Hk240 ≤ tot s.heap + (zss Z - zss Z159) := by rw [hHk240]; exact k242
              refine gZ_ref (gA_runV (As := [.ref (Z159.fa gf), .int (V 56 (24 * b + (Int32.toNatClampNeg (V 71 gf)))), .int 0]) (rest := []) (ci := 5) (q0 := 5) hx hb hml hown hg hP hD hK hS hA hnw hgk (x_pushWork l D ks H.size ad kk V217 L Z159 (V 56 (24 * b + (Int32.toNatClampNeg (V 71 gf)))) 0 (b) (gf) hMV217 (by (first | exact om_986471d62c0d r205.1 r205.2 f216 | omega)) (show b < 2 from by (first | exact om_f940a4667dd6 hb2 | omega)) (show gf < Z159.nf from by (first | exact om_8c5722e49bb1 il201 | omega)) mt237 (show 0 ≤ (V217 71 gf).toInt ∧ (V217 71 gf).toInt < (V217 43 (5 * b + 2)).toInt from by omega) (show 0 ≤ (V217 70 gf).toInt ∧ (V217 70 gf).toInt < (V217 3 13).toInt from by omega) ha239) w1376 w1378 w57 w171 w1379 rfl xgMachine hdV_yX5_pushWork ⟨Nat.le_of_ble_eq_true rfl, Nat.le_of_ble_eq_true rfl⟩ rfl hl.1 rfl (Nat.le_of_ble_eq_true rfl) dX5_goOnMaking_151 ⟨z1 zoZ159.1, z1 zoZ159.2.1⟩) hD hS hA (fun u244 H locs w245 hP hD hK hS y246 y247 => ?_)
              obtain ⟨V248, L249, Z250, f251⟩ := u244
              obtain ⟨hMV248, ajV248, axL249, zlZ250, ilf251, t252, t253, t254, t255⟩ := w245
              have axL249 : L = L249 := Eq.symm axL249
              subst axL249
              have hP : va_P D vwCl (xw ad kk V248 L Z250) H := hP
              have hD : va_D A (xw ad kk V248 L Z250) := hD
              have hK : va_K D vwCl (xty kk Z250) s := hK
              have hMV248 : rgd bX V248 := hMV248
              have ajV248 : agr [(5, 6), (5, 9)] [67, 68, 69, 70, 71, 72, 73, 74, 75, 76, 77, 78, 79, 80, 81, 82, 83, 84, 85] V217 V248 := ajV248
              have agV248 : agr [(3, 13), (3, 14), (3, 15), (5, 6), (5, 8), (5, 9), (5, 10), (5, 11), (5, 12), (5, 13), (5, 14)] [24, 25, 26, 27, 28, 29, 30, 31, 32, 40, 67, 68, 69, 70, 71, 72, 73, 74, 75, 76, 77, 78, 79, 80, 81, 82, 83, 84, 85] V V248 := agV217.tr ajV248 (by decide) (by decide)
              have zlZ250 : ZL Z159 Z250 := zlZ250
              have zoZ250 : ZL Z Z250 := ZL.tr zoZ159 zlZ250
              have ziZ250 := zlZ250.1
              have zjZ250 := zlZ250.2.1
              have zkZ250 := zlZ250.2.2.1
              have zmZ250 := zoZ250.1
              have znZ250 := zoZ250.2.1
              have zpZ159_Z250 := zoZ159.1
              have zqZ159_Z250 := zoZ159.2.1
              have y246 : H.size ≤ Hk240.size + (zcc Z159 - zcc Z250) := by rw [hHk240]; exact y246
              have y247 : tot H ≤ tot Hk240 + (zss Z159 - zss Z250) := by rw [hHk240]; exact y247
              refine W.tight (k := zcc Z - zcc Z250) (n := zss Z - zss Z250) (by first | exact tg9 y246 k241 zlZ250.1 zoZ159.1 | omega) (by first | exact tg9 y247 k242 zlZ250.2.1 zoZ159.2.1 | omega) ?_
              have hl : lv_has ls 5 [(4, .int (V 56 (24 * b + (Int32.toNatClampNeg (V 71 gf))))), (3, .int z178), (2, .int 0), (0, .ref (ad 5)), (1, .ref (Z250.fa gf))] := by rw [zlZ250.2.2.2.2 gf il201]; exact hl
              have ilf251 : f251 < Z250.nf := ilf251
              have t252 : MJ V248 Z250 b := t252
              have t253 : (f251 : Int) + 1 = (V248 5 6).toInt := t253
              have t254 : (V248 67 f251).toInt = 4 ∧ (V248 68 f251).toInt = 0 := t254
              have t255 : (V248 5 9).toInt = 0 := t255
              have r256 : 0 ≤ ((V248 5 6)).toInt ∧ ((V248 5 6)).toInt ≤ 400 := hMV248 5 6
              have r257 : 0 ≤ ((V248 5 9)).toInt ∧ ((V248 5 9)).toInt ≤ 3 := hMV248 5 9
              refine lv_pop hx hb dX5_goOnMaking_154 rfl ?_
              refine lv_goto (tgt := 163) hx hb dX5_goOnMaking_155 (by decide) ?_
              refine W.know (fun kr1 kr2 => ?_)
              refine W.widen (k := zcc Z) (n := zss Z) (Nat.sub_le _ _) (Nat.sub_le _ _) ?_
              exact W.vret hx hb hr (fun t ht hW => ⟨⟨(V248, L, Z250), rfl, ⟨hMV248, agV248, rfl, zoZ250, t252⟩, ⟨by rw [ht]; exact hP, va_K.moved hW.alike hK, hD⟩, by rw [ht]; exact kr1, by rw [ht]; exact kr2⟩, hS.F ht⟩) hS.2.2 dX5_goOnMaking_163
          · skip
            have f258 : z178.toInt ≠ (-1) := b_neq rfl (by decide) c206
            have mow259 : MO V183 Z159 b gf True True False := MO.w (Imp.go t181 (by (first | exact om_e3b1d6ac9ce8 rgz178.1 f258 | omega))) id id False.elim
            refine lv_aload_n hx hb dX5_goOnMaking_119 rfl (lv_at hl 3 rfl) ?_
            refine lv_iload_n hx hb dX5_goOnMaking_120 rfl (lv_at hl 1 rfl) ?_
            refine lv_aload_n hx hb dX5_goOnMaking_121 rfl (lv_at hl 4 rfl) ?_
            refine va_getN (D := D) (ci := 4) (v := .int (V183 72 gf)) (fs := (xfFrame V183 gf)) (C := RX4) (T := TX4) (N := 19) hx hb hg inX4 hown hK hP (336 + gf) (xgFrame il201) rfl 5 (by decide) (hnw.use 1194 n1194 rfl) (fun _ h9 => h9) rfl dX5_goOnMaking_122 ?_
            refine g_top (v := (V 72 gf)) ((ajV183 72 gf rfl).trans (ajV157 72 gf rfl)) ?_
            have r260 : 0 ≤ ((V 72 gf)).toInt ∧ ((V 72 gf)).toInt ≤ 39 := hMV 72 gf
            refine lv_aload_n hx hb dX5_goOnMaking_125 rfl (lv_at hl 4 rfl) ?_
            refine va_getN (D := D) (ci := 4) (v := .int (V183 69 gf)) (fs := (xfFrame V183 gf)) (C := RX4) (T := TX4) (N := 19) hx hb hg inX4 hown hK hP (336 + gf) (xgFrame il201) rfl 2 (by decide) (hnw.use 1191 n1191 rfl) (fun _ h9 => h9) rfl dX5_goOnMaking_126 ?_
            refine g_top (v := (V 69 gf)) ((ajV183 69 gf rfl).trans (ajV157 69 gf rfl)) ?_
            have mt261 : MTw V183 Z159 b := MO.mtw mow259 (by (first | exact om_c09d41618ed8 il201 | omega)) (by (first | exact om_82fa09255765 gd pq192 | omega))
            refine W.know (fun k263 k264 => ?_)
            obtain ⟨Hk262, hHk262⟩ : ∃ z, z = H := ⟨_, rfl⟩
            have k263 : Hk262.size ≤ s.heap.size + (zcc Z - zcc Z159) := by rw [hHk262]; exact k263
            have k264 : tot Hk262 ≤ tot s.heap + (zss Z - zss Z159) := by rw [hHk262]; exact k264
            refine gZ_void (gA_runV (As := [.int z178, .int (V 72 gf), .int (V 69 gf)]) (rest := []) (ci := 5) (q0 := 5) hx hb hml hown hg hP hD hK hS hA hnw hgk (x_seek l D ks H.size ad kk V183 L Z159 z178 (V 72 gf) (V 69 gf) (b) hMV183 (by (first | exact om_5d2dd242fd3e rgz178.1 rgz178.2 f258 | omega)) (by (first | exact om_13ba01c174fe r260.1 r260.2 | omega)) (show b < 2 from by (first | exact om_f940a4667dd6 hb2 | omega)) mt261) w1256 w1258 w45 w171 w1259 rfl xgMachine hdV_yX5_seek ⟨Nat.le_of_ble_eq_true rfl, Nat.le_of_ble_eq_true rfl⟩ rfl hl.1 rfl (Nat.le_of_ble_eq_true rfl) dX5_goOnMaking_129 ⟨z1 zoZ159.1, z1 zoZ159.2.1⟩) hD hS hA (fun u266 H locs w267 hP hD hK hS y268 y269 => ?_)
            obtain ⟨V270, L271, Z272⟩ := u266
            obtain ⟨hMV270, ajV270, axL271, zlZ272, t274⟩ := w267
            have axL271 : L = L271 := Eq.symm axL271
            subst axL271
            have hP : va_P D vwCl (xw ad kk V270 L Z272) H := hP
            have hD : va_D A (xw ad kk V270 L Z272) := hD
            have hK : va_K D vwCl (xty kk Z272) s := hK
            have hMV270 : rgd bX V270 := hMV270
            have ajV270 : agr [(3, 13), (5, 6), (5, 9), (5, 10), (5, 11), (5, 12), (5, 13), (5, 14)] [25, 26, 27, 28, 30, 67, 68, 69, 70, 71, 72, 73, 74, 75, 76, 77, 78, 79, 80, 81, 82, 83, 84, 85] V183 V270 := ajV270
            have agV270 : agr [(3, 13), (3, 14), (3, 15), (5, 6), (5, 8), (5, 9), (5, 10), (5, 11), (5, 12), (5, 13), (5, 14)] [24, 25, 26, 27, 28, 29, 30, 31, 32, 40, 67, 68, 69, 70, 71, 72, 73, 74, 75, 76, 77, 78, 79, 80, 81, 82, 83, 84, 85] V V270 := agV183.tr ajV270 (by decide) (by decide)
            have zlZ272 : ZL Z159 Z272 := zlZ272
            have zoZ272 : ZL Z Z272 := ZL.tr zoZ159 zlZ272
            have ziZ272 := zlZ272.1
            have zjZ272 := zlZ272.2.1
            have zkZ272 := zlZ272.2.2.1
            have zmZ272 := zoZ272.1
            have znZ272 := zoZ272.2.1
            have zpZ159_Z272 := zoZ159.1
            have zqZ159_Z272 := zoZ159.2.1
            have y268 : H.size ≤ Hk262.size + (zcc Z159 - zcc Z272) := by rw [hHk262]; exact y268
            have y269 : tot H ≤ tot Hk262 + (zss Z159 - zss Z272) := by rw [hHk262]; exact y269
            refine W.tight (k := zcc Z - zcc Z272) (n := zss Z - zss Z272) (by first | exact tg9 y268 k263 zlZ272.1 zoZ159.1 | omega) (by first | exact tg9 y269 k264 zlZ272.2.1 zoZ159.2.1 | omega) ?_
            have hl : lv_has ls 5 [(4, .int (V 56 (24 * b + (Int32.toNatClampNeg (V 71 gf))))), (3, .int z178), (2, .int 0), (0, .ref (ad 5)), (1, .ref (Z272.fa gf))] := by rw [zlZ272.2.2.2.2 gf il201]; exact hl
            have t274 : MJ V270 Z272 b := t274
            refine lv_goto (tgt := 163) hx hb dX5_goOnMaking_132 (by decide) ?_
            refine W.know (fun kr1 kr2 => ?_)
            refine W.widen (k := zcc Z) (n := zss Z) (Nat.sub_le _ _) (Nat.sub_le _ _) ?_
            exact W.vret hx hb hr (fun t ht hW => ⟨⟨(V270, L, Z272), rfl, ⟨hMV270, agV270, rfl, zoZ272, t274⟩, ⟨by rw [ht]; exact hP, va_K.moved hW.alike hK, hD⟩, by rw [ht]; exact kr1, by rw [ht]; exact kr2⟩, hS.F ht⟩) hS.2.2 dX5_goOnMaking_163
      · skip
        have f275 : ((V 5 9)).toInt = 3 := b_eq rfl (by decide) c45
        refine lv_aload_n hx hb dX5_goOnMaking_30 rfl (lv_at hl 1 rfl) ?_
        refine lv_dup hx hb dX5_goOnMaking_31 rfl ?_
        refine va_get (D := D) (ci := 5) (v := .int (V 5 11)) (fs := (xfMachine ad V L Z)) (C := RX5) (T := TX5) (N := 15) hx hb hg inX5 hown hK hP 5 xgMachine rfl 11 (by decide) (hg _ w678) (fun _ h9 => h9) rfl dX5_goOnMaking_32 ?_
        refine lv_iload_n hx hb dX5_goOnMaking_35 rfl (lv_at hl 0 rfl) ?_
        refine lv_if_eq (tgt := 43) hx hb dX5_goOnMaking_36 (by decide) (fun _ => ?_) (fun q => absurd (by decide) q)
        refine lv_iconst (v := 1) hx hb dX5_goOnMaking_43 (by decide) ?_
        refine lv_iadd hx hb dX5_goOnMaking_44 ?_
        have r276 := i_full (V 5 11)
        refine lv_topi (fun z277 ez277 => ?_)
        have hz277 : Imp (-2147483648 ≤ ((V 5 11)).toInt + 1 ∧ ((V 5 11)).toInt + 1 ≤ 2147483647) (z277.toInt = ((V 5 11)).toInt + 1) := Imp.mk (fun hp => i_add ez277 rfl (by decide) hp)
        refine va_put (D := D) (ci := 5) (v := .int z277) (ty := tyX5 11) (fs := (xfMachine ad V L Z)) (C := RX5) (T := TX5) (N := 15) hx hb hg inX5 tyX5 tyX5_ok nmX5 hown hK hP hD hS 5 xgMachine rfl 11 (by decide) (hg _ w678) (fun _ h9 => h9) rfl (tyX5_ok 11 (by decide)) rfl rfl (Nat.le_of_ble_eq_true rfl) dX5_goOnMaking_45 (fun H locs hP hD hS => ?_)
        obtain ⟨V278, hV278⟩ : ∃ z, z = up2 V 5 11 z277 := ⟨_, rfl⟩
        have ew279 : (xw ad kk V L Z).set 5 ((ad 5), .inr (5, (xfMachine ad V L Z).set 11 (.int z277))) = xw ad kk V278 L Z := by rw [hV278]; exact xw_ss (by decide) rfl (xb_si (by decide))
        have hP : va_P D vwCl (xw ad kk V278 L Z) H := by rw [← ew279]; exact hP
        have hD : va_D A (xw ad kk V278 L Z) := by rw [← ew279]; exact hD
        have hMV278 : rgd bX V278 := hMV.put hV278 (i_full _)
        have agV278 : agr [(3, 13), (3, 14), (3, 15), (5, 6), (5, 8), (5, 9), (5, 10), (5, 11), (5, 12), (5, 13), (5, 14)] [24, 25, 26, 27, 28, 29, 30, 31, 32, 40, 67, 68, 69, 70, 71, 72, 73, 74, 75, 76, 77, 78, 79, 80, 81, 82, 83, 84, 85] V V278 := agV.up hV278 rfl
        refine lv_aload_n hx hb dX5_goOnMaking_48 rfl (lv_at hl 1 rfl) ?_
        refine lv_aload_n hx hb dX5_goOnMaking_49 rfl (lv_at hl 2 rfl) ?_
        have pq280 : (V278 5 6).toInt = ((V 5 6)).toInt := congrArg Int32.toInt (up2_k hV278 (by decide))
        have pq281 : (V278 67 gf).toInt = ((V 67 gf)).toInt := congrArg Int32.toInt (up2_o hV278 (by decide))
        have me282 : ME V V278 gf := (ME.up ME.rf hV278 (Or.inr (by omega)))
        have pq283 : (V278 68 gf).toInt = ((V 68 gf)).toInt := congrArg Int32.toInt (up2_o hV278 (by decide))
        have pq284 : (V278 70 gf).toInt = ((V 70 gf)).toInt := congrArg Int32.toInt (up2_o hV278 (by decide))
        have pq285 : (V278 71 gf).toInt = ((V 71 gf)).toInt := congrArg Int32.toInt (up2_o hV278 (by decide))
        have pq286 : (V278 75 gf).toInt = ((V 75 gf)).toInt := congrArg Int32.toInt (up2_o hV278 (by decide))
        have pq287 : (V278 76 gf).toInt = ((V 76 gf)).toInt := congrArg Int32.toInt (up2_o hV278 (by decide))
        have pq288 : (V278 80 gf).toInt = ((V 80 gf)).toInt := congrArg Int32.toInt (up2_o hV278 (by decide))
        have pq289 : (V278 84 gf).toInt = ((V 84 gf)).toInt := congrArg Int32.toInt (up2_o hV278 (by decide))
        have pq290 : (V278 5 8).toInt = ((V 5 8)).toInt := congrArg Int32.toInt (up2_k hV278 (by decide))
        have pq291 : (V278 5 9).toInt = ((V 5 9)).toInt := congrArg Int32.toInt (up2_k hV278 (by decide))
        have pq292 : (V278 3 13).toInt = ((V 3 13)).toInt := congrArg Int32.toInt (up2_o hV278 (by decide))
        have pq293 : (V278 43 (5 * b + 2)).toInt = ((V 43 (5 * b + 2))).toInt := congrArg Int32.toInt (up2_o hV278 (by decide))
        have pq294 : (V278 42 b).toInt = ((V 42 b)).toInt := congrArg Int32.toInt (up2_o hV278 (by decide))
        have pq295 : (V278 41 b).toInt = ((V 41 b)).toInt := congrArg Int32.toInt (up2_o hV278 (by decide))
        have mo296 : MO V278 Z b gf False False False := MO.ch mo me282 (up2_o hV278 (by decide)) (up2_o hV278 (by decide)) (fun _ => Or.inl (by omega)) (fun x h => FK.s1 h (by omega) (by omega) (by omega) (by omega) (by omega) (fun z => z.elim))
        refine gA_void (gA_runV (As := [.ref (Z.fa gf)]) (rest := []) (ci := 5) (q0 := 5) hx hb hml hown hg hP hD hK hS hA hnw hgk (x_abandon2 l D ks H.size ad kk V278 L Z (b) (gf) hMV278 (show b < 2 from by first | exact om_f940a4667dd6 hb2 | first | omega | ((try (have i_hz277 := Imp.go hz277 (by omega))); omega)) (show gf < Z.nf from by first | exact om_8c5722e49bb1 hgf | first | omega | ((try (have i_hz277 := Imp.go hz277 (by omega))); omega)) mo296 (show (gf : Int) + 1 = (V278 5 6).toInt from by first | exact om_6e5bbaaa0e03 gd pq280 | first | omega | ((try (have i_hz277 := Imp.go hz277 (by omega))); omega)) (show (V278 67 gf).toInt = 1 from by first | exact om_ed616bc53b7b gk pq281 | first | omega | ((try (have i_hz277 := Imp.go hz277 (by omega))); omega))) w1332 w1334 w54 w171 w1335 rfl xgMachine hdV_yX5_abandon ⟨Nat.le_of_ble_eq_true rfl, Nat.le_of_ble_eq_true rfl⟩ rfl hl.1 rfl (Nat.le_of_ble_eq_true rfl) dX5_goOnMaking_50 ⟨z0, z0⟩) hP hD hK hS hA (fun u298 H locs w299 hP hD hK hS => ?_)
        obtain ⟨V301, L302⟩ := u298
        obtain ⟨hMV301, ajV301, axL302, t300⟩ := w299
        have axL302 : L = L302 := Eq.symm axL302
        subst axL302
        have hP : va_P D vwCl (xw ad kk V301 L Z) H := hP
        have hD : va_D A (xw ad kk V301 L Z) := hD
        have hMV301 : rgd bX V301 := hMV301
        have ajV301 : agr [(5, 6)] [24, 25, 28] V278 V301 := ajV301
        have agV301 : agr [(3, 13), (3, 14), (3, 15), (5, 6), (5, 8), (5, 9), (5, 10), (5, 11), (5, 12), (5, 13), (5, 14)] [24, 25, 26, 27, 28, 29, 30, 31, 32, 40, 67, 68, 69, 70, 71, 72, 73, 74, 75, 76, 77, 78, 79, 80, 81, 82, 83, 84, 85] V V301 := agV278.tr ajV301 (by decide) (by decide)
        have t300 : MJ V301 Z b := t300
        refine W.know (fun kr1 kr2 => ?_)
        refine W.widen (k := zcc Z) (n := zss Z) (Nat.sub_le _ _) (Nat.sub_le _ _) ?_
        exact W.vret hx hb hr (fun t ht hW => ⟨⟨(V301, L, Z), rfl, ⟨hMV301, agV301, rfl, zoZ, t300⟩, ⟨by rw [ht]; exact hP, va_K.moved hW.alike hK, hD⟩, by rw [ht]; exact kr1, by rw [ht]; exact kr2⟩, hS.F ht⟩) hS.2.2 dX5_goOnMaking_53
  · skip
    have f303 : ((V 68 gf)).toInt = 1 := b_eq rfl (by decide) c13
    refine lv_iconst (v := 1) hx hb dX5_goOnMaking_8 (by decide) ?_
    refine lv_goto (tgt := 13) hx hb dX5_goOnMaking_9 (by decide) ?_
    refine lv_istore_n (lv' := [(2, .int 1), (0, .ref (ad 5)), (1, .ref (Z.fa gf))]) hx hb dX5_goOnMaking_13 rfl hl (by decide) rfl (fun ls hl => ?_)
    refine lv_aload_n hx hb dX5_goOnMaking_14 rfl (lv_at hl 1 rfl) ?_
    refine va_get (D := D) (ci := 5) (v := .int (V 5 9)) (fs := (xfMachine ad V L Z)) (C := RX5) (T := TX5) (N := 15) hx hb hg inX5 hown hK hP 5 xgMachine rfl 9 (by decide) (hg _ w676) (fun _ h9 => h9) rfl dX5_goOnMaking_15 ?_
    refine lv_iconst (v := 2) hx hb dX5_goOnMaking_18 (by decide) ?_
    refine lv_icmp_eq (tgt := 30) hx hb dX5_goOnMaking_19 (by decide) (fun c304 => ?_) (fun c304 => ?_)
    · skip
      have f305 : ((V 5 9)).toInt = 2 := b_eq rfl (by decide) c304
      refine lv_aload_n hx hb dX5_goOnMaking_30 rfl (lv_at hl 1 rfl) ?_
      refine lv_dup hx hb dX5_goOnMaking_31 rfl ?_
      refine va_get (D := D) (ci := 5) (v := .int (V 5 11)) (fs := (xfMachine ad V L Z)) (C := RX5) (T := TX5) (N := 15) hx hb hg inX5 hown hK hP 5 xgMachine rfl 11 (by decide) (hg _ w678) (fun _ h9 => h9) rfl dX5_goOnMaking_32 ?_
      refine lv_iload_n hx hb dX5_goOnMaking_35 rfl (lv_at hl 0 rfl) ?_
      refine lv_if_eq (tgt := 43) hx hb dX5_goOnMaking_36 (by decide) (fun q => absurd q (by decide)) (fun _ => ?_)
      refine lv_iconst (v := 0) hx hb dX5_goOnMaking_39 (by decide) ?_
      refine lv_goto (tgt := 44) hx hb dX5_goOnMaking_40 (by decide) ?_
      refine lv_iadd hx hb dX5_goOnMaking_44 ?_
      have r306 := i_full (V 5 11)
      refine lv_topi (fun z307 ez307 => ?_)
      have hz307 : z307.toInt = ((V 5 11)).toInt + 0 := i_add ez307 rfl (by decide) (by (first | exact om_1db51938ff5e r306.1 r306.2 | omega))
      refine va_put (D := D) (ci := 5) (v := .int z307) (ty := tyX5 11) (fs := (xfMachine ad V L Z)) (C := RX5) (T := TX5) (N := 15) hx hb hg inX5 tyX5 tyX5_ok nmX5 hown hK hP hD hS 5 xgMachine rfl 11 (by decide) (hg _ w678) (fun _ h9 => h9) rfl (tyX5_ok 11 (by decide)) rfl rfl (Nat.le_of_ble_eq_true rfl) dX5_goOnMaking_45 (fun H locs hP hD hS => ?_)
      obtain ⟨V308, hV308⟩ : ∃ z, z = up2 V 5 11 z307 := ⟨_, rfl⟩
      have ew309 : (xw ad kk V L Z).set 5 ((ad 5), .inr (5, (xfMachine ad V L Z).set 11 (.int z307))) = xw ad kk V308 L Z := by rw [hV308]; exact xw_ss (by decide) rfl (xb_si (by decide))
      have hP : va_P D vwCl (xw ad kk V308 L Z) H := by rw [← ew309]; exact hP
      have hD : va_D A (xw ad kk V308 L Z) := by rw [← ew309]; exact hD
      have hMV308 : rgd bX V308 := hMV.put hV308 (i_full _)
      have agV308 : agr [(3, 13), (3, 14), (3, 15), (5, 6), (5, 8), (5, 9), (5, 10), (5, 11), (5, 12), (5, 13), (5, 14)] [24, 25, 26, 27, 28, 29, 30, 31, 32, 40, 67, 68, 69, 70, 71, 72, 73, 74, 75, 76, 77, 78, 79, 80, 81, 82, 83, 84, 85] V V308 := agV.up hV308 rfl
      refine lv_aload_n hx hb dX5_goOnMaking_48 rfl (lv_at hl 1 rfl) ?_
      refine lv_aload_n hx hb dX5_goOnMaking_49 rfl (lv_at hl 2 rfl) ?_
      have pq310 : (V308 5 6).toInt = ((V 5 6)).toInt := congrArg Int32.toInt (up2_k hV308 (by decide))
      have pq311 : (V308 67 gf).toInt = ((V 67 gf)).toInt := congrArg Int32.toInt (up2_o hV308 (by decide))
      have me312 : ME V V308 gf := (ME.up ME.rf hV308 (Or.inr (by omega)))
      have pq313 : (V308 68 gf).toInt = ((V 68 gf)).toInt := congrArg Int32.toInt (up2_o hV308 (by decide))
      have pq314 : (V308 70 gf).toInt = ((V 70 gf)).toInt := congrArg Int32.toInt (up2_o hV308 (by decide))
      have pq315 : (V308 71 gf).toInt = ((V 71 gf)).toInt := congrArg Int32.toInt (up2_o hV308 (by decide))
      have pq316 : (V308 75 gf).toInt = ((V 75 gf)).toInt := congrArg Int32.toInt (up2_o hV308 (by decide))
      have pq317 : (V308 76 gf).toInt = ((V 76 gf)).toInt := congrArg Int32.toInt (up2_o hV308 (by decide))
      have pq318 : (V308 80 gf).toInt = ((V 80 gf)).toInt := congrArg Int32.toInt (up2_o hV308 (by decide))
      have pq319 : (V308 84 gf).toInt = ((V 84 gf)).toInt := congrArg Int32.toInt (up2_o hV308 (by decide))
      have pq320 : (V308 5 8).toInt = ((V 5 8)).toInt := congrArg Int32.toInt (up2_k hV308 (by decide))
      have pq321 : (V308 5 9).toInt = ((V 5 9)).toInt := congrArg Int32.toInt (up2_k hV308 (by decide))
      have pq322 : (V308 3 13).toInt = ((V 3 13)).toInt := congrArg Int32.toInt (up2_o hV308 (by decide))
      have pq323 : (V308 43 (5 * b + 2)).toInt = ((V 43 (5 * b + 2))).toInt := congrArg Int32.toInt (up2_o hV308 (by decide))
      have pq324 : (V308 42 b).toInt = ((V 42 b)).toInt := congrArg Int32.toInt (up2_o hV308 (by decide))
      have pq325 : (V308 41 b).toInt = ((V 41 b)).toInt := congrArg Int32.toInt (up2_o hV308 (by decide))
      have mo326 : MO V308 Z b gf False False False := MO.ch mo me312 (up2_o hV308 (by decide)) (up2_o hV308 (by decide)) (fun _ => Or.inl (by omega)) (fun x h => FK.s1 h (by omega) (by omega) (by omega) (by omega) (by omega) (fun z => z.elim))
      refine gA_void (gA_runV (As := [.ref (Z.fa gf)]) (rest := []) (ci := 5) (q0 := 5) hx hb hml hown hg hP hD hK hS hA hnw hgk (x_abandon2 l D ks H.size ad kk V308 L Z (b) (gf) hMV308 (show b < 2 from by (first | exact om_f940a4667dd6 hb2 | omega)) (show gf < Z.nf from by (first | exact om_8c5722e49bb1 hgf | omega)) mo326 (show (gf : Int) + 1 = (V308 5 6).toInt from by (first | exact om_6e5bbaaa0e03 gd pq310 | omega)) (show (V308 67 gf).toInt = 1 from by (first | exact om_ed616bc53b7b gk pq311 | omega))) w1332 w1334 w54 w171 w1335 rfl xgMachine hdV_yX5_abandon ⟨Nat.le_of_ble_eq_true rfl, Nat.le_of_ble_eq_true rfl⟩ rfl hl.1 rfl (Nat.le_of_ble_eq_true rfl) dX5_goOnMaking_50 ⟨z0, z0⟩) hP hD hK hS hA (fun u328 H locs w329 hP hD hK hS => ?_)
      obtain ⟨V331, L332⟩ := u328
      obtain ⟨hMV331, ajV331, axL332, t330⟩ := w329
      have axL332 : L = L332 := Eq.symm axL332
      subst axL332
      have hP : va_P D vwCl (xw ad kk V331 L Z) H := hP
      have hD : va_D A (xw ad kk V331 L Z) := hD
      have hMV331 : rgd bX V331 := hMV331
      have ajV331 : agr [(5, 6)] [24, 25, 28] V308 V331 := ajV331
      have agV331 : agr [(3, 13), (3, 14), (3, 15), (5, 6), (5, 8), (5, 9), (5, 10), (5, 11), (5, 12), (5, 13), (5, 14)] [24, 25, 26, 27, 28, 29, 30, 31, 32, 40, 67, 68, 69, 70, 71, 72, 73, 74, 75, 76, 77, 78, 79, 80, 81, 82, 83, 84, 85] V V331 := agV308.tr ajV331 (by decide) (by decide)
      have t330 : MJ V331 Z b := t330
      refine W.know (fun kr1 kr2 => ?_)
      refine W.widen (k := zcc Z) (n := zss Z) (Nat.sub_le _ _) (Nat.sub_le _ _) ?_
      exact W.vret hx hb hr (fun t ht hW => ⟨⟨(V331, L, Z), rfl, ⟨hMV331, agV331, rfl, zoZ, t330⟩, ⟨by rw [ht]; exact hP, va_K.moved hW.alike hK, hD⟩, by rw [ht]; exact kr1, by rw [ht]; exact kr2⟩, hS.F ht⟩) hS.2.2 dX5_goOnMaking_53
    · skip
      have f333 : ((V 5 9)).toInt ≠ 2 := b_neq rfl (by decide) c304
      refine lv_aload_n hx hb dX5_goOnMaking_22 rfl (lv_at hl 1 rfl) ?_
      refine va_get (D := D) (ci := 5) (v := .int (V 5 9)) (fs := (xfMachine ad V L Z)) (C := RX5) (T := TX5) (N := 15) hx hb hg inX5 hown hK hP 5 xgMachine rfl 9 (by decide) (hg _ w676) (fun _ h9 => h9) rfl dX5_goOnMaking_23 ?_
      refine lv_iconst (v := 3) hx hb dX5_goOnMaking_26 (by decide) ?_
      refine lv_icmp_ne (tgt := 54) hx hb dX5_goOnMaking_27 (by decide) (fun c334 => ?_) (fun c334 => ?_)
      · skip
        have f335 : ((V 5 9)).toInt ≠ 3 := b_neq rfl (by decide) c334
        refine lv_iload_n hx hb dX5_goOnMaking_54 rfl (lv_at hl 0 rfl) ?_
        refine lv_if_eq (tgt := 64) hx hb dX5_goOnMaking_55 (by decide) (fun q => absurd q (by decide)) (fun _ => ?_)
        refine lv_aload_n hx hb dX5_goOnMaking_58 rfl (lv_at hl 1 rfl) ?_
        refine lv_aload_n hx hb dX5_goOnMaking_59 rfl (lv_at hl 2 rfl) ?_
        have me336 : ME V V gf := ME.rf
        have mo337 : MO V Z b gf False False False := MO.ch mo me336 rfl rfl (fun _ => Or.inl (by omega)) (fun x h => FK.s1 h (by omega) (by omega) (by omega) (by omega) (by omega) (fun z => z.elim))
        refine gA_void (gA_runV (As := [.ref (Z.fa gf)]) (rest := []) (ci := 5) (q0 := 5) hx hb hml hown hg hP hD hK hS hA hnw hgk (x_finish2 l D ks H.size ad kk V L Z (b) (gf) hMV (show b < 2 from by (first | exact om_f940a4667dd6 hb2 | omega)) (show gf < Z.nf from by (first | exact om_8c5722e49bb1 hgf | omega)) mo337 (show (gf : Int) + 1 = (V 5 6).toInt from by (first | exact om_b7eb86266639 gd | omega)) (show (V 67 gf).toInt = 1 from by (first | exact om_710535a98d88 gk | omega))) w1344 w1346 w55 w171 w1347 rfl xgMachine hdV_yX5_finish ⟨Nat.le_of_ble_eq_true rfl, Nat.le_of_ble_eq_true rfl⟩ rfl hl.1 rfl (Nat.le_of_ble_eq_true rfl) dX5_goOnMaking_60 ⟨z0, z0⟩) hP hD hK hS hA (fun u339 H locs w340 hP hD hK hS => ?_)
        obtain ⟨V342, L343⟩ := u339
        obtain ⟨hMV342, ajV342, axL343, t341⟩ := w340
        have axL343 : L = L343 := Eq.symm axL343
        subst axL343
        have hP : va_P D vwCl (xw ad kk V342 L Z) H := hP
        have hD : va_D A (xw ad kk V342 L Z) := hD
        have hMV342 : rgd bX V342 := hMV342
        have ajV342 : agr [(3, 14), (5, 6), (5, 8), (5, 9), (5, 10)] [28, 29, 40] V V342 := ajV342
        have agV342 : agr [(3, 13), (3, 14), (3, 15), (5, 6), (5, 8), (5, 9), (5, 10), (5, 11), (5, 12), (5, 13), (5, 14)] [24, 25, 26, 27, 28, 29, 30, 31, 32, 40, 67, 68, 69, 70, 71, 72, 73, 74, 75, 76, 77, 78, 79, 80, 81, 82, 83, 84, 85] V V342 := agV.tr ajV342 (by decide) (by decide)
        have t341 : MJ V342 Z b := t341
        refine W.know (fun kr1 kr2 => ?_)
        refine W.widen (k := zcc Z) (n := zss Z) (Nat.sub_le _ _) (Nat.sub_le _ _) ?_
        exact W.vret hx hb hr (fun t ht hW => ⟨⟨(V342, L, Z), rfl, ⟨hMV342, agV342, rfl, zoZ, t341⟩, ⟨by rw [ht]; exact hP, va_K.moved hW.alike hK, hD⟩, by rw [ht]; exact kr1, by rw [ht]; exact kr2⟩, hS.F ht⟩) hS.2.2 dX5_goOnMaking_63
      · skip
        have f344 : ((V 5 9)).toInt = 3 := b_eq rfl (by decide) c334
        refine lv_aload_n hx hb dX5_goOnMaking_30 rfl (lv_at hl 1 rfl) ?_
        refine lv_dup hx hb dX5_goOnMaking_31 rfl ?_
        refine va_get (D := D) (ci := 5) (v := .int (V 5 11)) (fs := (xfMachine ad V L Z)) (C := RX5) (T := TX5) (N := 15) hx hb hg inX5 hown hK hP 5 xgMachine rfl 11 (by decide) (hg _ w678) (fun _ h9 => h9) rfl dX5_goOnMaking_32 ?_
        refine lv_iload_n hx hb dX5_goOnMaking_35 rfl (lv_at hl 0 rfl) ?_
        refine lv_if_eq (tgt := 43) hx hb dX5_goOnMaking_36 (by decide) (fun q => absurd q (by decide)) (fun _ => ?_)
        refine lv_iconst (v := 0) hx hb dX5_goOnMaking_39 (by decide) ?_
        refine lv_goto (tgt := 44) hx hb dX5_goOnMaking_40 (by decide) ?_
        refine lv_iadd hx hb dX5_goOnMaking_44 ?_
        have r345 := i_full (V 5 11)
        refine lv_topi (fun z346 ez346 => ?_)
        have hz346 : z346.toInt = ((V 5 11)).toInt + 0 := i_add ez346 rfl (by decide) (by (first | exact om_1db51938ff5e r345.1 r345.2 | omega))
        refine va_put (D := D) (ci := 5) (v := .int z346) (ty := tyX5 11) (fs := (xfMachine ad V L Z)) (C := RX5) (T := TX5) (N := 15) hx hb hg inX5 tyX5 tyX5_ok nmX5 hown hK hP hD hS 5 xgMachine rfl 11 (by decide) (hg _ w678) (fun _ h9 => h9) rfl (tyX5_ok 11 (by decide)) rfl rfl (Nat.le_of_ble_eq_true rfl) dX5_goOnMaking_45 (fun H locs hP hD hS => ?_)
        obtain ⟨V347, hV347⟩ : ∃ z, z = up2 V 5 11 z346 := ⟨_, rfl⟩
        have ew348 : (xw ad kk V L Z).set 5 ((ad 5), .inr (5, (xfMachine ad V L Z).set 11 (.int z346))) = xw ad kk V347 L Z := by rw [hV347]; exact xw_ss (by decide) rfl (xb_si (by decide))
        have hP : va_P D vwCl (xw ad kk V347 L Z) H := by rw [← ew348]; exact hP
        have hD : va_D A (xw ad kk V347 L Z) := by rw [← ew348]; exact hD
        have hMV347 : rgd bX V347 := hMV.put hV347 (i_full _)
        have agV347 : agr [(3, 13), (3, 14), (3, 15), (5, 6), (5, 8), (5, 9), (5, 10), (5, 11), (5, 12), (5, 13), (5, 14)] [24, 25, 26, 27, 28, 29, 30, 31, 32, 40, 67, 68, 69, 70, 71, 72, 73, 74, 75, 76, 77, 78, 79, 80, 81, 82, 83, 84, 85] V V347 := agV.up hV347 rfl
        refine lv_aload_n hx hb dX5_goOnMaking_48 rfl (lv_at hl 1 rfl) ?_
        refine lv_aload_n hx hb dX5_goOnMaking_49 rfl (lv_at hl 2 rfl) ?_
        have pq349 : (V347 5 6).toInt = ((V 5 6)).toInt := congrArg Int32.toInt (up2_k hV347 (by decide))
        have pq350 : (V347 67 gf).toInt = ((V 67 gf)).toInt := congrArg Int32.toInt (up2_o hV347 (by decide))
        have me351 : ME V V347 gf := (ME.up ME.rf hV347 (Or.inr (by omega)))
        have pq352 : (V347 68 gf).toInt = ((V 68 gf)).toInt := congrArg Int32.toInt (up2_o hV347 (by decide))
        have pq353 : (V347 70 gf).toInt = ((V 70 gf)).toInt := congrArg Int32.toInt (up2_o hV347 (by decide))
        have pq354 : (V347 71 gf).toInt = ((V 71 gf)).toInt := congrArg Int32.toInt (up2_o hV347 (by decide))
        have pq355 : (V347 75 gf).toInt = ((V 75 gf)).toInt := congrArg Int32.toInt (up2_o hV347 (by decide))
        have pq356 : (V347 76 gf).toInt = ((V 76 gf)).toInt := congrArg Int32.toInt (up2_o hV347 (by decide))
        have pq357 : (V347 80 gf).toInt = ((V 80 gf)).toInt := congrArg Int32.toInt (up2_o hV347 (by decide))
        have pq358 : (V347 84 gf).toInt = ((V 84 gf)).toInt := congrArg Int32.toInt (up2_o hV347 (by decide))
        have pq359 : (V347 5 8).toInt = ((V 5 8)).toInt := congrArg Int32.toInt (up2_k hV347 (by decide))
        have pq360 : (V347 5 9).toInt = ((V 5 9)).toInt := congrArg Int32.toInt (up2_k hV347 (by decide))
        have pq361 : (V347 3 13).toInt = ((V 3 13)).toInt := congrArg Int32.toInt (up2_o hV347 (by decide))
        have pq362 : (V347 43 (5 * b + 2)).toInt = ((V 43 (5 * b + 2))).toInt := congrArg Int32.toInt (up2_o hV347 (by decide))
        have pq363 : (V347 42 b).toInt = ((V 42 b)).toInt := congrArg Int32.toInt (up2_o hV347 (by decide))
        have pq364 : (V347 41 b).toInt = ((V 41 b)).toInt := congrArg Int32.toInt (up2_o hV347 (by decide))
        have mo365 : MO V347 Z b gf False False False := MO.ch mo me351 (up2_o hV347 (by decide)) (up2_o hV347 (by decide)) (fun _ => Or.inl (by omega)) (fun x h => FK.s1 h (by omega) (by omega) (by omega) (by omega) (by omega) (fun z => z.elim))
        refine gA_void (gA_runV (As := [.ref (Z.fa gf)]) (rest := []) (ci := 5) (q0 := 5) hx hb hml hown hg hP hD hK hS hA hnw hgk (x_abandon2 l D ks H.size ad kk V347 L Z (b) (gf) hMV347 (show b < 2 from by (first | exact om_f940a4667dd6 hb2 | omega)) (show gf < Z.nf from by (first | exact om_8c5722e49bb1 hgf | omega)) mo365 (show (gf : Int) + 1 = (V347 5 6).toInt from by (first | exact om_6e5bbaaa0e03 gd pq349 | omega)) (show (V347 67 gf).toInt = 1 from by (first | exact om_ed616bc53b7b gk pq350 | omega))) w1332 w1334 w54 w171 w1335 rfl xgMachine hdV_yX5_abandon ⟨Nat.le_of_ble_eq_true rfl, Nat.le_of_ble_eq_true rfl⟩ rfl hl.1 rfl (Nat.le_of_ble_eq_true rfl) dX5_goOnMaking_50 ⟨z0, z0⟩) hP hD hK hS hA (fun u367 H locs w368 hP hD hK hS => ?_)
        obtain ⟨V370, L371⟩ := u367
        obtain ⟨hMV370, ajV370, axL371, t369⟩ := w368
        have axL371 : L = L371 := Eq.symm axL371
        subst axL371
        have hP : va_P D vwCl (xw ad kk V370 L Z) H := hP
        have hD : va_D A (xw ad kk V370 L Z) := hD
        have hMV370 : rgd bX V370 := hMV370
        have ajV370 : agr [(5, 6)] [24, 25, 28] V347 V370 := ajV370
        have agV370 : agr [(3, 13), (3, 14), (3, 15), (5, 6), (5, 8), (5, 9), (5, 10), (5, 11), (5, 12), (5, 13), (5, 14)] [24, 25, 26, 27, 28, 29, 30, 31, 32, 40, 67, 68, 69, 70, 71, 72, 73, 74, 75, 76, 77, 78, 79, 80, 81, 82, 83, 84, 85] V V370 := agV347.tr ajV370 (by decide) (by decide)
        have t369 : MJ V370 Z b := t369
        refine W.know (fun kr1 kr2 => ?_)
        refine W.widen (k := zcc Z) (n := zss Z) (Nat.sub_le _ _) (Nat.sub_le _ _) ?_
        exact W.vret hx hb hr (fun t ht hW => ⟨⟨(V370, L, Z), rfl, ⟨hMV370, agV370, rfl, zoZ, t369⟩, ⟨by rw [ht]; exact hP, va_K.moved hW.alike hK, hD⟩, by rw [ht]; exact kr1, by rw [ht]; exact kr2⟩, hS.F ht⟩) hS.2.2 dX5_goOnMaking_53
end
section
theorem w1439 : Cond.methodLink RX5 353 yX8_joinedTo ∈ GW := gw_k tk9_6 84 (by decide +kernel) rfl
theorem n1201 : lw_tbl[1201]? = some (Cond.fieldLinkNest RX5 356 "WiringHouse$Frame" "sum" "I" "WiringHouse") := la9 (n := 155) (i := 1046) lz9 (la9 (n := 240) (i := 806) ln9_1 (la9 (n := 240) (i := 566) ln9_2 (la9 (n := 240) (i := 326) ln9_3 (la9 (n := 240) (i := 86) ln9_4 (lb9 (i := 86) (by decide +kernel))))))
theorem w1457 : Cond.code yX5_pushCall cX5_pushCall 7 none ∈ GW := gw_k tk9_6 102 (rfl) rfl
theorem w1454 : Cond.methodLink RX5 362 yX5_pushCall ∈ GW := gw_k tk9_6 99 (by decide +kernel) rfl
theorem w1455 : Cond.instanceMethod yX5_pushCall ∈ GW := gw_k tk9_6 100 (by decide +kernel) rfl
theorem w1456 : Cond.selects RX5 yX5_pushCall yX5_pushCall ∈ GW := gw_k tk9_6 101 (by decide +kernel) rfl
theorem hdV_yX5_pushCall : yX5_pushCall.cls = RX5 ∧ yX5_pushCall.cls ≠ "java/lang/invoke/MethodHandle" ∧ yX5_pushCall.cls ≠ "java/lang/invoke/VarHandle" ∧ (parseMethodDescriptor yX5_pushCall.desc).map (fun d => d.parameters.length) = some 5 := by decide +kernel
theorem w1473 : Cond.code yX5_joinLate cX5_joinLate 4 none ∈ GW := gw_k tk9_6 118 (rfl) rfl
theorem w1470 : Cond.methodLink RX5 372 yX5_joinLate ∈ GW := gw_k tk9_6 115 (by decide +kernel) rfl
theorem w1472 : Cond.instanceMethod yX5_joinLate ∈ GW := gw_k tk9_6 117 (by decide +kernel) rfl
theorem w73 : Cond.selects RX5 yX5_joinLate yX5_joinLate ∈ GW := gw_mem 73 (by decide +kernel) rfl
theorem hdV_yX5_joinLate : yX5_joinLate.cls = RX5 ∧ yX5_joinLate.cls ≠ "java/lang/invoke/MethodHandle" ∧ yX5_joinLate.cls ≠ "java/lang/invoke/VarHandle" ∧ (parseMethodDescriptor yX5_joinLate.desc).map (fun d => d.parameters.length) = some 2 := by decide +kernel
theorem w1450 : Cond.code yX0_firstCandidate cX0_firstCandidate 4 (some .int) ∈ GW := gw_k tk9_6 95 (rfl) rfl
theorem w1447 : Cond.methodLink RX5 366 yX0_firstCandidate ∈ GW := gw_k tk9_6 92 (by decide +kernel) rfl
theorem w1448 : Cond.instanceMethod yX0_firstCandidate ∈ GW := gw_k tk9_6 93 (by decide +kernel) rfl
theorem w1449 : Cond.selects RX0 yX0_firstCandidate yX0_firstCandidate ∈ GW := gw_k tk9_6 94 (by decide +kernel) rfl
theorem hdV_yX0_firstCandidate : yX0_firstCandidate.cls = RX0 ∧ yX0_firstCandidate.cls ≠ "java/lang/invoke/MethodHandle" ∧ yX0_firstCandidate.cls ≠ "java/lang/invoke/VarHandle" ∧ (parseMethodDescriptor yX0_firstCandidate.desc).map (fun d => d.parameters.length) = some 2 := by decide +kernel
theorem w1179 : Cond.code yX5_pushRoot cX5_pushRoot 5 none ∈ GW := gw_k tk9_5 64 (rfl) rfl
theorem w1453 : Cond.methodLink RX5 369 yX5_pushRoot ∈ GW := gw_k tk9_6 98 (by decide +kernel) rfl
theorem w1177 : Cond.instanceMethod yX5_pushRoot ∈ GW := gw_k tk9_5 62 (by decide +kernel) rfl
theorem w1178 : Cond.selects RX5 yX5_pushRoot yX5_pushRoot ∈ GW := gw_k tk9_5 63 (by decide +kernel) rfl
theorem hdV_yX5_pushRoot : yX5_pushRoot.cls = RX5 ∧ yX5_pushRoot.cls ≠ "java/lang/invoke/MethodHandle" ∧ yX5_pushRoot.cls ≠ "java/lang/invoke/VarHandle" ∧ (parseMethodDescriptor yX5_pushRoot.desc).map (fun d => d.parameters.length) = some 3 := by decide +kernel
theorem w1446 : Cond.code yX5_getLate cX5_getLate 3 none ∈ GW := gw_k tk9_6 91 (rfl) rfl
theorem w1443 : Cond.methodLink RX5 359 yX5_getLate ∈ GW := gw_k tk9_6 88 (by decide +kernel) rfl
theorem w1445 : Cond.instanceMethod yX5_getLate ∈ GW := gw_k tk9_6 90 (by decide +kernel) rfl
theorem w69 : Cond.selects RX5 yX5_getLate yX5_getLate ∈ GW := gw_mem 69 (by decide +kernel) rfl
theorem hdV_yX5_getLate : yX5_getLate.cls = RX5 ∧ yX5_getLate.cls ≠ "java/lang/invoke/MethodHandle" ∧ yX5_getLate.cls ≠ "java/lang/invoke/VarHandle" ∧ (parseMethodDescriptor yX5_getLate.desc).map (fun d => d.parameters.length) = some 1 := by decide +kernel
theorem w1477 : Cond.code yX5_work cX5_work 6 none ∈ GW := gw_k tk9_6 122 (rfl) rfl
theorem w1474 : Cond.methodLink RX5 317 yX5_work ∈ GW := gw_k tk9_6 119 (by decide +kernel) rfl
theorem w1476 : Cond.instanceMethod yX5_work ∈ GW := gw_k tk9_6 121 (by decide +kernel) rfl
theorem w74 : Cond.selects RX5 yX5_work yX5_work ∈ GW := gw_mem 74 (by decide +kernel) rfl
theorem hdV_yX5_work : yX5_work.cls = RX5 ∧ yX5_work.cls ≠ "java/lang/invoke/MethodHandle" ∧ yX5_work.cls ≠ "java/lang/invoke/VarHandle" ∧ (parseMethodDescriptor yX5_work.desc).map (fun d => d.parameters.length) = some 1 := by decide +kernel
theorem w1465 : Cond.code yX5_takesAnswer cX5_takesAnswer 3 (some .boolean) ∈ GW := gw_k tk9_6 110 (rfl) rfl
theorem w1462 : Cond.methodLink RX5 313 yX5_takesAnswer ∈ GW := gw_k tk9_6 107 (by decide +kernel) rfl
theorem w1464 : Cond.instanceMethod yX5_takesAnswer ∈ GW := gw_k tk9_6 109 (by decide +kernel) rfl
theorem w71 : Cond.selects RX5 yX5_takesAnswer yX5_takesAnswer ∈ GW := gw_mem 71 (by decide +kernel) rfl
theorem hdV_yX5_takesAnswer : yX5_takesAnswer.cls = RX5 ∧ yX5_takesAnswer.cls ≠ "java/lang/invoke/MethodHandle" ∧ yX5_takesAnswer.cls ≠ "java/lang/invoke/VarHandle" ∧ (parseMethodDescriptor yX5_takesAnswer.desc).map (fun d => d.parameters.length) = some 1 := by decide +kernel
theorem w1438 : Cond.code yX5_callNeed cX5_callNeed 4 none ∈ GW := gw_k tk9_6 83 (rfl) rfl
theorem w1435 : Cond.methodLink RX5 307 yX5_callNeed ∈ GW := gw_k tk9_6 80 (by decide +kernel) rfl
theorem w1437 : Cond.instanceMethod yX5_callNeed ∈ GW := gw_k tk9_6 82 (by decide +kernel) rfl
theorem w68 : Cond.selects RX5 yX5_callNeed yX5_callNeed ∈ GW := gw_mem 68 (by decide +kernel) rfl
theorem hdV_yX5_callNeed : yX5_callNeed.cls = RX5 ∧ yX5_callNeed.cls ≠ "java/lang/invoke/MethodHandle" ∧ yX5_callNeed.cls ≠ "java/lang/invoke/VarHandle" ∧ (parseMethodDescriptor yX5_callNeed.desc).map (fun d => d.parameters.length) = some 1 := by decide +kernel
theorem dk9_dX5_joinLate_0_0 : dOk cX5_joinLate [(0, .aload_n 0, 1), (1, .getfield 24, 3), (4, .getfield 178, 3), (7, .aload_n 0, 1), (8, .getfield 28, 3), (11, .iload_n 2, 1), (12, .invokevirtual 126, 3), (15, .aaload, 1), (16, .getfield 182, 3), (19, .iconst 3, 1), (20, .if_icmp .ne 7, 3), (27, .iconst 0, 1), (28, .istore_n 3, 1), (29, .iload_n 3, 1), (30, .ifCond .eq 39, 3), (69, .return_, 1), (23, .iconst 1, 1), (24, .goto 4, 3), (33, .aload_n 0, 1), (34, .getfield 28, 3), (37, .aload_n 1, 1), (38, .getfield 100, 3), (41, .aload_n 1, 1), (42, .getfield 109, 3)] = true ∧ dOk cX5_joinLate [(45, .iconst 0, 1), (46, .invokevirtual 353, 3), (49, .iconst (-1), 1), (50, .if_icmp .ne 19, 3), (53, .aload_n 0, 1), (54, .getfield 28, 3), (57, .aload_n 1, 1), (58, .getfield 100, 3), (61, .aload_n 1, 1), (62, .getfield 109, 3), (65, .iload_n 2, 1), (66, .invokevirtual 221, 3)] = true := by decide +kernel
theorem dX5_joinLate_0 : decode cX5_joinLate 0 = .ok (.aload_n 0, 1) := dr9 dk9_dX5_joinLate_0_0.1 0 (0, .aload_n 0, 1) rfl
theorem dX5_joinLate_1 : decode cX5_joinLate 1 = .ok (.getfield 24, 3) := dr9 dk9_dX5_joinLate_0_0.1 1 (1, .getfield 24, 3) rfl
theorem dX5_joinLate_4 : decode cX5_joinLate 4 = .ok (.getfield 178, 3) := dr9 dk9_dX5_joinLate_0_0.1 2 (4, .getfield 178, 3) rfl
theorem dX5_joinLate_7 : decode cX5_joinLate 7 = .ok (.aload_n 0, 1) := dr9 dk9_dX5_joinLate_0_0.1 3 (7, .aload_n 0, 1) rfl
theorem dX5_joinLate_8 : decode cX5_joinLate 8 = .ok (.getfield 28, 3) := dr9 dk9_dX5_joinLate_0_0.1 4 (8, .getfield 28, 3) rfl
theorem dX5_joinLate_11 : decode cX5_joinLate 11 = .ok (.iload_n 2, 1) := dr9 dk9_dX5_joinLate_0_0.1 5 (11, .iload_n 2, 1) rfl
theorem dX5_joinLate_12 : decode cX5_joinLate 12 = .ok (.invokevirtual 126, 3) := dr9 dk9_dX5_joinLate_0_0.1 6 (12, .invokevirtual 126, 3) rfl
theorem dX5_joinLate_15 : decode cX5_joinLate 15 = .ok (.aaload, 1) := dr9 dk9_dX5_joinLate_0_0.1 7 (15, .aaload, 1) rfl
theorem dX5_joinLate_16 : decode cX5_joinLate 16 = .ok (.getfield 182, 3) := dr9 dk9_dX5_joinLate_0_0.1 8 (16, .getfield 182, 3) rfl
theorem dX5_joinLate_19 : decode cX5_joinLate 19 = .ok (.iconst 3, 1) := dr9 dk9_dX5_joinLate_0_0.1 9 (19, .iconst 3, 1) rfl
theorem dX5_joinLate_20 : decode cX5_joinLate 20 = .ok (.if_icmp .ne 7, 3) := dr9 dk9_dX5_joinLate_0_0.1 10 (20, .if_icmp .ne 7, 3) rfl
theorem dX5_joinLate_27 : decode cX5_joinLate 27 = .ok (.iconst 0, 1) := dr9 dk9_dX5_joinLate_0_0.1 11 (27, .iconst 0, 1) rfl
theorem dX5_joinLate_28 : decode cX5_joinLate 28 = .ok (.istore_n 3, 1) := dr9 dk9_dX5_joinLate_0_0.1 12 (28, .istore_n 3, 1) rfl
theorem dX5_joinLate_29 : decode cX5_joinLate 29 = .ok (.iload_n 3, 1) := dr9 dk9_dX5_joinLate_0_0.1 13 (29, .iload_n 3, 1) rfl
theorem dX5_joinLate_30 : decode cX5_joinLate 30 = .ok (.ifCond .eq 39, 3) := dr9 dk9_dX5_joinLate_0_0.1 14 (30, .ifCond .eq 39, 3) rfl
theorem dX5_joinLate_69 : decode cX5_joinLate 69 = .ok (.return_, 1) := dr9 dk9_dX5_joinLate_0_0.1 15 (69, .return_, 1) rfl
theorem dX5_joinLate_23 : decode cX5_joinLate 23 = .ok (.iconst 1, 1) := dr9 dk9_dX5_joinLate_0_0.1 16 (23, .iconst 1, 1) rfl
theorem dX5_joinLate_24 : decode cX5_joinLate 24 = .ok (.goto 4, 3) := dr9 dk9_dX5_joinLate_0_0.1 17 (24, .goto 4, 3) rfl
theorem dX5_joinLate_33 : decode cX5_joinLate 33 = .ok (.aload_n 0, 1) := dr9 dk9_dX5_joinLate_0_0.1 18 (33, .aload_n 0, 1) rfl
theorem dX5_joinLate_34 : decode cX5_joinLate 34 = .ok (.getfield 28, 3) := dr9 dk9_dX5_joinLate_0_0.1 19 (34, .getfield 28, 3) rfl
theorem dX5_joinLate_37 : decode cX5_joinLate 37 = .ok (.aload_n 1, 1) := dr9 dk9_dX5_joinLate_0_0.1 20 (37, .aload_n 1, 1) rfl
theorem dX5_joinLate_38 : decode cX5_joinLate 38 = .ok (.getfield 100, 3) := dr9 dk9_dX5_joinLate_0_0.1 21 (38, .getfield 100, 3) rfl
theorem dX5_joinLate_41 : decode cX5_joinLate 41 = .ok (.aload_n 1, 1) := dr9 dk9_dX5_joinLate_0_0.1 22 (41, .aload_n 1, 1) rfl
theorem dX5_joinLate_42 : decode cX5_joinLate 42 = .ok (.getfield 109, 3) := dr9 dk9_dX5_joinLate_0_0.1 23 (42, .getfield 109, 3) rfl
theorem dX5_joinLate_45 : decode cX5_joinLate 45 = .ok (.iconst 0, 1) := dr9 dk9_dX5_joinLate_0_0.2 0 (45, .iconst 0, 1) rfl
theorem dX5_joinLate_46 : decode cX5_joinLate 46 = .ok (.invokevirtual 353, 3) := dr9 dk9_dX5_joinLate_0_0.2 1 (46, .invokevirtual 353, 3) rfl
theorem dX5_joinLate_49 : decode cX5_joinLate 49 = .ok (.iconst (-1), 1) := dr9 dk9_dX5_joinLate_0_0.2 2 (49, .iconst (-1), 1) rfl
theorem dX5_joinLate_50 : decode cX5_joinLate 50 = .ok (.if_icmp .ne 19, 3) := dr9 dk9_dX5_joinLate_0_0.2 3 (50, .if_icmp .ne 19, 3) rfl
theorem dX5_joinLate_53 : decode cX5_joinLate 53 = .ok (.aload_n 0, 1) := dr9 dk9_dX5_joinLate_0_0.2 4 (53, .aload_n 0, 1) rfl
theorem dX5_joinLate_54 : decode cX5_joinLate 54 = .ok (.getfield 28, 3) := dr9 dk9_dX5_joinLate_0_0.2 5 (54, .getfield 28, 3) rfl
theorem dX5_joinLate_57 : decode cX5_joinLate 57 = .ok (.aload_n 1, 1) := dr9 dk9_dX5_joinLate_0_0.2 6 (57, .aload_n 1, 1) rfl
theorem dX5_joinLate_58 : decode cX5_joinLate 58 = .ok (.getfield 100, 3) := dr9 dk9_dX5_joinLate_0_0.2 7 (58, .getfield 100, 3) rfl
theorem dX5_joinLate_61 : decode cX5_joinLate 61 = .ok (.aload_n 1, 1) := dr9 dk9_dX5_joinLate_0_0.2 8 (61, .aload_n 1, 1) rfl
theorem dX5_joinLate_62 : decode cX5_joinLate 62 = .ok (.getfield 109, 3) := dr9 dk9_dX5_joinLate_0_0.2 9 (62, .getfield 109, 3) rfl
theorem dX5_joinLate_65 : decode cX5_joinLate 65 = .ok (.iload_n 2, 1) := dr9 dk9_dX5_joinLate_0_0.2 10 (65, .iload_n 2, 1) rfl
theorem dX5_joinLate_66 : decode cX5_joinLate 66 = .ok (.invokevirtual 221, 3) := dr9 dk9_dX5_joinLate_0_0.2 11 (66, .invokevirtual 221, 3) rfl
theorem dk9_dX5_takesAnswer_0_0 : dOk cX5_takesAnswer [(0, .aload_n 1, 1), (1, .getfield 94, 3), (4, .iconst 1, 1), (5, .if_icmp .ne 13, 3), (18, .aload_n 1, 1), (19, .getfield 94, 3), (22, .bipush 7, 2), (24, .if_icmp .ne 45, 3), (69, .aload_n 1, 1), (70, .dup, 1), (71, .getfield 356, 3), (74, .aload_n 0, 1), (75, .getfield 67, 3), (78, .iadd, 1), (79, .putfield 356, 3), (82, .aload_n 0, 1), (83, .getfield 28, 3), (86, .aload_n 1, 1), (87, .getfield 100, 3), (90, .aload_n 1, 1), (91, .getfield 109, 3), (94, .aload_n 1, 1), (95, .getfield 112, 3), (98, .invokevirtual 353, 3)] = true ∧ dOk cX5_takesAnswer [(101, .istore_n 2, 1), (102, .iload_n 2, 1), (103, .iconst (-1), 1), (104, .if_icmp .ne 13, 3), (117, .aload_n 1, 1), (118, .dup, 1), (119, .getfield 112, 3), (122, .iconst 1, 1), (123, .iadd, 1), (124, .putfield 112, 3), (127, .aload_n 0, 1), (128, .iload_n 2, 1), (129, .aload_n 1, 1), (130, .getfield 106, 3), (133, .aload_n 1, 1), (134, .getfield 347, 3), (137, .aload_n 1, 1), (138, .getfield 350, 3), (141, .aload_n 1, 1), (142, .getfield 97, 3), (145, .iconst 1, 1), (146, .iadd, 1), (147, .invokevirtual 362, 3), (150, .iconst 0, 1)] = true ∧ dOk cX5_takesAnswer [(151, .ireturn, 1), (107, .aload_n 0, 1), (108, .aload_n 1, 1), (109, .getfield 356, 3), (112, .invokevirtual 338, 3), (115, .iconst 1, 1), (116, .ireturn, 1), (27, .aload_n 0, 1), (28, .aload_n 1, 1), (29, .aload_n 0, 1), (30, .getfield 67, 3), (33, .invokevirtual 372, 3), (36, .aload_n 1, 1), (37, .iconst 1, 1), (38, .putfield 94, 3), (41, .aload_n 0, 1), (42, .aload_n 0, 1), (43, .getfield 67, 3), (46, .aload_n 1, 1), (47, .getfield 106, 3), (50, .aload_n 1, 1), (51, .getfield 347, 3), (54, .aload_n 1, 1), (55, .getfield 350, 3)] = true ∧ dOk cX5_takesAnswer [(58, .aload_n 1, 1), (59, .getfield 97, 3), (62, .iconst 1, 1), (63, .iadd, 1), (64, .invokevirtual 362, 3), (67, .iconst 0, 1), (68, .ireturn, 1), (8, .aload_n 0, 1), (9, .aload_n 0, 1), (10, .getfield 67, 3), (13, .invokevirtual 338, 3), (16, .iconst 1, 1), (17, .ireturn, 1)] = true := by decide +kernel
theorem dX5_takesAnswer_0 : decode cX5_takesAnswer 0 = .ok (.aload_n 1, 1) := dr9 dk9_dX5_takesAnswer_0_0.1 0 (0, .aload_n 1, 1) rfl
theorem dX5_takesAnswer_1 : decode cX5_takesAnswer 1 = .ok (.getfield 94, 3) := dr9 dk9_dX5_takesAnswer_0_0.1 1 (1, .getfield 94, 3) rfl
theorem dX5_takesAnswer_4 : decode cX5_takesAnswer 4 = .ok (.iconst 1, 1) := dr9 dk9_dX5_takesAnswer_0_0.1 2 (4, .iconst 1, 1) rfl
theorem dX5_takesAnswer_5 : decode cX5_takesAnswer 5 = .ok (.if_icmp .ne 13, 3) := dr9 dk9_dX5_takesAnswer_0_0.1 3 (5, .if_icmp .ne 13, 3) rfl
theorem dX5_takesAnswer_18 : decode cX5_takesAnswer 18 = .ok (.aload_n 1, 1) := dr9 dk9_dX5_takesAnswer_0_0.1 4 (18, .aload_n 1, 1) rfl
theorem dX5_takesAnswer_19 : decode cX5_takesAnswer 19 = .ok (.getfield 94, 3) := dr9 dk9_dX5_takesAnswer_0_0.1 5 (19, .getfield 94, 3) rfl
theorem dX5_takesAnswer_22 : decode cX5_takesAnswer 22 = .ok (.bipush 7, 2) := dr9 dk9_dX5_takesAnswer_0_0.1 6 (22, .bipush 7, 2) rfl
theorem dX5_takesAnswer_24 : decode cX5_takesAnswer 24 = .ok (.if_icmp .ne 45, 3) := dr9 dk9_dX5_takesAnswer_0_0.1 7 (24, .if_icmp .ne 45, 3) rfl
theorem dX5_takesAnswer_69 : decode cX5_takesAnswer 69 = .ok (.aload_n 1, 1) := dr9 dk9_dX5_takesAnswer_0_0.1 8 (69, .aload_n 1, 1) rfl
theorem dX5_takesAnswer_70 : decode cX5_takesAnswer 70 = .ok (.dup, 1) := dr9 dk9_dX5_takesAnswer_0_0.1 9 (70, .dup, 1) rfl
theorem dX5_takesAnswer_71 : decode cX5_takesAnswer 71 = .ok (.getfield 356, 3) := dr9 dk9_dX5_takesAnswer_0_0.1 10 (71, .getfield 356, 3) rfl
theorem dX5_takesAnswer_74 : decode cX5_takesAnswer 74 = .ok (.aload_n 0, 1) := dr9 dk9_dX5_takesAnswer_0_0.1 11 (74, .aload_n 0, 1) rfl
theorem dX5_takesAnswer_75 : decode cX5_takesAnswer 75 = .ok (.getfield 67, 3) := dr9 dk9_dX5_takesAnswer_0_0.1 12 (75, .getfield 67, 3) rfl
theorem dX5_takesAnswer_78 : decode cX5_takesAnswer 78 = .ok (.iadd, 1) := dr9 dk9_dX5_takesAnswer_0_0.1 13 (78, .iadd, 1) rfl
theorem dX5_takesAnswer_79 : decode cX5_takesAnswer 79 = .ok (.putfield 356, 3) := dr9 dk9_dX5_takesAnswer_0_0.1 14 (79, .putfield 356, 3) rfl
theorem dX5_takesAnswer_82 : decode cX5_takesAnswer 82 = .ok (.aload_n 0, 1) := dr9 dk9_dX5_takesAnswer_0_0.1 15 (82, .aload_n 0, 1) rfl
theorem dX5_takesAnswer_83 : decode cX5_takesAnswer 83 = .ok (.getfield 28, 3) := dr9 dk9_dX5_takesAnswer_0_0.1 16 (83, .getfield 28, 3) rfl
theorem dX5_takesAnswer_86 : decode cX5_takesAnswer 86 = .ok (.aload_n 1, 1) := dr9 dk9_dX5_takesAnswer_0_0.1 17 (86, .aload_n 1, 1) rfl
theorem dX5_takesAnswer_87 : decode cX5_takesAnswer 87 = .ok (.getfield 100, 3) := dr9 dk9_dX5_takesAnswer_0_0.1 18 (87, .getfield 100, 3) rfl
theorem dX5_takesAnswer_90 : decode cX5_takesAnswer 90 = .ok (.aload_n 1, 1) := dr9 dk9_dX5_takesAnswer_0_0.1 19 (90, .aload_n 1, 1) rfl
theorem dX5_takesAnswer_91 : decode cX5_takesAnswer 91 = .ok (.getfield 109, 3) := dr9 dk9_dX5_takesAnswer_0_0.1 20 (91, .getfield 109, 3) rfl
theorem dX5_takesAnswer_94 : decode cX5_takesAnswer 94 = .ok (.aload_n 1, 1) := dr9 dk9_dX5_takesAnswer_0_0.1 21 (94, .aload_n 1, 1) rfl
theorem dX5_takesAnswer_95 : decode cX5_takesAnswer 95 = .ok (.getfield 112, 3) := dr9 dk9_dX5_takesAnswer_0_0.1 22 (95, .getfield 112, 3) rfl
theorem dX5_takesAnswer_98 : decode cX5_takesAnswer 98 = .ok (.invokevirtual 353, 3) := dr9 dk9_dX5_takesAnswer_0_0.1 23 (98, .invokevirtual 353, 3) rfl
theorem dX5_takesAnswer_101 : decode cX5_takesAnswer 101 = .ok (.istore_n 2, 1) := dr9 dk9_dX5_takesAnswer_0_0.2.1 0 (101, .istore_n 2, 1) rfl
theorem dX5_takesAnswer_102 : decode cX5_takesAnswer 102 = .ok (.iload_n 2, 1) := dr9 dk9_dX5_takesAnswer_0_0.2.1 1 (102, .iload_n 2, 1) rfl
theorem dX5_takesAnswer_103 : decode cX5_takesAnswer 103 = .ok (.iconst (-1), 1) := dr9 dk9_dX5_takesAnswer_0_0.2.1 2 (103, .iconst (-1), 1) rfl
theorem dX5_takesAnswer_104 : decode cX5_takesAnswer 104 = .ok (.if_icmp .ne 13, 3) := dr9 dk9_dX5_takesAnswer_0_0.2.1 3 (104, .if_icmp .ne 13, 3) rfl
theorem dX5_takesAnswer_117 : decode cX5_takesAnswer 117 = .ok (.aload_n 1, 1) := dr9 dk9_dX5_takesAnswer_0_0.2.1 4 (117, .aload_n 1, 1) rfl
theorem dX5_takesAnswer_118 : decode cX5_takesAnswer 118 = .ok (.dup, 1) := dr9 dk9_dX5_takesAnswer_0_0.2.1 5 (118, .dup, 1) rfl
theorem dX5_takesAnswer_119 : decode cX5_takesAnswer 119 = .ok (.getfield 112, 3) := dr9 dk9_dX5_takesAnswer_0_0.2.1 6 (119, .getfield 112, 3) rfl
theorem dX5_takesAnswer_122 : decode cX5_takesAnswer 122 = .ok (.iconst 1, 1) := dr9 dk9_dX5_takesAnswer_0_0.2.1 7 (122, .iconst 1, 1) rfl
theorem dX5_takesAnswer_123 : decode cX5_takesAnswer 123 = .ok (.iadd, 1) := dr9 dk9_dX5_takesAnswer_0_0.2.1 8 (123, .iadd, 1) rfl
theorem dX5_takesAnswer_124 : decode cX5_takesAnswer 124 = .ok (.putfield 112, 3) := dr9 dk9_dX5_takesAnswer_0_0.2.1 9 (124, .putfield 112, 3) rfl
theorem dX5_takesAnswer_127 : decode cX5_takesAnswer 127 = .ok (.aload_n 0, 1) := dr9 dk9_dX5_takesAnswer_0_0.2.1 10 (127, .aload_n 0, 1) rfl
theorem dX5_takesAnswer_128 : decode cX5_takesAnswer 128 = .ok (.iload_n 2, 1) := dr9 dk9_dX5_takesAnswer_0_0.2.1 11 (128, .iload_n 2, 1) rfl
theorem dX5_takesAnswer_129 : decode cX5_takesAnswer 129 = .ok (.aload_n 1, 1) := dr9 dk9_dX5_takesAnswer_0_0.2.1 12 (129, .aload_n 1, 1) rfl
theorem dX5_takesAnswer_130 : decode cX5_takesAnswer 130 = .ok (.getfield 106, 3) := dr9 dk9_dX5_takesAnswer_0_0.2.1 13 (130, .getfield 106, 3) rfl
theorem dX5_takesAnswer_133 : decode cX5_takesAnswer 133 = .ok (.aload_n 1, 1) := dr9 dk9_dX5_takesAnswer_0_0.2.1 14 (133, .aload_n 1, 1) rfl
theorem dX5_takesAnswer_134 : decode cX5_takesAnswer 134 = .ok (.getfield 347, 3) := dr9 dk9_dX5_takesAnswer_0_0.2.1 15 (134, .getfield 347, 3) rfl
theorem dX5_takesAnswer_137 : decode cX5_takesAnswer 137 = .ok (.aload_n 1, 1) := dr9 dk9_dX5_takesAnswer_0_0.2.1 16 (137, .aload_n 1, 1) rfl
theorem dX5_takesAnswer_138 : decode cX5_takesAnswer 138 = .ok (.getfield 350, 3) := dr9 dk9_dX5_takesAnswer_0_0.2.1 17 (138, .getfield 350, 3) rfl
theorem dX5_takesAnswer_141 : decode cX5_takesAnswer 141 = .ok (.aload_n 1, 1) := dr9 dk9_dX5_takesAnswer_0_0.2.1 18 (141, .aload_n 1, 1) rfl
theorem dX5_takesAnswer_142 : decode cX5_takesAnswer 142 = .ok (.getfield 97, 3) := dr9 dk9_dX5_takesAnswer_0_0.2.1 19 (142, .getfield 97, 3) rfl
theorem dX5_takesAnswer_145 : decode cX5_takesAnswer 145 = .ok (.iconst 1, 1) := dr9 dk9_dX5_takesAnswer_0_0.2.1 20 (145, .iconst 1, 1) rfl
theorem dX5_takesAnswer_146 : decode cX5_takesAnswer 146 = .ok (.iadd, 1) := dr9 dk9_dX5_takesAnswer_0_0.2.1 21 (146, .iadd, 1) rfl
theorem dX5_takesAnswer_147 : decode cX5_takesAnswer 147 = .ok (.invokevirtual 362, 3) := dr9 dk9_dX5_takesAnswer_0_0.2.1 22 (147, .invokevirtual 362, 3) rfl
theorem dX5_takesAnswer_150 : decode cX5_takesAnswer 150 = .ok (.iconst 0, 1) := dr9 dk9_dX5_takesAnswer_0_0.2.1 23 (150, .iconst 0, 1) rfl
theorem dX5_takesAnswer_151 : decode cX5_takesAnswer 151 = .ok (.ireturn, 1) := dr9 dk9_dX5_takesAnswer_0_0.2.2.1 0 (151, .ireturn, 1) rfl
theorem dX5_takesAnswer_107 : decode cX5_takesAnswer 107 = .ok (.aload_n 0, 1) := dr9 dk9_dX5_takesAnswer_0_0.2.2.1 1 (107, .aload_n 0, 1) rfl
theorem dX5_takesAnswer_108 : decode cX5_takesAnswer 108 = .ok (.aload_n 1, 1) := dr9 dk9_dX5_takesAnswer_0_0.2.2.1 2 (108, .aload_n 1, 1) rfl
theorem dX5_takesAnswer_109 : decode cX5_takesAnswer 109 = .ok (.getfield 356, 3) := dr9 dk9_dX5_takesAnswer_0_0.2.2.1 3 (109, .getfield 356, 3) rfl
theorem dX5_takesAnswer_112 : decode cX5_takesAnswer 112 = .ok (.invokevirtual 338, 3) := dr9 dk9_dX5_takesAnswer_0_0.2.2.1 4 (112, .invokevirtual 338, 3) rfl
theorem dX5_takesAnswer_115 : decode cX5_takesAnswer 115 = .ok (.iconst 1, 1) := dr9 dk9_dX5_takesAnswer_0_0.2.2.1 5 (115, .iconst 1, 1) rfl
theorem dX5_takesAnswer_116 : decode cX5_takesAnswer 116 = .ok (.ireturn, 1) := dr9 dk9_dX5_takesAnswer_0_0.2.2.1 6 (116, .ireturn, 1) rfl
theorem dX5_takesAnswer_27 : decode cX5_takesAnswer 27 = .ok (.aload_n 0, 1) := dr9 dk9_dX5_takesAnswer_0_0.2.2.1 7 (27, .aload_n 0, 1) rfl
theorem dX5_takesAnswer_28 : decode cX5_takesAnswer 28 = .ok (.aload_n 1, 1) := dr9 dk9_dX5_takesAnswer_0_0.2.2.1 8 (28, .aload_n 1, 1) rfl
theorem dX5_takesAnswer_29 : decode cX5_takesAnswer 29 = .ok (.aload_n 0, 1) := dr9 dk9_dX5_takesAnswer_0_0.2.2.1 9 (29, .aload_n 0, 1) rfl
theorem dX5_takesAnswer_30 : decode cX5_takesAnswer 30 = .ok (.getfield 67, 3) := dr9 dk9_dX5_takesAnswer_0_0.2.2.1 10 (30, .getfield 67, 3) rfl
theorem dX5_takesAnswer_33 : decode cX5_takesAnswer 33 = .ok (.invokevirtual 372, 3) := dr9 dk9_dX5_takesAnswer_0_0.2.2.1 11 (33, .invokevirtual 372, 3) rfl
theorem dX5_takesAnswer_36 : decode cX5_takesAnswer 36 = .ok (.aload_n 1, 1) := dr9 dk9_dX5_takesAnswer_0_0.2.2.1 12 (36, .aload_n 1, 1) rfl
theorem dX5_takesAnswer_37 : decode cX5_takesAnswer 37 = .ok (.iconst 1, 1) := dr9 dk9_dX5_takesAnswer_0_0.2.2.1 13 (37, .iconst 1, 1) rfl
theorem dX5_takesAnswer_38 : decode cX5_takesAnswer 38 = .ok (.putfield 94, 3) := dr9 dk9_dX5_takesAnswer_0_0.2.2.1 14 (38, .putfield 94, 3) rfl
theorem dX5_takesAnswer_41 : decode cX5_takesAnswer 41 = .ok (.aload_n 0, 1) := dr9 dk9_dX5_takesAnswer_0_0.2.2.1 15 (41, .aload_n 0, 1) rfl
theorem dX5_takesAnswer_42 : decode cX5_takesAnswer 42 = .ok (.aload_n 0, 1) := dr9 dk9_dX5_takesAnswer_0_0.2.2.1 16 (42, .aload_n 0, 1) rfl
theorem dX5_takesAnswer_43 : decode cX5_takesAnswer 43 = .ok (.getfield 67, 3) := dr9 dk9_dX5_takesAnswer_0_0.2.2.1 17 (43, .getfield 67, 3) rfl
theorem dX5_takesAnswer_46 : decode cX5_takesAnswer 46 = .ok (.aload_n 1, 1) := dr9 dk9_dX5_takesAnswer_0_0.2.2.1 18 (46, .aload_n 1, 1) rfl
theorem dX5_takesAnswer_47 : decode cX5_takesAnswer 47 = .ok (.getfield 106, 3) := dr9 dk9_dX5_takesAnswer_0_0.2.2.1 19 (47, .getfield 106, 3) rfl
theorem dX5_takesAnswer_50 : decode cX5_takesAnswer 50 = .ok (.aload_n 1, 1) := dr9 dk9_dX5_takesAnswer_0_0.2.2.1 20 (50, .aload_n 1, 1) rfl
theorem dX5_takesAnswer_51 : decode cX5_takesAnswer 51 = .ok (.getfield 347, 3) := dr9 dk9_dX5_takesAnswer_0_0.2.2.1 21 (51, .getfield 347, 3) rfl
theorem dX5_takesAnswer_54 : decode cX5_takesAnswer 54 = .ok (.aload_n 1, 1) := dr9 dk9_dX5_takesAnswer_0_0.2.2.1 22 (54, .aload_n 1, 1) rfl
theorem dX5_takesAnswer_55 : decode cX5_takesAnswer 55 = .ok (.getfield 350, 3) := dr9 dk9_dX5_takesAnswer_0_0.2.2.1 23 (55, .getfield 350, 3) rfl
theorem dX5_takesAnswer_58 : decode cX5_takesAnswer 58 = .ok (.aload_n 1, 1) := dr9 dk9_dX5_takesAnswer_0_0.2.2.2 0 (58, .aload_n 1, 1) rfl
theorem dX5_takesAnswer_59 : decode cX5_takesAnswer 59 = .ok (.getfield 97, 3) := dr9 dk9_dX5_takesAnswer_0_0.2.2.2 1 (59, .getfield 97, 3) rfl
theorem dX5_takesAnswer_62 : decode cX5_takesAnswer 62 = .ok (.iconst 1, 1) := dr9 dk9_dX5_takesAnswer_0_0.2.2.2 2 (62, .iconst 1, 1) rfl
theorem dX5_takesAnswer_63 : decode cX5_takesAnswer 63 = .ok (.iadd, 1) := dr9 dk9_dX5_takesAnswer_0_0.2.2.2 3 (63, .iadd, 1) rfl
theorem dX5_takesAnswer_64 : decode cX5_takesAnswer 64 = .ok (.invokevirtual 362, 3) := dr9 dk9_dX5_takesAnswer_0_0.2.2.2 4 (64, .invokevirtual 362, 3) rfl
theorem dX5_takesAnswer_67 : decode cX5_takesAnswer 67 = .ok (.iconst 0, 1) := dr9 dk9_dX5_takesAnswer_0_0.2.2.2 5 (67, .iconst 0, 1) rfl
theorem dX5_takesAnswer_68 : decode cX5_takesAnswer 68 = .ok (.ireturn, 1) := dr9 dk9_dX5_takesAnswer_0_0.2.2.2 6 (68, .ireturn, 1) rfl
theorem dX5_takesAnswer_8 : decode cX5_takesAnswer 8 = .ok (.aload_n 0, 1) := dr9 dk9_dX5_takesAnswer_0_0.2.2.2 7 (8, .aload_n 0, 1) rfl
theorem dX5_takesAnswer_9 : decode cX5_takesAnswer 9 = .ok (.aload_n 0, 1) := dr9 dk9_dX5_takesAnswer_0_0.2.2.2 8 (9, .aload_n 0, 1) rfl
theorem dX5_takesAnswer_10 : decode cX5_takesAnswer 10 = .ok (.getfield 67, 3) := dr9 dk9_dX5_takesAnswer_0_0.2.2.2 9 (10, .getfield 67, 3) rfl
theorem dX5_takesAnswer_13 : decode cX5_takesAnswer 13 = .ok (.invokevirtual 338, 3) := dr9 dk9_dX5_takesAnswer_0_0.2.2.2 10 (13, .invokevirtual 338, 3) rfl
theorem dX5_takesAnswer_16 : decode cX5_takesAnswer 16 = .ok (.iconst 1, 1) := dr9 dk9_dX5_takesAnswer_0_0.2.2.2 11 (16, .iconst 1, 1) rfl
theorem dX5_takesAnswer_17 : decode cX5_takesAnswer 17 = .ok (.ireturn, 1) := dr9 dk9_dX5_takesAnswer_0_0.2.2.2 12 (17, .ireturn, 1) rfl
theorem dk9_dX5_getLate_0_0 : dOk cX5_getLate [(0, .aload_n 1, 1), (1, .getfield 97, 3), (4, .bipush 10, 2), (6, .if_icmp .lt 11, 3), (17, .aload_n 0, 1), (18, .getfield 24, 3), (21, .aload_n 1, 1), (22, .getfield 103, 3), (25, .aload_n 1, 1), (26, .getfield 109, 3), (29, .invokevirtual 366, 3), (32, .istore_n 2, 1), (33, .aload_n 0, 1), (34, .iload_n 2, 1), (35, .aload_n 1, 1), (36, .getfield 106, 3), (39, .aload_n 1, 1), (40, .getfield 97, 3), (43, .iconst 1, 1), (44, .iadd, 1), (45, .invokevirtual 369, 3), (48, .return_, 1), (9, .aload_n 0, 1), (10, .iconst 0, 1)] = true ∧ dOk cX5_getLate [(11, .bipush 13, 2), (13, .invokevirtual 169, 3), (16, .return_, 1)] = true := by decide +kernel
theorem dX5_getLate_0 : decode cX5_getLate 0 = .ok (.aload_n 1, 1) := dr9 dk9_dX5_getLate_0_0.1 0 (0, .aload_n 1, 1) rfl
theorem dX5_getLate_1 : decode cX5_getLate 1 = .ok (.getfield 97, 3) := dr9 dk9_dX5_getLate_0_0.1 1 (1, .getfield 97, 3) rfl
theorem dX5_getLate_4 : decode cX5_getLate 4 = .ok (.bipush 10, 2) := dr9 dk9_dX5_getLate_0_0.1 2 (4, .bipush 10, 2) rfl
theorem dX5_getLate_6 : decode cX5_getLate 6 = .ok (.if_icmp .lt 11, 3) := dr9 dk9_dX5_getLate_0_0.1 3 (6, .if_icmp .lt 11, 3) rfl
theorem dX5_getLate_17 : decode cX5_getLate 17 = .ok (.aload_n 0, 1) := dr9 dk9_dX5_getLate_0_0.1 4 (17, .aload_n 0, 1) rfl
theorem dX5_getLate_18 : decode cX5_getLate 18 = .ok (.getfield 24, 3) := dr9 dk9_dX5_getLate_0_0.1 5 (18, .getfield 24, 3) rfl
theorem dX5_getLate_21 : decode cX5_getLate 21 = .ok (.aload_n 1, 1) := dr9 dk9_dX5_getLate_0_0.1 6 (21, .aload_n 1, 1) rfl
theorem dX5_getLate_22 : decode cX5_getLate 22 = .ok (.getfield 103, 3) := dr9 dk9_dX5_getLate_0_0.1 7 (22, .getfield 103, 3) rfl
theorem dX5_getLate_25 : decode cX5_getLate 25 = .ok (.aload_n 1, 1) := dr9 dk9_dX5_getLate_0_0.1 8 (25, .aload_n 1, 1) rfl
theorem dX5_getLate_26 : decode cX5_getLate 26 = .ok (.getfield 109, 3) := dr9 dk9_dX5_getLate_0_0.1 9 (26, .getfield 109, 3) rfl
theorem dX5_getLate_29 : decode cX5_getLate 29 = .ok (.invokevirtual 366, 3) := dr9 dk9_dX5_getLate_0_0.1 10 (29, .invokevirtual 366, 3) rfl
theorem dX5_getLate_32 : decode cX5_getLate 32 = .ok (.istore_n 2, 1) := dr9 dk9_dX5_getLate_0_0.1 11 (32, .istore_n 2, 1) rfl
theorem dX5_getLate_33 : decode cX5_getLate 33 = .ok (.aload_n 0, 1) := dr9 dk9_dX5_getLate_0_0.1 12 (33, .aload_n 0, 1) rfl
theorem dX5_getLate_34 : decode cX5_getLate 34 = .ok (.iload_n 2, 1) := dr9 dk9_dX5_getLate_0_0.1 13 (34, .iload_n 2, 1) rfl
theorem dX5_getLate_35 : decode cX5_getLate 35 = .ok (.aload_n 1, 1) := dr9 dk9_dX5_getLate_0_0.1 14 (35, .aload_n 1, 1) rfl
theorem dX5_getLate_36 : decode cX5_getLate 36 = .ok (.getfield 106, 3) := dr9 dk9_dX5_getLate_0_0.1 15 (36, .getfield 106, 3) rfl
theorem dX5_getLate_39 : decode cX5_getLate 39 = .ok (.aload_n 1, 1) := dr9 dk9_dX5_getLate_0_0.1 16 (39, .aload_n 1, 1) rfl
theorem dX5_getLate_40 : decode cX5_getLate 40 = .ok (.getfield 97, 3) := dr9 dk9_dX5_getLate_0_0.1 17 (40, .getfield 97, 3) rfl
theorem dX5_getLate_43 : decode cX5_getLate 43 = .ok (.iconst 1, 1) := dr9 dk9_dX5_getLate_0_0.1 18 (43, .iconst 1, 1) rfl
theorem dX5_getLate_44 : decode cX5_getLate 44 = .ok (.iadd, 1) := dr9 dk9_dX5_getLate_0_0.1 19 (44, .iadd, 1) rfl
theorem dX5_getLate_45 : decode cX5_getLate 45 = .ok (.invokevirtual 369, 3) := dr9 dk9_dX5_getLate_0_0.1 20 (45, .invokevirtual 369, 3) rfl
theorem dX5_getLate_48 : decode cX5_getLate 48 = .ok (.return_, 1) := dr9 dk9_dX5_getLate_0_0.1 21 (48, .return_, 1) rfl
theorem dX5_getLate_9 : decode cX5_getLate 9 = .ok (.aload_n 0, 1) := dr9 dk9_dX5_getLate_0_0.1 22 (9, .aload_n 0, 1) rfl
theorem dX5_getLate_10 : decode cX5_getLate 10 = .ok (.iconst 0, 1) := dr9 dk9_dX5_getLate_0_0.1 23 (10, .iconst 0, 1) rfl
theorem dX5_getLate_11 : decode cX5_getLate 11 = .ok (.bipush 13, 2) := dr9 dk9_dX5_getLate_0_0.2 0 (11, .bipush 13, 2) rfl
theorem dX5_getLate_13 : decode cX5_getLate 13 = .ok (.invokevirtual 169, 3) := dr9 dk9_dX5_getLate_0_0.2 1 (13, .invokevirtual 169, 3) rfl
theorem dX5_getLate_16 : decode cX5_getLate 16 = .ok (.return_, 1) := dr9 dk9_dX5_getLate_0_0.2 2 (16, .return_, 1) rfl
theorem dk9_dX5_callNeed_0_0 : dOk cX5_callNeed [(0, .aload_n 0, 1), (1, .getfield 24, 3), (4, .getfield 178, 3), (7, .aload_n 1, 1), (8, .getfield 103, 3), (11, .aaload, 1), (12, .getfield 236, 3), (15, .aload_n 1, 1), (16, .getfield 109, 3), (19, .iaload, 1), (20, .istore_n 2, 1), (21, .aload_n 0, 1), (22, .getfield 28, 3), (25, .aload_n 1, 1), (26, .getfield 100, 3), (29, .aload_n 1, 1), (30, .getfield 109, 3), (33, .iconst 0, 1), (34, .invokevirtual 353, 3), (37, .istore_n 3, 1), (38, .iload_n 2, 1), (39, .iconst 2, 1), (40, .if_icmp .ne 27, 3), (67, .iload_n 2, 1)] = true ∧ dOk cX5_callNeed [(68, .iconst 1, 1), (69, .if_icmp .ne 22, 3), (91, .aload_n 1, 1), (92, .iconst 1, 1), (93, .putfield 94, 3), (96, .aload_n 0, 1), (97, .iload_n 3, 1), (98, .aload_n 1, 1), (99, .getfield 106, 3), (102, .aload_n 1, 1), (103, .getfield 347, 3), (106, .aload_n 1, 1), (107, .getfield 350, 3), (110, .aload_n 1, 1), (111, .getfield 97, 3), (114, .iconst 1, 1), (115, .iadd, 1), (116, .invokevirtual 362, 3), (119, .return_, 1), (72, .iload_n 3, 1), (73, .iconst (-1), 1), (74, .if_icmp .ne 17, 3), (77, .aload_n 1, 1), (78, .bipush 7, 2)] = true ∧ dOk cX5_callNeed [(80, .putfield 94, 3), (83, .aload_n 0, 1), (84, .aload_n 1, 1), (85, .invokevirtual 359, 3), (88, .goto 31, 3), (43, .aload_n 1, 1), (44, .bipush 8, 2), (46, .putfield 94, 3), (49, .aload_n 1, 1), (50, .iconst 0, 1), (51, .putfield 112, 3), (54, .aload_n 1, 1), (55, .iconst 0, 1), (56, .putfield 356, 3), (59, .aload_n 0, 1), (60, .iconst 0, 1), (61, .invokevirtual 203, 3), (64, .goto 55, 3)] = true := by decide +kernel
theorem dX5_callNeed_0 : decode cX5_callNeed 0 = .ok (.aload_n 0, 1) := dr9 dk9_dX5_callNeed_0_0.1 0 (0, .aload_n 0, 1) rfl
theorem dX5_callNeed_1 : decode cX5_callNeed 1 = .ok (.getfield 24, 3) := dr9 dk9_dX5_callNeed_0_0.1 1 (1, .getfield 24, 3) rfl
theorem dX5_callNeed_4 : decode cX5_callNeed 4 = .ok (.getfield 178, 3) := dr9 dk9_dX5_callNeed_0_0.1 2 (4, .getfield 178, 3) rfl
theorem dX5_callNeed_7 : decode cX5_callNeed 7 = .ok (.aload_n 1, 1) := dr9 dk9_dX5_callNeed_0_0.1 3 (7, .aload_n 1, 1) rfl
theorem dX5_callNeed_8 : decode cX5_callNeed 8 = .ok (.getfield 103, 3) := dr9 dk9_dX5_callNeed_0_0.1 4 (8, .getfield 103, 3) rfl
theorem dX5_callNeed_11 : decode cX5_callNeed 11 = .ok (.aaload, 1) := dr9 dk9_dX5_callNeed_0_0.1 5 (11, .aaload, 1) rfl
theorem dX5_callNeed_12 : decode cX5_callNeed 12 = .ok (.getfield 236, 3) := dr9 dk9_dX5_callNeed_0_0.1 6 (12, .getfield 236, 3) rfl
theorem dX5_callNeed_15 : decode cX5_callNeed 15 = .ok (.aload_n 1, 1) := dr9 dk9_dX5_callNeed_0_0.1 7 (15, .aload_n 1, 1) rfl
theorem dX5_callNeed_16 : decode cX5_callNeed 16 = .ok (.getfield 109, 3) := dr9 dk9_dX5_callNeed_0_0.1 8 (16, .getfield 109, 3) rfl
theorem dX5_callNeed_19 : decode cX5_callNeed 19 = .ok (.iaload, 1) := dr9 dk9_dX5_callNeed_0_0.1 9 (19, .iaload, 1) rfl
theorem dX5_callNeed_20 : decode cX5_callNeed 20 = .ok (.istore_n 2, 1) := dr9 dk9_dX5_callNeed_0_0.1 10 (20, .istore_n 2, 1) rfl
theorem dX5_callNeed_21 : decode cX5_callNeed 21 = .ok (.aload_n 0, 1) := dr9 dk9_dX5_callNeed_0_0.1 11 (21, .aload_n 0, 1) rfl
theorem dX5_callNeed_22 : decode cX5_callNeed 22 = .ok (.getfield 28, 3) := dr9 dk9_dX5_callNeed_0_0.1 12 (22, .getfield 28, 3) rfl
theorem dX5_callNeed_25 : decode cX5_callNeed 25 = .ok (.aload_n 1, 1) := dr9 dk9_dX5_callNeed_0_0.1 13 (25, .aload_n 1, 1) rfl
theorem dX5_callNeed_26 : decode cX5_callNeed 26 = .ok (.getfield 100, 3) := dr9 dk9_dX5_callNeed_0_0.1 14 (26, .getfield 100, 3) rfl
theorem dX5_callNeed_29 : decode cX5_callNeed 29 = .ok (.aload_n 1, 1) := dr9 dk9_dX5_callNeed_0_0.1 15 (29, .aload_n 1, 1) rfl
theorem dX5_callNeed_30 : decode cX5_callNeed 30 = .ok (.getfield 109, 3) := dr9 dk9_dX5_callNeed_0_0.1 16 (30, .getfield 109, 3) rfl
theorem dX5_callNeed_33 : decode cX5_callNeed 33 = .ok (.iconst 0, 1) := dr9 dk9_dX5_callNeed_0_0.1 17 (33, .iconst 0, 1) rfl
theorem dX5_callNeed_34 : decode cX5_callNeed 34 = .ok (.invokevirtual 353, 3) := dr9 dk9_dX5_callNeed_0_0.1 18 (34, .invokevirtual 353, 3) rfl
theorem dX5_callNeed_37 : decode cX5_callNeed 37 = .ok (.istore_n 3, 1) := dr9 dk9_dX5_callNeed_0_0.1 19 (37, .istore_n 3, 1) rfl
theorem dX5_callNeed_38 : decode cX5_callNeed 38 = .ok (.iload_n 2, 1) := dr9 dk9_dX5_callNeed_0_0.1 20 (38, .iload_n 2, 1) rfl
theorem dX5_callNeed_39 : decode cX5_callNeed 39 = .ok (.iconst 2, 1) := dr9 dk9_dX5_callNeed_0_0.1 21 (39, .iconst 2, 1) rfl
theorem dX5_callNeed_40 : decode cX5_callNeed 40 = .ok (.if_icmp .ne 27, 3) := dr9 dk9_dX5_callNeed_0_0.1 22 (40, .if_icmp .ne 27, 3) rfl
theorem dX5_callNeed_67 : decode cX5_callNeed 67 = .ok (.iload_n 2, 1) := dr9 dk9_dX5_callNeed_0_0.1 23 (67, .iload_n 2, 1) rfl
theorem dX5_callNeed_68 : decode cX5_callNeed 68 = .ok (.iconst 1, 1) := dr9 dk9_dX5_callNeed_0_0.2.1 0 (68, .iconst 1, 1) rfl
theorem dX5_callNeed_69 : decode cX5_callNeed 69 = .ok (.if_icmp .ne 22, 3) := dr9 dk9_dX5_callNeed_0_0.2.1 1 (69, .if_icmp .ne 22, 3) rfl
theorem dX5_callNeed_91 : decode cX5_callNeed 91 = .ok (.aload_n 1, 1) := dr9 dk9_dX5_callNeed_0_0.2.1 2 (91, .aload_n 1, 1) rfl
theorem dX5_callNeed_92 : decode cX5_callNeed 92 = .ok (.iconst 1, 1) := dr9 dk9_dX5_callNeed_0_0.2.1 3 (92, .iconst 1, 1) rfl
theorem dX5_callNeed_93 : decode cX5_callNeed 93 = .ok (.putfield 94, 3) := dr9 dk9_dX5_callNeed_0_0.2.1 4 (93, .putfield 94, 3) rfl
theorem dX5_callNeed_96 : decode cX5_callNeed 96 = .ok (.aload_n 0, 1) := dr9 dk9_dX5_callNeed_0_0.2.1 5 (96, .aload_n 0, 1) rfl
theorem dX5_callNeed_97 : decode cX5_callNeed 97 = .ok (.iload_n 3, 1) := dr9 dk9_dX5_callNeed_0_0.2.1 6 (97, .iload_n 3, 1) rfl
theorem dX5_callNeed_98 : decode cX5_callNeed 98 = .ok (.aload_n 1, 1) := dr9 dk9_dX5_callNeed_0_0.2.1 7 (98, .aload_n 1, 1) rfl
theorem dX5_callNeed_99 : decode cX5_callNeed 99 = .ok (.getfield 106, 3) := dr9 dk9_dX5_callNeed_0_0.2.1 8 (99, .getfield 106, 3) rfl
theorem dX5_callNeed_102 : decode cX5_callNeed 102 = .ok (.aload_n 1, 1) := dr9 dk9_dX5_callNeed_0_0.2.1 9 (102, .aload_n 1, 1) rfl
theorem dX5_callNeed_103 : decode cX5_callNeed 103 = .ok (.getfield 347, 3) := dr9 dk9_dX5_callNeed_0_0.2.1 10 (103, .getfield 347, 3) rfl
theorem dX5_callNeed_106 : decode cX5_callNeed 106 = .ok (.aload_n 1, 1) := dr9 dk9_dX5_callNeed_0_0.2.1 11 (106, .aload_n 1, 1) rfl
theorem dX5_callNeed_107 : decode cX5_callNeed 107 = .ok (.getfield 350, 3) := dr9 dk9_dX5_callNeed_0_0.2.1 12 (107, .getfield 350, 3) rfl
theorem dX5_callNeed_110 : decode cX5_callNeed 110 = .ok (.aload_n 1, 1) := dr9 dk9_dX5_callNeed_0_0.2.1 13 (110, .aload_n 1, 1) rfl
theorem dX5_callNeed_111 : decode cX5_callNeed 111 = .ok (.getfield 97, 3) := dr9 dk9_dX5_callNeed_0_0.2.1 14 (111, .getfield 97, 3) rfl
theorem dX5_callNeed_114 : decode cX5_callNeed 114 = .ok (.iconst 1, 1) := dr9 dk9_dX5_callNeed_0_0.2.1 15 (114, .iconst 1, 1) rfl
theorem dX5_callNeed_115 : decode cX5_callNeed 115 = .ok (.iadd, 1) := dr9 dk9_dX5_callNeed_0_0.2.1 16 (115, .iadd, 1) rfl
theorem dX5_callNeed_116 : decode cX5_callNeed 116 = .ok (.invokevirtual 362, 3) := dr9 dk9_dX5_callNeed_0_0.2.1 17 (116, .invokevirtual 362, 3) rfl
theorem dX5_callNeed_119 : decode cX5_callNeed 119 = .ok (.return_, 1) := dr9 dk9_dX5_callNeed_0_0.2.1 18 (119, .return_, 1) rfl
theorem dX5_callNeed_72 : decode cX5_callNeed 72 = .ok (.iload_n 3, 1) := dr9 dk9_dX5_callNeed_0_0.2.1 19 (72, .iload_n 3, 1) rfl
theorem dX5_callNeed_73 : decode cX5_callNeed 73 = .ok (.iconst (-1), 1) := dr9 dk9_dX5_callNeed_0_0.2.1 20 (73, .iconst (-1), 1) rfl
theorem dX5_callNeed_74 : decode cX5_callNeed 74 = .ok (.if_icmp .ne 17, 3) := dr9 dk9_dX5_callNeed_0_0.2.1 21 (74, .if_icmp .ne 17, 3) rfl
theorem dX5_callNeed_77 : decode cX5_callNeed 77 = .ok (.aload_n 1, 1) := dr9 dk9_dX5_callNeed_0_0.2.1 22 (77, .aload_n 1, 1) rfl
theorem dX5_callNeed_78 : decode cX5_callNeed 78 = .ok (.bipush 7, 2) := dr9 dk9_dX5_callNeed_0_0.2.1 23 (78, .bipush 7, 2) rfl
theorem dX5_callNeed_80 : decode cX5_callNeed 80 = .ok (.putfield 94, 3) := dr9 dk9_dX5_callNeed_0_0.2.2 0 (80, .putfield 94, 3) rfl
theorem dX5_callNeed_83 : decode cX5_callNeed 83 = .ok (.aload_n 0, 1) := dr9 dk9_dX5_callNeed_0_0.2.2 1 (83, .aload_n 0, 1) rfl
theorem dX5_callNeed_84 : decode cX5_callNeed 84 = .ok (.aload_n 1, 1) := dr9 dk9_dX5_callNeed_0_0.2.2 2 (84, .aload_n 1, 1) rfl
theorem dX5_callNeed_85 : decode cX5_callNeed 85 = .ok (.invokevirtual 359, 3) := dr9 dk9_dX5_callNeed_0_0.2.2 3 (85, .invokevirtual 359, 3) rfl
theorem dX5_callNeed_88 : decode cX5_callNeed 88 = .ok (.goto 31, 3) := dr9 dk9_dX5_callNeed_0_0.2.2 4 (88, .goto 31, 3) rfl
theorem dX5_callNeed_43 : decode cX5_callNeed 43 = .ok (.aload_n 1, 1) := dr9 dk9_dX5_callNeed_0_0.2.2 5 (43, .aload_n 1, 1) rfl
theorem dX5_callNeed_44 : decode cX5_callNeed 44 = .ok (.bipush 8, 2) := dr9 dk9_dX5_callNeed_0_0.2.2 6 (44, .bipush 8, 2) rfl
theorem dX5_callNeed_46 : decode cX5_callNeed 46 = .ok (.putfield 94, 3) := dr9 dk9_dX5_callNeed_0_0.2.2 7 (46, .putfield 94, 3) rfl
theorem dX5_callNeed_49 : decode cX5_callNeed 49 = .ok (.aload_n 1, 1) := dr9 dk9_dX5_callNeed_0_0.2.2 8 (49, .aload_n 1, 1) rfl
theorem dX5_callNeed_50 : decode cX5_callNeed 50 = .ok (.iconst 0, 1) := dr9 dk9_dX5_callNeed_0_0.2.2 9 (50, .iconst 0, 1) rfl
theorem dX5_callNeed_51 : decode cX5_callNeed 51 = .ok (.putfield 112, 3) := dr9 dk9_dX5_callNeed_0_0.2.2 10 (51, .putfield 112, 3) rfl
theorem dX5_callNeed_54 : decode cX5_callNeed 54 = .ok (.aload_n 1, 1) := dr9 dk9_dX5_callNeed_0_0.2.2 11 (54, .aload_n 1, 1) rfl
theorem dX5_callNeed_55 : decode cX5_callNeed 55 = .ok (.iconst 0, 1) := dr9 dk9_dX5_callNeed_0_0.2.2 12 (55, .iconst 0, 1) rfl
theorem dX5_callNeed_56 : decode cX5_callNeed 56 = .ok (.putfield 356, 3) := dr9 dk9_dX5_callNeed_0_0.2.2 13 (56, .putfield 356, 3) rfl
theorem dX5_callNeed_59 : decode cX5_callNeed 59 = .ok (.aload_n 0, 1) := dr9 dk9_dX5_callNeed_0_0.2.2 14 (59, .aload_n 0, 1) rfl
theorem dX5_callNeed_60 : decode cX5_callNeed 60 = .ok (.iconst 0, 1) := dr9 dk9_dX5_callNeed_0_0.2.2 15 (60, .iconst 0, 1) rfl
theorem dX5_callNeed_61 : decode cX5_callNeed 61 = .ok (.invokevirtual 203, 3) := dr9 dk9_dX5_callNeed_0_0.2.2 16 (61, .invokevirtual 203, 3) rfl
theorem dX5_callNeed_64 : decode cX5_callNeed 64 = .ok (.goto 55, 3) := dr9 dk9_dX5_callNeed_0_0.2.2 17 (64, .goto 55, 3) rfl
theorem dk9_dX5_goOnWorking_0_0 : dOk cX5_goOnWorking [(0, .aload_n 1, 1), (1, .getfield 94, 3), (4, .bipush 6, 2), (6, .if_icmp .ne 9, 3), (15, .aload_n 1, 1), (16, .getfield 94, 3), (19, .ifCond .eq 26, 3), (45, .aload_n 1, 1), (46, .iconst 0, 1), (47, .putfield 94, 3), (50, .aload_n 0, 1), (51, .aload_n 1, 1), (52, .invokevirtual 317, 3), (55, .return_, 1), (22, .aload_n 0, 1), (23, .getfield 49, 3), (26, .iconst 1, 1), (27, .if_icmp .eq 9, 3), (36, .aload_n 0, 1), (37, .aload_n 1, 1), (38, .invokevirtual 313, 3), (41, .ifCond .ne 4, 3), (44, .return_, 1), (30, .aload_n 0, 1)] = true ∧ dOk cX5_goOnWorking [(31, .aload_n 1, 1), (32, .invokevirtual 310, 3), (35, .return_, 1), (9, .aload_n 0, 1), (10, .aload_n 1, 1), (11, .invokevirtual 307, 3), (14, .return_, 1)] = true := by decide +kernel
theorem dX5_goOnWorking_0 : decode cX5_goOnWorking 0 = .ok (.aload_n 1, 1) := dr9 dk9_dX5_goOnWorking_0_0.1 0 (0, .aload_n 1, 1) rfl
theorem dX5_goOnWorking_1 : decode cX5_goOnWorking 1 = .ok (.getfield 94, 3) := dr9 dk9_dX5_goOnWorking_0_0.1 1 (1, .getfield 94, 3) rfl
theorem dX5_goOnWorking_4 : decode cX5_goOnWorking 4 = .ok (.bipush 6, 2) := dr9 dk9_dX5_goOnWorking_0_0.1 2 (4, .bipush 6, 2) rfl
theorem dX5_goOnWorking_6 : decode cX5_goOnWorking 6 = .ok (.if_icmp .ne 9, 3) := dr9 dk9_dX5_goOnWorking_0_0.1 3 (6, .if_icmp .ne 9, 3) rfl
theorem dX5_goOnWorking_15 : decode cX5_goOnWorking 15 = .ok (.aload_n 1, 1) := dr9 dk9_dX5_goOnWorking_0_0.1 4 (15, .aload_n 1, 1) rfl
theorem dX5_goOnWorking_16 : decode cX5_goOnWorking 16 = .ok (.getfield 94, 3) := dr9 dk9_dX5_goOnWorking_0_0.1 5 (16, .getfield 94, 3) rfl
theorem dX5_goOnWorking_19 : decode cX5_goOnWorking 19 = .ok (.ifCond .eq 26, 3) := dr9 dk9_dX5_goOnWorking_0_0.1 6 (19, .ifCond .eq 26, 3) rfl
theorem dX5_goOnWorking_45 : decode cX5_goOnWorking 45 = .ok (.aload_n 1, 1) := dr9 dk9_dX5_goOnWorking_0_0.1 7 (45, .aload_n 1, 1) rfl
theorem dX5_goOnWorking_46 : decode cX5_goOnWorking 46 = .ok (.iconst 0, 1) := dr9 dk9_dX5_goOnWorking_0_0.1 8 (46, .iconst 0, 1) rfl
theorem dX5_goOnWorking_47 : decode cX5_goOnWorking 47 = .ok (.putfield 94, 3) := dr9 dk9_dX5_goOnWorking_0_0.1 9 (47, .putfield 94, 3) rfl
theorem dX5_goOnWorking_50 : decode cX5_goOnWorking 50 = .ok (.aload_n 0, 1) := dr9 dk9_dX5_goOnWorking_0_0.1 10 (50, .aload_n 0, 1) rfl
theorem dX5_goOnWorking_51 : decode cX5_goOnWorking 51 = .ok (.aload_n 1, 1) := dr9 dk9_dX5_goOnWorking_0_0.1 11 (51, .aload_n 1, 1) rfl
theorem dX5_goOnWorking_52 : decode cX5_goOnWorking 52 = .ok (.invokevirtual 317, 3) := dr9 dk9_dX5_goOnWorking_0_0.1 12 (52, .invokevirtual 317, 3) rfl
theorem dX5_goOnWorking_55 : decode cX5_goOnWorking 55 = .ok (.return_, 1) := dr9 dk9_dX5_goOnWorking_0_0.1 13 (55, .return_, 1) rfl
theorem dX5_goOnWorking_22 : decode cX5_goOnWorking 22 = .ok (.aload_n 0, 1) := dr9 dk9_dX5_goOnWorking_0_0.1 14 (22, .aload_n 0, 1) rfl
theorem dX5_goOnWorking_23 : decode cX5_goOnWorking 23 = .ok (.getfield 49, 3) := dr9 dk9_dX5_goOnWorking_0_0.1 15 (23, .getfield 49, 3) rfl
theorem dX5_goOnWorking_26 : decode cX5_goOnWorking 26 = .ok (.iconst 1, 1) := dr9 dk9_dX5_goOnWorking_0_0.1 16 (26, .iconst 1, 1) rfl
theorem dX5_goOnWorking_27 : decode cX5_goOnWorking 27 = .ok (.if_icmp .eq 9, 3) := dr9 dk9_dX5_goOnWorking_0_0.1 17 (27, .if_icmp .eq 9, 3) rfl
theorem dX5_goOnWorking_36 : decode cX5_goOnWorking 36 = .ok (.aload_n 0, 1) := dr9 dk9_dX5_goOnWorking_0_0.1 18 (36, .aload_n 0, 1) rfl
theorem dX5_goOnWorking_37 : decode cX5_goOnWorking 37 = .ok (.aload_n 1, 1) := dr9 dk9_dX5_goOnWorking_0_0.1 19 (37, .aload_n 1, 1) rfl
theorem dX5_goOnWorking_38 : decode cX5_goOnWorking 38 = .ok (.invokevirtual 313, 3) := dr9 dk9_dX5_goOnWorking_0_0.1 20 (38, .invokevirtual 313, 3) rfl
theorem dX5_goOnWorking_41 : decode cX5_goOnWorking 41 = .ok (.ifCond .ne 4, 3) := dr9 dk9_dX5_goOnWorking_0_0.1 21 (41, .ifCond .ne 4, 3) rfl
theorem dX5_goOnWorking_44 : decode cX5_goOnWorking 44 = .ok (.return_, 1) := dr9 dk9_dX5_goOnWorking_0_0.1 22 (44, .return_, 1) rfl
theorem dX5_goOnWorking_30 : decode cX5_goOnWorking 30 = .ok (.aload_n 0, 1) := dr9 dk9_dX5_goOnWorking_0_0.1 23 (30, .aload_n 0, 1) rfl
theorem dX5_goOnWorking_31 : decode cX5_goOnWorking 31 = .ok (.aload_n 1, 1) := dr9 dk9_dX5_goOnWorking_0_0.2 0 (31, .aload_n 1, 1) rfl
theorem dX5_goOnWorking_32 : decode cX5_goOnWorking 32 = .ok (.invokevirtual 310, 3) := dr9 dk9_dX5_goOnWorking_0_0.2 1 (32, .invokevirtual 310, 3) rfl
theorem dX5_goOnWorking_35 : decode cX5_goOnWorking 35 = .ok (.return_, 1) := dr9 dk9_dX5_goOnWorking_0_0.2 2 (35, .return_, 1) rfl
theorem dX5_goOnWorking_9 : decode cX5_goOnWorking 9 = .ok (.aload_n 0, 1) := dr9 dk9_dX5_goOnWorking_0_0.2 3 (9, .aload_n 0, 1) rfl
theorem dX5_goOnWorking_10 : decode cX5_goOnWorking 10 = .ok (.aload_n 1, 1) := dr9 dk9_dX5_goOnWorking_0_0.2 4 (10, .aload_n 1, 1) rfl
theorem dX5_goOnWorking_11 : decode cX5_goOnWorking 11 = .ok (.invokevirtual 307, 3) := dr9 dk9_dX5_goOnWorking_0_0.2 5 (11, .invokevirtual 307, 3) rfl
theorem dX5_goOnWorking_14 : decode cX5_goOnWorking 14 = .ok (.return_, 1) := dr9 dk9_dX5_goOnWorking_0_0.2 6 (14, .return_, 1) rfl
abbrev r_x_has2 : Room := { frames := 0, cells := 0, slots := 0, locals := 0 }
abbrev q_x_has2 (D : va_G) (ks : KS) (ad : Nat → Nat) (kk : Nat → ClassId) (V : Vf) (L : Lf) (Z : XZ) (p0 : Int32) (A : Nat → Prop) : Array Value → State → Outcome → State → Prop := va_Qi (fun (r : Int32) (_ : Unit) => (0 ≤ r.toInt ∧ r.toInt ≤ 1) ∧ (Imp (r.toInt = 1) (0 ≤ p0.toInt ∧ p0.toInt < (V 3 13).toInt)) ∧ (Imp (r.toInt = 0) (p0.toInt < 0 ∨ (V 3 13).toInt ≤ p0.toInt))) (fun _ t => gq D A (xw ad kk V L Z) (xty kk Z) t) A
set_option maxHeartbeats 4000000 in
set_option maxRecDepth 100000 in
theorem x_has2 (l : Launch) (D : va_G) (ks : KS) (sz : Nat) (ad : Nat → Nat) (kk : Nat → ClassId) (V : Vf) (L : Lf) (Z : XZ) (p0 : Int32) (hMV : rgd bX V)  : Met l yX8_has (Cond.code yX8_has cX8_has 2 (some .boolean) :: GW) r_x_has2 (va_Pc [.ref (ad 3), .int p0] (gp D ks (xw ad kk V L Z) (xty kk Z) sz)) (q_x_has2 D ks ad kk V L Z p0 (va_A (xw ad kk V L Z) sz)) 0 0 (va_A (xw ad kk V L Z) sz) := by
  refine g_met (q_x_has2 D ks ad kk V L Z p0) (by decide) (Nat.le_of_ble_eq_true rfl) ?_
  intro p e s m below meth c A ls H locs hx hb hr hml hown hg hlocks hin hnw hgk hP hK hD hS hA hl
  have hown : s.vm.findClass RX8 = some m.cls := hown
  have hl : lv_has ls 2 [(0, .ref (ad 3)), (1, .int p0)] := hl
  have hP : va_P D vwCl (xw ad kk V L Z) H := hP
  have hD : va_D A (xw ad kk V L Z) := hD
  have hK : va_K D vwCl (xty kk Z) s := hK
  refine lv_iload_n hx hb dX8_has_0 rfl (lv_at hl 1 rfl) ?_
  refine lv_if_lt (tgt := 16) hx hb dX8_has_1 (by decide) (fun c1 => ?_) (fun c1 => ?_)
  · skip
    have f2 : p0.toInt < 0 := b_lt rfl (by decide) c1
    refine lv_iconst (v := 0) hx hb dX8_has_16 (by decide) ?_
    have r3 : 0 ≤ ((V 3 13)).toInt ∧ ((V 3 13)).toInt ≤ 300 := hMV 3 13
    exact W.zret (v := 0) hx hb hr rfl (fun t ht hW => ⟨⟨0, (), rfl, ⟨(by decide), (Imp.mk (fun hp => absurd hp (by decide))), (Imp.mk (fun _ => (show p0.toInt < 0 ∨ (V 3 13).toInt ≤ p0.toInt from by (first | exact om_84f5b1edef1d f2 | omega))))⟩, by rw [ht]; exact hP, va_K.moved hW.alike hK, hD⟩, hS.F ht⟩) hS.2.2 dX8_has_17
  · skip
    have f4 : 0 ≤ p0.toInt := b_nlt rfl (by decide) c1
    refine lv_iload_n hx hb dX8_has_4 rfl (lv_at hl 1 rfl) ?_
    refine lv_aload_n hx hb dX8_has_5 rfl (lv_at hl 0 rfl) ?_
    refine va_get (D := D) (ci := 8) (v := .int (V 3 13)) (fs := (xfStock ad V L Z)) (C := RX8) (T := TX8) (N := 16) hx hb hg inX8 hown hK hP 3 xgStock rfl 13 (by decide) (hg _ w391) (fun _ h9 => h9) rfl dX8_has_6 ?_
    have r5 : 0 ≤ ((V 3 13)).toInt ∧ ((V 3 13)).toInt ≤ 300 := hMV 3 13
    refine lv_icmp_ge (tgt := 16) hx hb dX8_has_9 (by decide) (fun c6 => ?_) (fun c6 => ?_)
    · skip
      have f7 : ((V 3 13)).toInt ≤ p0.toInt := b_le rfl rfl c6
      refine lv_iconst (v := 0) hx hb dX8_has_16 (by decide) ?_
      exact W.zret (v := 0) hx hb hr rfl (fun t ht hW => ⟨⟨0, (), rfl, ⟨(by decide), (Imp.mk (fun hp => absurd hp (by decide))), (Imp.mk (fun _ => (show p0.toInt < 0 ∨ (V 3 13).toInt ≤ p0.toInt from by (first | exact om_0bee3f8da56d f7 | omega))))⟩, by rw [ht]; exact hP, va_K.moved hW.alike hK, hD⟩, hS.F ht⟩) hS.2.2 dX8_has_17
    · skip
      have f8 : p0.toInt < ((V 3 13)).toInt := b_nle rfl rfl c6
      refine lv_iconst (v := 1) hx hb dX8_has_12 (by decide) ?_
      refine lv_goto (tgt := 17) hx hb dX8_has_13 (by decide) ?_
      exact W.zret (v := 1) hx hb hr rfl (fun t ht hW => ⟨⟨1, (), rfl, ⟨(by decide), (Imp.mk (fun _ => (show 0 ≤ p0.toInt ∧ p0.toInt < (V 3 13).toInt from by (first | exact om_a1ce77cc111f f4 f8 | omega)))), (Imp.mk (fun hp => absurd hp (by decide)))⟩, by rw [ht]; exact hP, va_K.moved hW.alike hK, hD⟩, hS.F ht⟩) hS.2.2 dX8_has_17
abbrev r_x_componentOf3 : Room := { frames := 1, cells := 0, slots := 0, locals := 21 }
abbrev q_x_componentOf3 (D : va_G) (ks : KS) (ad : Nat → Nat) (kk : Nat → ClassId) (V : Vf) (L : Lf) (Z : XZ) (p0 : Int32) (A : Nat → Prop) : Array Value → State → Outcome → State → Prop := va_Qi (fun (r : Int32) (_ : Unit) => (0 ≤ r.toInt ∧ r.toInt ≤ 23) ∧ (∀ n : Int, 0 < n → (∀ o : Nat, (o : Int) < (V 3 13).toInt → (V 26 o).toInt < n) → r.toInt < n) ∧ (∀ o : Nat, p0.toInt = (o : Int) → (o : Int) < (V 3 13).toInt → r = V 26 o)) (fun _ t => gq D A (xw ad kk V L Z) (xty kk Z) t) A
set_option maxHeartbeats 4000000 in
set_option maxRecDepth 100000 in
theorem x_componentOf3 (l : Launch) (D : va_G) (ks : KS) (sz : Nat) (ad : Nat → Nat) (kk : Nat → ClassId) (V : Vf) (L : Lf) (Z : XZ) (p0 : Int32) (hMV : rgd bX V)  : Met l yX8_componentOf (Cond.code yX8_componentOf cX8_componentOf 2 (some .int) :: GW) r_x_componentOf3 (va_Pc [.ref (ad 3), .int p0] (gp D ks (xw ad kk V L Z) (xty kk Z) sz)) (q_x_componentOf3 D ks ad kk V L Z p0 (va_A (xw ad kk V L Z) sz)) 0 0 (va_A (xw ad kk V L Z) sz) := by
  refine g_met (q_x_componentOf3 D ks ad kk V L Z p0) (by decide) (Nat.le_of_ble_eq_true rfl) ?_
  intro p e s m below meth c A ls H locs hx hb hr hml hown hg hlocks hin hnw hgk hP hK hD hS hA hl
  have hown : s.vm.findClass RX8 = some m.cls := hown
  have hl : lv_has ls 2 [(0, .ref (ad 3)), (1, .int p0)] := hl
  have hP : va_P D vwCl (xw ad kk V L Z) H := hP
  have hD : va_D A (xw ad kk V L Z) := hD
  have hK : va_K D vwCl (xty kk Z) s := hK
  refine lv_aload_n hx hb dX8_componentOf_0 rfl (lv_at hl 0 rfl) ?_
  refine lv_iload_n hx hb dX8_componentOf_1 rfl (lv_at hl 1 rfl) ?_
  refine gA_int (gA_runV (As := [.int p0]) (rest := []) (ci := 8) (q0 := 3) hx hb hml hown hg hP hD hK hS hA hnw hgk (x_has2 l D ks H.size ad kk V L Z p0 hMV ) w1300 w1301 w1302 w164 w1303 rfl xgStock hdV_yX8_has ⟨Nat.le_of_ble_eq_true rfl, Nat.le_of_ble_eq_true rfl⟩ rfl hl.1 rfl (Nat.le_of_ble_eq_true rfl) dX8_componentOf_2 ⟨Nat.le_of_ble_eq_true rfl, Nat.le_of_ble_eq_true rfl⟩) hP hD hK hS hA (fun z1 u2 H locs w3 hP hD hK hS => ?_)
  obtain ⟨rgz1, t4, t5⟩ := w3
  have rgz1 : 0 ≤ z1.toInt ∧ z1.toInt ≤ 1 := rgz1
  have t4 : Imp (z1.toInt = 1) (0 ≤ p0.toInt ∧ p0.toInt < (V 3 13).toInt) := t4
  have t5 : Imp (z1.toInt = 0) (p0.toInt < 0 ∨ (V 3 13).toInt ≤ p0.toInt) := t5
  have r6 : 0 ≤ ((V 3 13)).toInt ∧ ((V 3 13)).toInt ≤ 300 := hMV 3 13
  refine lv_if_eq (tgt := 17) hx hb dX8_componentOf_5 (by decide) (fun c7 => ?_) (fun c7 => ?_)
  · skip
    have f8 : z1.toInt = 0 := b_eq rfl (by decide) c7
    refine lv_iconst (v := 0) hx hb dX8_componentOf_17 (by decide) ?_
    exact W.iret (v := 0) hx hb hr (fun t ht hW => ⟨⟨0, (), rfl, ⟨(by decide), (fun n h0 _ => h0), (fun o h1 h2 => absurd h2 (by first | omega | ((try (have i_t5 := Imp.go t5 (by omega))); (try (have i_t4 := Imp.go t4 (by omega))); (try (have i_t4 := Imp.go t4 (by omega))); (try (have i_t5 := Imp.go t5 (by omega))); omega)))⟩, by rw [ht]; exact hP, va_K.moved hW.alike hK, hD⟩, hS.F ht⟩) hS.2.2 dX8_componentOf_18
  · skip
    have f9 : z1.toInt ≠ 0 := b_neq rfl (by decide) c7
    refine lv_aload_n hx hb dX8_componentOf_8 rfl (lv_at hl 0 rfl) ?_
    refine va_get (D := D) (ci := 8) (v := .ref (ad 23)) (fs := (xfStock ad V L Z)) (C := RX8) (T := TX8) (N := 16) hx hb hg inX8 hown hK hP 3 xgStock rfl 5 (by decide) (hg _ w379) (fun _ h9 => h9) rfl dX8_componentOf_9 ?_
    refine lv_iload_n hx hb dX8_componentOf_12 rfl (lv_at hl 1 rfl) ?_
    refine va_iald (D := D) (i := p0) hx hb hK hP 23 16 rfl rfl (i_in (a := p0.toInt) rfl (by first | exact om_e23680f16df4 r6.2 ((Imp.go t4 (imp_a (rgz1.1) (rgz1.2) (f9))).1) ((Imp.go t4 (imp_a (rgz1.1) (rgz1.2) (f9))).2) | first | omega | ((try (have i_t5 := Imp.go t5 (by omega))); (try (have i_t4 := Imp.go t4 (by omega))); (try (have i_t4 := Imp.go t4 (by omega))); (try (have i_t5 := Imp.go t5 (by omega))); omega))) dX8_componentOf_13 ?_
    have r10 : 0 ≤ ((V 26 (Int32.toNatClampNeg p0))).toInt ∧ ((V 26 (Int32.toNatClampNeg p0))).toInt ≤ 23 := hMV 26 (Int32.toNatClampNeg p0)
    refine lv_goto (tgt := 18) hx hb dX8_componentOf_14 (by decide) ?_
    have kcp := i_clamp (x := p0) rfl (by first | exact om_eafa9039069c ((Imp.go t4 (imp_a (rgz1.1) (rgz1.2) (f9))).1) | first | omega | ((try (have i_t5 := Imp.go t5 (by omega))); (try (have i_t4 := Imp.go t4 (by omega))); (try (have i_t4 := Imp.go t4 (by omega))); (try (have i_t5 := Imp.go t5 (by omega))); omega))
    have kcp := i_clamp (x := p0) rfl (by first | exact om_eafa9039069c ((Imp.go t4 (imp_a (rgz1.1) (rgz1.2) (f9))).1) | first | omega | ((try (have i_t5 := Imp.go t5 (by omega))); (try (have i_t4 := Imp.go t4 (by omega))); (try (have i_t4 := Imp.go t4 (by omega))); (try (have i_t5 := Imp.go t5 (by omega))); omega))
    have rp11 : ∀ o : Nat, p0.toInt = (o : Int) → (o : Int) < (V 3 13).toInt → (V 26 (Int32.toNatClampNeg p0)) = V 26 o := fun o h1 h2 => congrArg (V 26) (by omega)
    exact W.iret (v := (V 26 (Int32.toNatClampNeg p0))) hx hb hr (fun t ht hW => ⟨⟨(V 26 (Int32.toNatClampNeg p0)), (), rfl, ⟨(show 0 ≤ ((V 26 (Int32.toNatClampNeg p0))).toInt ∧ ((V 26 (Int32.toNatClampNeg p0))).toInt ≤ 23 from by first | exact om_d3435e1acec6 r10.1 r10.2 | first | omega | ((try (have i_t5 := Imp.go t5 (by omega))); (try (have i_t4 := Imp.go t4 (by omega))); (try (have i_t4 := Imp.go t4 (by omega))); (try (have i_t5 := Imp.go t5 (by omega))); omega)), (fun n _ hh => hh _ (by first | omega | ((try (have i_t5 := Imp.go t5 (by omega))); (try (have i_t4 := Imp.go t4 (by omega))); (try (have i_t4 := Imp.go t4 (by omega))); (try (have i_t5 := Imp.go t5 (by omega))); omega))), rp11⟩, by rw [ht]; exact hP, va_K.moved hW.alike hK, hD⟩, hS.F ht⟩) hS.2.2 dX8_componentOf_18
abbrev r_x_joinLate (Z : XZ) : Room := { frames := 3, cells := zcc Z, slots := zss Z, locals := 87 }
abbrev q_x_joinLate (D : va_G) (ks : KS) (ad : Nat → Nat) (kk : Nat → ClassId) (V : Vf) (L : Lf) (Z : XZ) (p1 : Int32) (b : Nat) (gf : Nat) (A : Nat → Prop) : Array Value → State → Outcome → State → Prop := qZv D (fun (u : Vf × Lf × XZ) => rgd bX u.1 ∧ agr [(3, 15)] [30, 31, 32] V u.1 ∧ u.2.1 = L ∧ ZL Z u.2.2 ∧ (MO u.1 u.2.2 b gf True False True)) (fun u => xw ad kk u.1 u.2.1 u.2.2) (fun u => xty kk u.2.2) (fun u => zcc Z - zcc u.2.2) (fun u => zss Z - zss u.2.2) A
set_option maxHeartbeats 4000000 in
set_option maxRecDepth 100000 in
theorem x_joinLate (l : Launch) (D : va_G) (ks : KS) (sz : Nat) (ad : Nat → Nat) (kk : Nat → ClassId) (V : Vf) (L : Lf) (Z : XZ) (p1 : Int32) (b : Nat) (gf : Nat) (hMV : rgd bX V) (hb2 : b < 2) (hgf : gf < Z.nf) (mo : MO V Z b gf True (¬ NN V b) True) (gd : (gf : Int) + 1 = (V 5 6).toInt) (gk : (V 67 gf).toInt = 4) (gph : (V 68 gf).toInt = 7) (hgt : p1.toInt = (V 5 10).toInt)  : Met l yX5_joinLate (Cond.code yX5_joinLate cX5_joinLate 4 none :: GW) (r_x_joinLate Z) (va_Pc [.ref (ad 5), .ref (Z.fa gf), .int p1] (gp D ks (xw ad kk V L Z) (xty kk Z) sz)) (q_x_joinLate D ks ad kk V L Z p1 b gf (va_A (xw ad kk V L Z) sz)) (zcc Z) (zss Z) (va_A (xw ad kk V L Z) sz) := by
  refine g_met (q_x_joinLate D ks ad kk V L Z p1 b gf) (by decide) (Nat.le_of_ble_eq_true rfl) ?_
  intro p e s m below meth c A ls H locs hx hb hr hml hown hg hlocks hin hnw hgk hP hK hD hS hA hl
  have hown : s.vm.findClass RX5 = some m.cls := hown
  have hl : lv_has ls 4 [(0, .ref (ad 5)), (1, .ref (Z.fa gf)), (2, .int p1)] := hl
  have hP : va_P D vwCl (xw ad kk V L Z) H := hP
  have hD : va_D A (xw ad kk V L Z) := hD
  have hK : va_K D vwCl (xty kk Z) s := hK
  have agV : agr [(3, 15)] [30, 31, 32] V V := agr.rf
  have zoZ : ZL Z Z := ZL.rf
  refine W.know (fun ka kb => ?_)
  refine W.tight (k := zcc Z - zcc Z) (n := zss Z - zss Z) (by omega) (by omega) ?_
  have r1 : 0 ≤ ((V 5 6)).toInt ∧ ((V 5 6)).toInt ≤ 400 := hMV 5 6
  have kdp := i_clamp (x := V 5 6) rfl (by (first | exact om_c66f1b494bd9 gd | omega))
  have hdn : (gf : Int) + 1 ≤ (Z.nf : Int) := by (first | exact om_29efded833ec hgf | omega)
  have mup := MO.up mo
  have msz := mup.1
  have mbk := mup.2.2.2.1
  obtain ⟨xk, fk⟩ := MO.fk mo
  have r2 : (-1) ≤ ((V 71 gf)).toInt ∧ ((V 71 gf)).toInt ≤ 23 := hMV 71 gf
  have r3 : 0 ≤ ((V 75 gf)).toInt ∧ ((V 75 gf)).toInt ≤ 12 := hMV 75 gf
  have r4 : 0 ≤ ((V 80 gf)).toInt ∧ ((V 80 gf)).toInt ≤ 300 := hMV 80 gf
  have r5 : 0 ≤ ((V 84 gf)).toInt ∧ ((V 84 gf)).toInt ≤ 2147483647 := hMV 84 gf
  have r6 : 0 ≤ ((V 5 8)).toInt ∧ ((V 5 8)).toInt ≤ 300 := hMV 5 8
  have r7 : 0 ≤ ((V 5 9)).toInt ∧ ((V 5 9)).toInt ≤ 3 := hMV 5 9
  have r8 : 0 ≤ ((V 3 13)).toInt ∧ ((V 3 13)).toInt ≤ 300 := hMV 3 13
  have r9 : 0 ≤ ((V 43 (5 * b + 2))).toInt ∧ ((V 43 (5 * b + 2))).toInt ≤ ((xcap (5 * b + 2) : Nat) : Int) := hMV 43 (5 * b + 2)
  have r10 : xcap (5 * b + 2) = 24 := xcap_2
  have r11 : 0 ≤ ((V 41 b)).toInt ∧ ((V 41 b)).toInt ≤ 12 := hMV 41 b
  have r12 : 0 ≤ ((V 42 b)).toInt ∧ ((V 42 b)).toInt ≤ 8200 := hMV 42 b
  have fc := fk.1 (by omega)
  have fo := fk.2.1 (by omega) (by omega)
  have ft := fk.2.2.1 (by omega)
  have fq := fk.2.2.2.1 (by omega)
  have mlc := mup.2.2.2.2.2.2.2.2.1
  have fq7 := fq (by omega)
  refine lv_aload_n hx hb dX5_joinLate_0 rfl (lv_at hl 0 rfl) ?_
  refine va_get (D := D) (ci := 5) (v := .ref (ad (38 + Int32.toNatClampNeg (V 5 5)))) (fs := (xfMachine ad V L Z)) (C := RX5) (T := TX5) (N := 15) hx hb hg inX5 hown hK hP 5 xgMachine rfl 5 (by decide) (hg _ w672) (fun _ h9 => h9) rfl dX5_joinLate_1 ?_
  have r13 : 0 ≤ ((V 5 5)).toInt ∧ ((V 5 5)).toInt ≤ 1 := hMV 5 5
  refine g_topv (v := .ref (ad (38 + b))) (rfP (by omega)) ?_
  refine va_getN (D := D) (ci := 0) (v := .ref (ad (64 + b))) (fs := (xfBook ad V b)) (C := RX0) (T := TX0) (N := 13) hx hb hg inX0 hown hK hP (38 + b) (xgBook hb2) rfl 7 (by decide) (hnw.use 618 n618 rfl) (fun _ h9 => h9) rfl dX5_joinLate_4 ?_
  refine lv_aload_n hx hb dX5_joinLate_7 rfl (lv_at hl 0 rfl) ?_
  refine va_get (D := D) (ci := 5) (v := .ref (ad 3)) (fs := (xfMachine ad V L Z)) (C := RX5) (T := TX5) (N := 15) hx hb hg inX5 hown hK hP 5 xgMachine rfl 0 (by decide) (hg _ w667) (fun _ h9 => h9) rfl dX5_joinLate_8 ?_
  refine lv_iload_n hx hb dX5_joinLate_11 rfl (lv_at hl 2 rfl) ?_
  refine gA_int (gA_runV (As := [.int p1]) (rest := [.ref (ad (64 + b))]) (ci := 8) (q0 := 3) hx hb hml hown hg hP hD hK hS hA hnw hgk (x_componentOf3 l D ks H.size ad kk V L Z p1 hMV ) w1324 w1325 w1326 w164 w1327 rfl xgStock hdV_yX8_componentOf ⟨Nat.le_of_ble_eq_true rfl, Nat.le_of_ble_eq_true rfl⟩ rfl hl.1 rfl (Nat.le_of_ble_eq_true rfl) dX5_joinLate_12 ⟨z0, z0⟩) hP hD hK hS hA (fun z14 u15 H locs w16 hP hD hK hS => ?_)
  obtain ⟨rgz14, t17, t18⟩ := w16
  have rgz14 : 0 ≤ z14.toInt ∧ z14.toInt ≤ 23 := rgz14
  have t17 : ∀ n : Int, 0 < n → (∀ o : Nat, (o : Int) < (V 3 13).toInt → (V 26 o).toInt < n) → z14.toInt < n := t17
  have t18 : ∀ o : Nat, p1.toInt = (o : Int) → (o : Int) < (V 3 13).toInt → z14 = V 26 o := t18
  have il19 : b < 2 := by (first | exact om_f940a4667dd6 hb2 | omega)
  refine va_aldq (D := D) (i := z14) hx hb hK hP (64 + b) (57 + b) (xgcomps il19) (xtcomps il19) (i_in (a := z14.toInt) rfl (by (first | exact om_dbb25e99819b rgz14.1 rgz14.2 | omega))) dX5_joinLate_15 ?_
  have kc20 := i_clamp (x := z14) rfl (by (first | exact om_eafa9039069c rgz14.1 | omega))
  refine g_topv (v := .ref (ad (72 + (24 * b + (Int32.toNatClampNeg z14))))) (congrArg va_rf (if_pos (by omega))) ?_
  have il21 : (24 * b + (Int32.toNatClampNeg z14)) < 48 := by (first | exact om_31a61188bc78 hb2 rgz14.2 kc20 | omega)
  refine va_getN (D := D) (ci := 3) (v := .int (V 51 (24 * b + (Int32.toNatClampNeg z14)))) (fs := (xfComp ad V (24 * b + (Int32.toNatClampNeg z14)))) (C := RX3) (T := TX3) (N := 13) hx hb hg inX3 hown hK hP (72 + (24 * b + (Int32.toNatClampNeg z14))) (xgComp il21) rfl 6 (by decide) (hnw.use 522 n522 rfl) (fun _ h9 => h9) rfl dX5_joinLate_16 ?_
  have r22 : 0 ≤ ((V 51 (24 * b + (Int32.toNatClampNeg z14)))).toInt ∧ ((V 51 (24 * b + (Int32.toNatClampNeg z14)))).toInt ≤ 3 := hMV 51 (24 * b + (Int32.toNatClampNeg z14))
  refine lv_iconst (v := 3) hx hb dX5_joinLate_19 (by decide) ?_
  refine lv_icmp_ne (tgt := 27) hx hb dX5_joinLate_20 (by decide) (fun c23 => ?_) (fun c23 => ?_)
  · skip
    have f24 : ((V 51 (24 * b + (Int32.toNatClampNeg z14)))).toInt ≠ 3 := b_neq rfl (by decide) c23
    refine lv_iconst (v := 0) hx hb dX5_joinLate_27 (by decide) ?_
    refine lv_istore_n (lv' := [(3, .int 0), (0, .ref (ad 5)), (1, .ref (Z.fa gf)), (2, .int p1)]) hx hb dX5_joinLate_28 rfl hl (by decide) rfl (fun ls hl => ?_)
    refine lv_iload_n hx hb dX5_joinLate_29 rfl (lv_at hl 0 rfl) ?_
    refine lv_if_eq (tgt := 69) hx hb dX5_joinLate_30 (by decide) (fun _ => ?_) (fun q => absurd (by decide) q)
    have me25 : ME V V gf := ME.rf
    have af27 : (V 42 b).toInt ≤ (V 84 gf).toInt ∨ (bdp V b (V 84 gf).toInt.toNat).1 = true := by rw [me25.1.bd, me25.1 42 b (by decide) (by decide)]; exact ft
    have mo26 : MO V Z b gf True False True := MO.ch mo me25 rfl rfl (fun _ => Or.inl (by omega)) (fun x h => FK.k4 (by omega) (by omega) (by omega) af27 (by omega) (fun _ z => z.elim))
    refine W.know (fun kr1 kr2 => ?_)
    refine W.widen (k := zcc Z) (n := zss Z) (Nat.sub_le _ _) (Nat.sub_le _ _) ?_
    exact W.vret hx hb hr (fun t ht hW => ⟨⟨(V, L, Z), rfl, ⟨hMV, agV, rfl, zoZ, mo26⟩, ⟨by rw [ht]; exact hP, va_K.moved hW.alike hK, hD⟩, by rw [ht]; exact kr1, by rw [ht]; exact kr2⟩, hS.F ht⟩) hS.2.2 dX5_joinLate_69
  · skip
    have f28 : ((V 51 (24 * b + (Int32.toNatClampNeg z14)))).toInt = 3 := b_eq rfl (by decide) c23
    refine lv_iconst (v := 1) hx hb dX5_joinLate_23 (by decide) ?_
    refine lv_goto (tgt := 28) hx hb dX5_joinLate_24 (by decide) ?_
    refine lv_istore_n (lv' := [(3, .int 1), (0, .ref (ad 5)), (1, .ref (Z.fa gf)), (2, .int p1)]) hx hb dX5_joinLate_28 rfl hl (by decide) rfl (fun ls hl => ?_)
    refine lv_iload_n hx hb dX5_joinLate_29 rfl (lv_at hl 0 rfl) ?_
    refine lv_if_eq (tgt := 69) hx hb dX5_joinLate_30 (by decide) (fun q => absurd q (by decide)) (fun _ => ?_)
    refine lv_aload_n hx hb dX5_joinLate_33 rfl (lv_at hl 1 rfl) ?_
    refine va_get (D := D) (ci := 5) (v := .ref (ad 3)) (fs := (xfMachine ad V L Z)) (C := RX5) (T := TX5) (N := 15) hx hb hg inX5 hown hK hP 5 xgMachine rfl 0 (by decide) (hg _ w667) (fun _ h9 => h9) rfl dX5_joinLate_34 ?_
    refine lv_aload_n hx hb dX5_joinLate_37 rfl (lv_at hl 2 rfl) ?_
    refine va_getN (D := D) (ci := 4) (v := .int (V 70 gf)) (fs := (xfFrame V gf)) (C := RX4) (T := TX4) (N := 19) hx hb hg inX4 hown hK hP (336 + gf) (xgFrame hgf) rfl 3 (by decide) (hnw.use 1192 n1192 rfl) (fun _ h9 => h9) rfl dX5_joinLate_38 ?_
    refine lv_aload_n hx hb dX5_joinLate_41 rfl (lv_at hl 2 rfl) ?_
    refine va_getN (D := D) (ci := 4) (v := .int (V 75 gf)) (fs := (xfFrame V gf)) (C := RX4) (T := TX4) (N := 19) hx hb hg inX4 hown hK hP (336 + gf) (xgFrame hgf) rfl 8 (by decide) (hnw.use 1197 n1197 rfl) (fun _ h9 => h9) rfl dX5_joinLate_42 ?_
    refine lv_iconst (v := 0) hx hb dX5_joinLate_45 (by decide) ?_
    have r29 : Int32.toInt 0 = 0 := by decide
    refine gA_int (gA_runV (As := [.int (V 70 gf), .int (V 75 gf), .int 0]) (rest := []) (ci := 8) (q0 := 3) hx hb hml hown hg hP hD hK hS hA hnw hgk (x_joinedTo l D ks H.size ad kk V L Z (V 70 gf) (V 75 gf) 0 hMV mup.2.2.2.2.1) w1439 w1440 w1441 w164 w1442 rfl xgStock hdV_yX8_joinedTo ⟨Nat.le_of_ble_eq_true rfl, Nat.le_of_ble_eq_true rfl⟩ rfl hl.1 rfl (Nat.le_of_ble_eq_true rfl) dX5_joinLate_46 ⟨z0, z0⟩) hP hD hK hS hA (fun z30 u31 H locs w32 hP hD hK hS => ?_)
    refine lv_iconst (v := (-1)) hx hb dX5_joinLate_49 (by decide) ?_
    refine lv_icmp_ne (tgt := 69) hx hb dX5_joinLate_50 (by decide) (fun c33 => ?_) (fun c33 => ?_)
    · skip
      have f34 : z30.toInt ≠ (-1) := b_neq rfl (by decide) c33
      have me35 : ME V V gf := ME.rf
      have af37 : (V 42 b).toInt ≤ (V 84 gf).toInt ∨ (bdp V b (V 84 gf).toInt.toNat).1 = true := by rw [me35.1.bd, me35.1 42 b (by decide) (by decide)]; exact ft
      have mo36 : MO V Z b gf True False True := MO.ch mo me35 rfl rfl (fun _ => Or.inl (by omega)) (fun x h => FK.k4 (by omega) (by omega) (by omega) af37 (by omega) (fun _ z => z.elim))
      refine W.know (fun kr1 kr2 => ?_)
      refine W.widen (k := zcc Z) (n := zss Z) (Nat.sub_le _ _) (Nat.sub_le _ _) ?_
      exact W.vret hx hb hr (fun t ht hW => ⟨⟨(V, L, Z), rfl, ⟨hMV, agV, rfl, zoZ, mo36⟩, ⟨by rw [ht]; exact hP, va_K.moved hW.alike hK, hD⟩, by rw [ht]; exact kr1, by rw [ht]; exact kr2⟩, hS.F ht⟩) hS.2.2 dX5_joinLate_69
    · skip
      have f38 : z30.toInt = (-1) := b_eq rfl (by decide) c33
      have hnn : ¬ NN V b := fun q => by obtain ⟨o, a1, a2, a3⟩ := q; have e := t18 o (by omega) a2; rw [← e] at a3; omega
      refine lv_aload_n hx hb dX5_joinLate_53 rfl (lv_at hl 1 rfl) ?_
      refine va_get (D := D) (ci := 5) (v := .ref (ad 3)) (fs := (xfMachine ad V L Z)) (C := RX5) (T := TX5) (N := 15) hx hb hg inX5 hown hK hP 5 xgMachine rfl 0 (by decide) (hg _ w667) (fun _ h9 => h9) rfl dX5_joinLate_54 ?_
      refine lv_aload_n hx hb dX5_joinLate_57 rfl (lv_at hl 2 rfl) ?_
      refine va_getN (D := D) (ci := 4) (v := .int (V 70 gf)) (fs := (xfFrame V gf)) (C := RX4) (T := TX4) (N := 19) hx hb hg inX4 hown hK hP (336 + gf) (xgFrame hgf) rfl 3 (by decide) (hnw.use 1192 n1192 rfl) (fun _ h9 => h9) rfl dX5_joinLate_58 ?_
      refine lv_aload_n hx hb dX5_joinLate_61 rfl (lv_at hl 2 rfl) ?_
      refine va_getN (D := D) (ci := 4) (v := .int (V 75 gf)) (fs := (xfFrame V gf)) (C := RX4) (T := TX4) (N := 19) hx hb hg inX4 hown hK hP (336 + gf) (xgFrame hgf) rfl 8 (by decide) (hnw.use 1197 n1197 rfl) (fun _ h9 => h9) rfl dX5_joinLate_62 ?_
      refine lv_iload_n hx hb dX5_joinLate_65 rfl (lv_at hl 3 rfl) ?_
      have r39 : 0 ≤ ((V 3 15)).toInt ∧ ((V 3 15)).toInt ≤ 262144 := hMV 3 15
      refine W.know (fun k41 k42 => ?_)
      obtain ⟨Hk40, hHk40⟩ : ∃ z, z = H := ⟨_, rfl⟩
      have k41 : Hk40.size ≤ s.heap.size + (zcc Z - zcc Z) := by rw [hHk40]; exact k41
      have k42 : tot Hk40 ≤ tot s.heap + (zss Z - zss Z) := by rw [hHk40]; exact k42
      refine gZ_void (gA_runV (As := [.int (V 70 gf), .int (V 75 gf), .int p1]) (rest := []) (ci := 8) (q0 := 3) hx hb hml hown hg hP hD hK hS hA hnw hgk (x_join l D ks H.size ad kk V L Z (V 70 gf) (V 75 gf) p1 hMV (by omega) (by omega) mup.2.2.2.2.1 mup.2.2.2.2.2.2.2.2.2 (show (V 3 15).toInt ≤ 250000 from by omega) (show ((V 70 gf)).toInt < (V 3 13).toInt from by omega)) w1352 w1353 w1354 w164 w1355 rfl xgStock hdV_yX8_join ⟨Nat.le_of_ble_eq_true rfl, Nat.le_of_ble_eq_true rfl⟩ rfl hl.1 rfl (Nat.le_of_ble_eq_true rfl) dX5_joinLate_66 ⟨z1 zoZ.1, z1 zoZ.2.1⟩) hD hS hA (fun u44 H locs w45 hP hD hK hS y46 y47 => ?_)
      obtain ⟨V48, L49, Z50⟩ := u44
      obtain ⟨hMV48, ajV48, axL49, zlZ50, t52⟩ := w45
      have axL49 : L = L49 := Eq.symm axL49
      subst axL49
      have hP : va_P D vwCl (xw ad kk V48 L Z50) H := hP
      have hD : va_D A (xw ad kk V48 L Z50) := hD
      have hK : va_K D vwCl (xty kk Z50) s := hK
      have hMV48 : rgd bX V48 := hMV48
      have ajV48 : agr [(3, 15)] [30, 31, 32] V V48 := ajV48
      have agV48 : agr [(3, 15)] [30, 31, 32] V V48 := agV.tr ajV48 (by decide) (by decide)
      have zlZ50 : ZL Z Z50 := zlZ50
      have zoZ50 : ZL Z Z50 := ZL.tr zoZ zlZ50
      have ziZ50 := zlZ50.1
      have zjZ50 := zlZ50.2.1
      have zkZ50 := zlZ50.2.2.1
      have zmZ50 := zoZ50.1
      have znZ50 := zoZ50.2.1
      have zpZ_Z50 := zoZ.1
      have zqZ_Z50 := zoZ.2.1
      have y46 : H.size ≤ Hk40.size + (zcc Z - zcc Z50) := by rw [hHk40]; exact y46
      have y47 : tot H ≤ tot Hk40 + (zss Z - zss Z50) := by rw [hHk40]; exact y47
      refine W.tight (k := zcc Z - zcc Z50) (n := zss Z - zss Z50) (by first | exact tg9 y46 k41 zlZ50.1 zoZ.1 | omega) (by first | exact tg9 y47 k42 zlZ50.2.1 zoZ.2.1 | omega) ?_
      have hl : lv_has ls 4 [(3, .int 1), (0, .ref (ad 5)), (1, .ref (Z50.fa gf)), (2, .int p1)] := by rw [zlZ50.2.2.2.2 gf hgf]; exact hl
      have t52 : JN V V48 Z Z50 (8 * Int32.toNatClampNeg (V 70 gf) + Int32.toNatClampNeg (V 75 gf)) := t52
      have rp53 : MO V48 Z50 b gf True False True := MO.jl mo hnn (by (first | exact om_c88e7ce0b8a2 gk | omega)) (by (first | exact om_ba873a6da76b gph | omega)) t52
      refine W.know (fun kr1 kr2 => ?_)
      refine W.widen (k := zcc Z) (n := zss Z) (Nat.sub_le _ _) (Nat.sub_le _ _) ?_
      exact W.vret hx hb hr (fun t ht hW => ⟨⟨(V48, L, Z50), rfl, ⟨hMV48, agV48, rfl, zoZ50, rp53⟩, ⟨by rw [ht]; exact hP, va_K.moved hW.alike hK, hD⟩, by rw [ht]; exact kr1, by rw [ht]; exact kr2⟩, hS.F ht⟩) hS.2.2 dX5_joinLate_69
abbrev r_x_takesAnswer (Z : XZ) : Room := { frames := 4, cells := zcc Z, slots := zss Z, locals := 110 }
abbrev q_x_takesAnswer (D : va_G) (ks : KS) (ad : Nat → Nat) (kk : Nat → ClassId) (V : Vf) (L : Lf) (Z : XZ) (b : Nat) (gf : Nat) (A : Nat → Prop) : Array Value → State → Outcome → State → Prop := qZi D (fun (r : Int32) (u : Vf × Lf × XZ) => rgd bX u.1 ∧ agr [(3, 15), (5, 6), (5, 7), (5, 9)] [30, 31, 32, 39, 67, 68, 69, 70, 71, 72, 73, 74, 75, 76, 77, 78, 79, 80, 81, 82, 83, 84, 85] V u.1 ∧ u.2.1 = L ∧ ZL Z u.2.2 ∧ (0 ≤ r.toInt ∧ r.toInt ≤ 1) ∧ (Imp (r.toInt = 1) (MO u.1 u.2.2 b gf True True True)) ∧ (Imp (r.toInt = 0) (MJ u.1 u.2.2 b)) ∧ (Imp (r.toInt = 1) ((u.1 5 6).toInt = (V 5 6).toInt ∧ (u.1 67 gf).toInt = 4)) ∧ (Imp (r.toInt = 1) (u.2.2 = Z))) (fun u => xw ad kk u.1 u.2.1 u.2.2) (fun u => xty kk u.2.2) (fun u => zcc Z - zcc u.2.2) (fun u => zss Z - zss u.2.2) A
set_option maxHeartbeats 4000000 in
set_option maxRecDepth 100000 in
theorem x_takesAnswer (l : Launch) (D : va_G) (ks : KS) (sz : Nat) (ad : Nat → Nat) (kk : Nat → ClassId) (V : Vf) (L : Lf) (Z : XZ) (b : Nat) (gf : Nat) (hMV : rgd bX V) (hb2 : b < 2) (hgf : gf < Z.nf) (mo : MO V Z b gf True (¬ NN V b) True) (gd : (gf : Int) + 1 = (V 5 6).toInt) (gk : (V 67 gf).toInt = 4) (gph : (V 68 gf).toInt ≠ 0 ∧ (V 68 gf).toInt ≠ 6)  : Met l yX5_takesAnswer (Cond.code yX5_takesAnswer cX5_takesAnswer 3 (some .boolean) :: GW) (r_x_takesAnswer Z) (va_Pc [.ref (ad 5), .ref (Z.fa gf)] (gp D ks (xw ad kk V L Z) (xty kk Z) sz)) (q_x_takesAnswer D ks ad kk V L Z  b gf (va_A (xw ad kk V L Z) sz)) (zcc Z) (zss Z) (va_A (xw ad kk V L Z) sz) := by
  refine g_met (q_x_takesAnswer D ks ad kk V L Z  b gf) (by decide) (Nat.le_of_ble_eq_true rfl) ?_
  intro p e s m below meth c A ls H locs hx hb hr hml hown hg hlocks hin hnw hgk hP hK hD hS hA hl
  have hown : s.vm.findClass RX5 = some m.cls := hown
  have hl : lv_has ls 3 [(0, .ref (ad 5)), (1, .ref (Z.fa gf))] := hl
  have hP : va_P D vwCl (xw ad kk V L Z) H := hP
  have hD : va_D A (xw ad kk V L Z) := hD
  have hK : va_K D vwCl (xty kk Z) s := hK
  have agV : agr [(3, 15), (5, 6), (5, 7), (5, 9)] [30, 31, 32, 39, 67, 68, 69, 70, 71, 72, 73, 74, 75, 76, 77, 78, 79, 80, 81, 82, 83, 84, 85] V V := agr.rf
  have zoZ : ZL Z Z := ZL.rf
  refine W.know (fun ka kb => ?_)
  refine W.tight (k := zcc Z - zcc Z) (n := zss Z - zss Z) (by omega) (by omega) ?_
  have r1 : 0 ≤ ((V 5 6)).toInt ∧ ((V 5 6)).toInt ≤ 400 := hMV 5 6
  have kdp := i_clamp (x := V 5 6) rfl (by (first | exact om_c66f1b494bd9 gd | omega))
  have hdn : (gf : Int) + 1 ≤ (Z.nf : Int) := by (first | exact om_29efded833ec hgf | omega)
  have mup := MO.up mo
  have msz := mup.1
  have mbk := mup.2.2.2.1
  obtain ⟨xk, fk⟩ := MO.fk mo
  have r2 : (-1) ≤ ((V 71 gf)).toInt ∧ ((V 71 gf)).toInt ≤ 23 := hMV 71 gf
  have r3 : 0 ≤ ((V 75 gf)).toInt ∧ ((V 75 gf)).toInt ≤ 12 := hMV 75 gf
  have r4 : 0 ≤ ((V 80 gf)).toInt ∧ ((V 80 gf)).toInt ≤ 300 := hMV 80 gf
  have r5 : 0 ≤ ((V 84 gf)).toInt ∧ ((V 84 gf)).toInt ≤ 2147483647 := hMV 84 gf
  have r6 : 0 ≤ ((V 5 8)).toInt ∧ ((V 5 8)).toInt ≤ 300 := hMV 5 8
  have r7 : 0 ≤ ((V 5 9)).toInt ∧ ((V 5 9)).toInt ≤ 3 := hMV 5 9
  have r8 : 0 ≤ ((V 3 13)).toInt ∧ ((V 3 13)).toInt ≤ 300 := hMV 3 13
  have r9 : 0 ≤ ((V 43 (5 * b + 2))).toInt ∧ ((V 43 (5 * b + 2))).toInt ≤ ((xcap (5 * b + 2) : Nat) : Int) := hMV 43 (5 * b + 2)
  have r10 : xcap (5 * b + 2) = 24 := xcap_2
  have r11 : 0 ≤ ((V 41 b)).toInt ∧ ((V 41 b)).toInt ≤ 12 := hMV 41 b
  have r12 : 0 ≤ ((V 42 b)).toInt ∧ ((V 42 b)).toInt ≤ 8200 := hMV 42 b
  have fc := fk.1 (by omega)
  have fo := fk.2.1 (by omega) (by omega)
  have ft := fk.2.2.1 (by omega)
  have fq := fk.2.2.2.1 (by omega)
  refine lv_aload_n hx hb dX5_takesAnswer_0 rfl (lv_at hl 1 rfl) ?_
  refine va_getN (D := D) (ci := 4) (v := .int (V 68 gf)) (fs := (xfFrame V gf)) (C := RX4) (T := TX4) (N := 19) hx hb hg inX4 hown hK hP (336 + gf) (xgFrame hgf) rfl 1 (by decide) (hnw.use 1190 n1190 rfl) (fun _ h9 => h9) rfl dX5_takesAnswer_1 ?_
  refine lv_iconst (v := 1) hx hb dX5_takesAnswer_4 (by decide) ?_
  refine lv_icmp_ne (tgt := 18) hx hb dX5_takesAnswer_5 (by decide) (fun c13 => ?_) (fun c13 => ?_)
  · skip
    have f14 : ((V 68 gf)).toInt ≠ 1 := b_neq rfl (by decide) c13
    refine lv_aload_n hx hb dX5_takesAnswer_18 rfl (lv_at hl 1 rfl) ?_
    refine va_getN (D := D) (ci := 4) (v := .int (V 68 gf)) (fs := (xfFrame V gf)) (C := RX4) (T := TX4) (N := 19) hx hb hg inX4 hown hK hP (336 + gf) (xgFrame hgf) rfl 1 (by decide) (hnw.use 1190 n1190 rfl) (fun _ h9 => h9) rfl dX5_takesAnswer_19 ?_
    refine lv_bipush (v := 7) hx hb dX5_takesAnswer_22 (by decide) ?_
    refine lv_icmp_ne (tgt := 69) hx hb dX5_takesAnswer_24 (by decide) (fun c15 => ?_) (fun c15 => ?_)
    · skip
      have f16 : ((V 68 gf)).toInt ≠ 7 := b_neq rfl (by decide) c15
      refine lv_aload_n hx hb dX5_takesAnswer_69 rfl (lv_at hl 1 rfl) ?_
      refine lv_dup hx hb dX5_takesAnswer_70 rfl ?_
      refine va_getN (D := D) (ci := 4) (v := .int (V 79 gf)) (fs := (xfFrame V gf)) (C := RX4) (T := TX4) (N := 19) hx hb hg inX4 hown hK hP (336 + gf) (xgFrame hgf) rfl 12 (by decide) (hnw.use 1201 n1201 rfl) (fun _ h9 => h9) rfl dX5_takesAnswer_71 ?_
      refine lv_aload_n hx hb dX5_takesAnswer_74 rfl (lv_at hl 0 rfl) ?_
      refine va_get (D := D) (ci := 5) (v := .int (V 5 10)) (fs := (xfMachine ad V L Z)) (C := RX5) (T := TX5) (N := 15) hx hb hg inX5 hown hK hP 5 xgMachine rfl 10 (by decide) (hg _ w677) (fun _ h9 => h9) rfl dX5_takesAnswer_75 ?_
      refine lv_iadd hx hb dX5_takesAnswer_78 ?_
      have r17 := i_full (V 79 gf)
      have r18 := i_full (V 5 10)
      refine lv_topi (fun z19 ez19 => ?_)
      have hz19 : Imp (-2147483648 ≤ ((V 79 gf)).toInt + ((V 5 10)).toInt ∧ ((V 79 gf)).toInt + ((V 5 10)).toInt ≤ 2147483647) (z19.toInt = ((V 79 gf)).toInt + ((V 5 10)).toInt) := Imp.mk (fun hp => i_add ez19 rfl rfl hp)
      refine va_putN (D := D) (ci := 4) (v := .int z19) (ty := tyX4 12) (fs := (xfFrame V gf)) (C := RX4) (T := TX4) (N := 19) hx hb hg inX4 tyX4 tyX4_ok nmX4 hown hK hP hD hS (336 + gf) (xgFrame hgf) rfl 12 (by decide) (hnw.use 1201 n1201 rfl) (fun _ h9 => h9) rfl (tyX4_ok 12 (by decide)) rfl rfl (Nat.le_of_ble_eq_true rfl) dX5_takesAnswer_79 (fun H locs hP hD hS => ?_)
      obtain ⟨V20, hV20⟩ : ∃ z, z = up2 V 79 gf z19 := ⟨_, rfl⟩
      have ew21 : (xw ad kk V L Z).set (336 + gf) ((Z.fa gf), .inr (4, (xfFrame V gf).set 12 (.int z19))) = xw ad kk V20 L Z := by rw [hV20]; exact xpFrame_sum hgf
      have hP : va_P D vwCl (xw ad kk V20 L Z) H := by rw [← ew21]; exact hP
      have hD : va_D A (xw ad kk V20 L Z) := by rw [← ew21]; exact hD
      have hMV20 : rgd bX V20 := hMV.put hV20 (i_full _)
      have agV20 : agr [(3, 15), (5, 6), (5, 7), (5, 9)] [30, 31, 32, 39, 67, 68, 69, 70, 71, 72, 73, 74, 75, 76, 77, 78, 79, 80, 81, 82, 83, 84, 85] V V20 := agV.up hV20 rfl
      refine lv_aload_n hx hb dX5_takesAnswer_82 rfl (lv_at hl 0 rfl) ?_
      refine va_get (D := D) (ci := 5) (v := .ref (ad 3)) (fs := (xfMachine ad V20 L Z)) (C := RX5) (T := TX5) (N := 15) hx hb hg inX5 hown hK hP 5 xgMachine rfl 0 (by decide) (hg _ w667) (fun _ h9 => h9) rfl dX5_takesAnswer_83 ?_
      refine lv_aload_n hx hb dX5_takesAnswer_86 rfl (lv_at hl 1 rfl) ?_
      refine va_getN (D := D) (ci := 4) (v := .int (V20 70 gf)) (fs := (xfFrame V20 gf)) (C := RX4) (T := TX4) (N := 19) hx hb hg inX4 hown hK hP (336 + gf) (xgFrame hgf) rfl 3 (by decide) (hnw.use 1192 n1192 rfl) (fun _ h9 => h9) rfl dX5_takesAnswer_87 ?_
      refine g_top (v := (V 70 gf)) (up2_o hV20 (by decide)) ?_
      refine lv_aload_n hx hb dX5_takesAnswer_90 rfl (lv_at hl 1 rfl) ?_
      refine va_getN (D := D) (ci := 4) (v := .int (V20 75 gf)) (fs := (xfFrame V20 gf)) (C := RX4) (T := TX4) (N := 19) hx hb hg inX4 hown hK hP (336 + gf) (xgFrame hgf) rfl 8 (by decide) (hnw.use 1197 n1197 rfl) (fun _ h9 => h9) rfl dX5_takesAnswer_91 ?_
      refine g_top (v := (V 75 gf)) (up2_o hV20 (by decide)) ?_
      refine lv_aload_n hx hb dX5_takesAnswer_94 rfl (lv_at hl 1 rfl) ?_
      refine va_getN (D := D) (ci := 4) (v := .int (V20 76 gf)) (fs := (xfFrame V20 gf)) (C := RX4) (T := TX4) (N := 19) hx hb hg inX4 hown hK hP (336 + gf) (xgFrame hgf) rfl 9 (by decide) (hnw.use 1198 n1198 rfl) (fun _ h9 => h9) rfl dX5_takesAnswer_95 ?_
      refine g_top (v := (V 76 gf)) (up2_o hV20 (by decide)) ?_
      have me22 : ME V V20 0 := (ME.up ME.rf hV20 (Or.inl ⟨by decide, by decide, by first | omega | ((try (have i_hz19 := Imp.go hz19 (by omega))); omega)⟩))
      have sl23 : SL V20 Z := by unfold SL; rw [me22.2.2.1.2.1, me22.2.2.1.1]; exact ⟨mup.2.2.2.2.1.1, mup.2.2.2.2.1.2.1, fun o k a1 a2 => by rw [me22.2.2.2.2.1]; exact mup.2.2.2.2.1.2.2.1 o k a1 a2, fun i a1 => by rw [me22.2.2.2.2.2.1]; exact mup.2.2.2.2.1.2.2.2 i a1⟩
      refine gA_int (gA_runV (As := [.int (V 70 gf), .int (V 75 gf), .int (V 76 gf)]) (rest := []) (ci := 8) (q0 := 3) hx hb hml hown hg hP hD hK hS hA hnw hgk (x_joinedTo l D ks H.size ad kk V20 L Z (V 70 gf) (V 75 gf) (V 76 gf) hMV20 sl23) w1439 w1440 w1441 w164 w1442 rfl xgStock hdV_yX8_joinedTo ⟨Nat.le_of_ble_eq_true rfl, Nat.le_of_ble_eq_true rfl⟩ rfl hl.1 rfl (Nat.le_of_ble_eq_true rfl) dX5_takesAnswer_98 ⟨z0, z0⟩) hP hD hK hS hA (fun z24 u25 H locs w26 hP hD hK hS => ?_)
      refine lv_istore_n (lv' := [(2, .int z24), (0, .ref (ad 5)), (1, .ref (Z.fa gf))]) hx hb dX5_takesAnswer_101 rfl hl (by decide) rfl (fun ls hl => ?_)
      refine lv_iload_n hx hb dX5_takesAnswer_102 rfl (lv_at hl 0 rfl) ?_
      refine lv_iconst (v := (-1)) hx hb dX5_takesAnswer_103 (by decide) ?_
      refine lv_icmp_ne (tgt := 117) hx hb dX5_takesAnswer_104 (by decide) (fun c27 => ?_) (fun c27 => ?_)
      · skip
        have f28 : z24.toInt ≠ (-1) := b_neq rfl (by decide) c27
        refine lv_aload_n hx hb dX5_takesAnswer_117 rfl (lv_at hl 2 rfl) ?_
        refine lv_dup hx hb dX5_takesAnswer_118 rfl ?_
        refine va_getN (D := D) (ci := 4) (v := .int (V20 76 gf)) (fs := (xfFrame V20 gf)) (C := RX4) (T := TX4) (N := 19) hx hb hg inX4 hown hK hP (336 + gf) (xgFrame hgf) rfl 9 (by decide) (hnw.use 1198 n1198 rfl) (fun _ h9 => h9) rfl dX5_takesAnswer_119 ?_
        refine g_top (v := (V 76 gf)) (up2_o hV20 (by decide)) ?_
        refine lv_iconst (v := 1) hx hb dX5_takesAnswer_122 (by decide) ?_
        refine lv_iadd hx hb dX5_takesAnswer_123 ?_
        have r29 := i_full (V 76 gf)
        refine lv_topi (fun z30 ez30 => ?_)
        have hz30 : Imp (-2147483648 ≤ ((V 76 gf)).toInt + 1 ∧ ((V 76 gf)).toInt + 1 ≤ 2147483647) (z30.toInt = ((V 76 gf)).toInt + 1) := Imp.mk (fun hp => i_add ez30 rfl (by decide) hp)
        refine va_putN (D := D) (ci := 4) (v := .int z30) (ty := tyX4 9) (fs := (xfFrame V20 gf)) (C := RX4) (T := TX4) (N := 19) hx hb hg inX4 tyX4 tyX4_ok nmX4 hown hK hP hD hS (336 + gf) (xgFrame hgf) rfl 9 (by decide) (hnw.use 1198 n1198 rfl) (fun _ h9 => h9) rfl (tyX4_ok 9 (by decide)) rfl rfl (Nat.le_of_ble_eq_true rfl) dX5_takesAnswer_124 (fun H locs hP hD hS => ?_)
        obtain ⟨V31, hV31⟩ : ∃ z, z = up2 V20 76 gf z30 := ⟨_, rfl⟩
        have ew32 : (xw ad kk V20 L Z).set (336 + gf) ((Z.fa gf), .inr (4, (xfFrame V20 gf).set 9 (.int z30))) = xw ad kk V31 L Z := by rw [hV31]; exact xpFrame_item hgf
        have hP : va_P D vwCl (xw ad kk V31 L Z) H := by rw [← ew32]; exact hP
        have hD : va_D A (xw ad kk V31 L Z) := by rw [← ew32]; exact hD
        have hMV31 : rgd bX V31 := hMV20.put hV31 (i_full _)
        have agV31 : agr [(3, 15), (5, 6), (5, 7), (5, 9)] [30, 31, 32, 39, 67, 68, 69, 70, 71, 72, 73, 74, 75, 76, 77, 78, 79, 80, 81, 82, 83, 84, 85] V V31 := agV20.up hV31 rfl
        refine lv_aload_n hx hb dX5_takesAnswer_127 rfl (lv_at hl 1 rfl) ?_
        refine lv_iload_n hx hb dX5_takesAnswer_128 rfl (lv_at hl 0 rfl) ?_
        refine lv_aload_n hx hb dX5_takesAnswer_129 rfl (lv_at hl 2 rfl) ?_
        refine va_getN (D := D) (ci := 4) (v := .int (V31 72 gf)) (fs := (xfFrame V31 gf)) (C := RX4) (T := TX4) (N := 19) hx hb hg inX4 hown hK hP (336 + gf) (xgFrame hgf) rfl 5 (by decide) (hnw.use 1194 n1194 rfl) (fun _ h9 => h9) rfl dX5_takesAnswer_130 ?_
        refine g_top (v := (V 72 gf)) ((up2_o hV31 (by decide)).trans (up2_o hV20 (by decide))) ?_
        have r33 : 0 ≤ ((V 72 gf)).toInt ∧ ((V 72 gf)).toInt ≤ 39 := hMV 72 gf
        refine lv_aload_n hx hb dX5_takesAnswer_133 rfl (lv_at hl 2 rfl) ?_
        refine va_getN (D := D) (ci := 4) (v := .int (V31 77 gf)) (fs := (xfFrame V31 gf)) (C := RX4) (T := TX4) (N := 19) hx hb hg inX4 hown hK hP (336 + gf) (xgFrame hgf) rfl 10 (by decide) (hnw.use 1199 n1199 rfl) (fun _ h9 => h9) rfl dX5_takesAnswer_134 ?_
        refine g_top (v := (V 77 gf)) ((up2_o hV31 (by decide)).trans (up2_o hV20 (by decide))) ?_
        have r34 : 0 ≤ ((V 77 gf)).toInt ∧ ((V 77 gf)).toInt ≤ 19 := hMV 77 gf
        refine lv_aload_n hx hb dX5_takesAnswer_137 rfl (lv_at hl 2 rfl) ?_
        refine va_getN (D := D) (ci := 4) (v := .int (V31 78 gf)) (fs := (xfFrame V31 gf)) (C := RX4) (T := TX4) (N := 19) hx hb hg inX4 hown hK hP (336 + gf) (xgFrame hgf) rfl 11 (by decide) (hnw.use 1200 n1200 rfl) (fun _ h9 => h9) rfl dX5_takesAnswer_138 ?_
        refine g_top (v := (V 78 gf)) ((up2_o hV31 (by decide)).trans (up2_o hV20 (by decide))) ?_
        refine lv_aload_n hx hb dX5_takesAnswer_141 rfl (lv_at hl 2 rfl) ?_
        refine va_getN (D := D) (ci := 4) (v := .int (V31 69 gf)) (fs := (xfFrame V31 gf)) (C := RX4) (T := TX4) (N := 19) hx hb hg inX4 hown hK hP (336 + gf) (xgFrame hgf) rfl 2 (by decide) (hnw.use 1191 n1191 rfl) (fun _ h9 => h9) rfl dX5_takesAnswer_142 ?_
        refine g_top (v := (V 69 gf)) ((up2_o hV31 (by decide)).trans (up2_o hV20 (by decide))) ?_
        refine lv_iconst (v := 1) hx hb dX5_takesAnswer_145 (by decide) ?_
        refine lv_iadd hx hb dX5_takesAnswer_146 ?_
        have r35 := i_full (V 69 gf)
        refine lv_topi (fun z36 ez36 => ?_)
        have hz36 : Imp (-2147483648 ≤ ((V 69 gf)).toInt + 1 ∧ ((V 69 gf)).toInt + 1 ≤ 2147483647) (z36.toInt = ((V 69 gf)).toInt + 1) := Imp.mk (fun hp => i_add ez36 rfl (by decide) hp)
        have me37 : ME V V31 gf := (ME.up (ME.up ME.rf hV20 (Or.inl ⟨by decide, by decide, Nat.le_refl _⟩)) hV31 (Or.inl ⟨by decide, by decide, Nat.le_refl _⟩))
        have pq38 : (V31 67 gf).toInt = ((V 67 gf)).toInt := congrArg Int32.toInt ((up2_o hV31 (by decide)).trans (up2_o hV20 (by decide)))
        have pq39 : (V31 68 gf).toInt = ((V 68 gf)).toInt := congrArg Int32.toInt ((up2_o hV31 (by decide)).trans (up2_o hV20 (by decide)))
        have pq40 : (V31 70 gf).toInt = ((V 70 gf)).toInt := congrArg Int32.toInt ((up2_o hV31 (by decide)).trans (up2_o hV20 (by decide)))
        have pq41 : (V31 71 gf).toInt = ((V 71 gf)).toInt := congrArg Int32.toInt ((up2_o hV31 (by decide)).trans (up2_o hV20 (by decide)))
        have pq42 : (V31 75 gf).toInt = ((V 75 gf)).toInt := congrArg Int32.toInt ((up2_o hV31 (by decide)).trans (up2_o hV20 (by decide)))
        have pq43 : (V31 76 gf).toInt = z30.toInt := congrArg Int32.toInt (up2_s hV31)
        have pq44 : (V31 80 gf).toInt = ((V 80 gf)).toInt := congrArg Int32.toInt ((up2_o hV31 (by decide)).trans (up2_o hV20 (by decide)))
        have pq45 : (V31 84 gf).toInt = ((V 84 gf)).toInt := congrArg Int32.toInt ((up2_o hV31 (by decide)).trans (up2_o hV20 (by decide)))
        have pq46 : (V31 5 6).toInt = ((V 5 6)).toInt := congrArg Int32.toInt ((up2_o hV31 (by decide)).trans (up2_o hV20 (by decide)))
        have pq47 : (V31 5 8).toInt = ((V 5 8)).toInt := congrArg Int32.toInt ((up2_o hV31 (by decide)).trans (up2_o hV20 (by decide)))
        have pq48 : (V31 5 9).toInt = ((V 5 9)).toInt := congrArg Int32.toInt ((up2_o hV31 (by decide)).trans (up2_o hV20 (by decide)))
        have pq49 : (V31 3 13).toInt = ((V 3 13)).toInt := congrArg Int32.toInt ((up2_o hV31 (by decide)).trans (up2_o hV20 (by decide)))
        have pq50 : (V31 43 (5 * b + 2)).toInt = ((V 43 (5 * b + 2))).toInt := congrArg Int32.toInt ((up2_o hV31 (by decide)).trans (up2_o hV20 (by decide)))
        have pq51 : (V31 42 b).toInt = ((V 42 b)).toInt := congrArg Int32.toInt ((up2_o hV31 (by decide)).trans (up2_o hV20 (by decide)))
        have pq52 : (V31 41 b).toInt = ((V 41 b)).toInt := congrArg Int32.toInt ((up2_o hV31 (by decide)).trans (up2_o hV20 (by decide)))
        have ep55 : V31 84 gf = (V 84 gf) := ((up2_o hV31 (by decide)).trans (up2_o hV20 (by decide)))
        have af54 : (V31 42 b).toInt ≤ (V31 84 gf).toInt ∨ (bdp V31 b (V31 84 gf).toInt.toNat).1 = true := by rw [ep55, me37.1.bd, me37.1 42 b (by decide) (by decide)]; exact ft
        have mo53 : MO V31 Z b gf True True True := MO.ch mo me37 ((up2_o hV31 (by decide)).trans (up2_o hV20 (by decide))) ((up2_o hV31 (by decide)).trans (up2_o hV20 (by decide))) (fun _ => Or.inl (by omega)) (fun x h => FK.k4 (by first | omega | ((try (have i_hz36 := Imp.go hz36 (by omega))); (try (have i_hz30 := Imp.go hz30 (by omega))); (try (have i_hz19 := Imp.go hz19 (by omega))); (try (have i_hz19 := Imp.go hz19 (by omega))); (try (have i_hz30 := Imp.go hz30 (by omega))); (try (have i_hz36 := Imp.go hz36 (by omega))); omega)) (by first | omega | ((try (have i_hz36 := Imp.go hz36 (by omega))); (try (have i_hz30 := Imp.go hz30 (by omega))); (try (have i_hz19 := Imp.go hz19 (by omega))); (try (have i_hz19 := Imp.go hz19 (by omega))); (try (have i_hz30 := Imp.go hz30 (by omega))); (try (have i_hz36 := Imp.go hz36 (by omega))); omega)) (by first | omega | ((try (have i_hz36 := Imp.go hz36 (by omega))); (try (have i_hz30 := Imp.go hz30 (by omega))); (try (have i_hz19 := Imp.go hz19 (by omega))); (try (have i_hz19 := Imp.go hz19 (by omega))); (try (have i_hz30 := Imp.go hz30 (by omega))); (try (have i_hz36 := Imp.go hz36 (by omega))); omega)) af54 (by first | omega | ((try (have i_hz36 := Imp.go hz36 (by omega))); (try (have i_hz30 := Imp.go hz30 (by omega))); (try (have i_hz19 := Imp.go hz19 (by omega))); (try (have i_hz19 := Imp.go hz19 (by omega))); (try (have i_hz30 := Imp.go hz30 (by omega))); (try (have i_hz36 := Imp.go hz36 (by omega))); omega)) (fun hph => absurd hph (by omega)))
        have mt56 : MT V31 Z b := MO.mt mo53 (by (first | exact om_c09d41618ed8 hgf | omega)) (by (first | exact om_82fa09255765 gd pq46 | omega))
        refine W.know (fun k58 k59 => ?_)
        obtain ⟨Hk57, hHk57⟩ : ∃ z, z = H := ⟨_, rfl⟩
        have k58 : Hk57.size ≤ s.heap.size + (zcc Z - zcc Z) := by rw [hHk57]; exact k58
        have k59 : tot Hk57 ≤ tot s.heap + (zss Z - zss Z) := by rw [hHk57]; exact k59
        refine gZ_void (gA_runV (As := [.int z24, .int (V 72 gf), .int (V 77 gf), .int (V 78 gf), .int z36]) (rest := []) (ci := 5) (q0 := 5) hx hb hml hown hg hP hD hK hS hA hnw hgk (x_pushCall l D ks H.size ad kk V31 L Z z24 (V 72 gf) (V 77 gf) (V 78 gf) z36 (b) hMV31 (by first | exact om_13ba01c174fe r33.1 r33.2 | first | omega | ((try (have i_hz36 := Imp.go hz36 (by omega))); (try (have i_hz30 := Imp.go hz30 (by omega))); (try (have i_hz19 := Imp.go hz19 (by omega))); (try (have i_hz19 := Imp.go hz19 (by omega))); (try (have i_hz30 := Imp.go hz30 (by omega))); (try (have i_hz36 := Imp.go hz36 (by omega))); omega)) (by first | exact om_0916ac166aa8 r34.1 r34.2 | first | omega | ((try (have i_hz36 := Imp.go hz36 (by omega))); (try (have i_hz30 := Imp.go hz30 (by omega))); (try (have i_hz19 := Imp.go hz19 (by omega))); (try (have i_hz19 := Imp.go hz19 (by omega))); (try (have i_hz30 := Imp.go hz30 (by omega))); (try (have i_hz36 := Imp.go hz36 (by omega))); omega)) (show b < 2 from by first | exact om_f940a4667dd6 hb2 | first | omega | ((try (have i_hz36 := Imp.go hz36 (by omega))); (try (have i_hz30 := Imp.go hz30 (by omega))); (try (have i_hz19 := Imp.go hz19 (by omega))); (try (have i_hz19 := Imp.go hz19 (by omega))); (try (have i_hz30 := Imp.go hz30 (by omega))); (try (have i_hz36 := Imp.go hz36 (by omega))); omega)) mt56) w1454 w1455 w1456 w171 w1457 rfl xgMachine hdV_yX5_pushCall ⟨Nat.le_of_ble_eq_true rfl, Nat.le_of_ble_eq_true rfl⟩ rfl hl.1 rfl (Nat.le_of_ble_eq_true rfl) dX5_takesAnswer_147 ⟨z1 zoZ.1, z1 zoZ.2.1⟩) hD hS hA (fun u61 H locs w62 hP hD hK hS y63 y64 => ?_)
        obtain ⟨V65, L66, Z67⟩ := u61
        obtain ⟨hMV65, ajV65, axL66, zlZ67, t69⟩ := w62
        have axL66 : L = L66 := Eq.symm axL66
        subst axL66
        have hP : va_P D vwCl (xw ad kk V65 L Z67) H := hP
        have hD : va_D A (xw ad kk V65 L Z67) := hD
        have hK : va_K D vwCl (xty kk Z67) s := hK
        have hMV65 : rgd bX V65 := hMV65
        have ajV65 : agr [(5, 6), (5, 9)] [67, 68, 69, 70, 71, 72, 73, 74, 75, 76, 77, 78, 79, 80, 81, 82, 83, 84, 85] V31 V65 := ajV65
        have agV65 : agr [(3, 15), (5, 6), (5, 7), (5, 9)] [30, 31, 32, 39, 67, 68, 69, 70, 71, 72, 73, 74, 75, 76, 77, 78, 79, 80, 81, 82, 83, 84, 85] V V65 := agV31.tr ajV65 (by decide) (by decide)
        have zlZ67 : ZL Z Z67 := zlZ67
        have zoZ67 : ZL Z Z67 := ZL.tr zoZ zlZ67
        have ziZ67 := zlZ67.1
        have zjZ67 := zlZ67.2.1
        have zkZ67 := zlZ67.2.2.1
        have zmZ67 := zoZ67.1
        have znZ67 := zoZ67.2.1
        have zpZ_Z67 := zoZ.1
        have zqZ_Z67 := zoZ.2.1
        have y63 : H.size ≤ Hk57.size + (zcc Z - zcc Z67) := by rw [hHk57]; exact y63
        have y64 : tot H ≤ tot Hk57 + (zss Z - zss Z67) := by rw [hHk57]; exact y64
        refine W.tight (k := zcc Z - zcc Z67) (n := zss Z - zss Z67) (by first | exact tg9 y63 k58 zlZ67.1 zoZ.1 | omega) (by first | exact tg9 y64 k59 zlZ67.2.1 zoZ.2.1 | omega) ?_
        have hl : lv_has ls 3 [(2, .int z24), (0, .ref (ad 5)), (1, .ref (Z67.fa gf))] := by rw [zlZ67.2.2.2.2 gf hgf]; exact hl
        have t69 : MJ V65 Z67 b := t69
        refine lv_iconst (v := 0) hx hb dX5_takesAnswer_150 (by decide) ?_
        have r70 : 0 ≤ ((V65 5 6)).toInt ∧ ((V65 5 6)).toInt ≤ 400 := hMV65 5 6
        refine W.know (fun kr1 kr2 => ?_)
        refine W.widen (k := zcc Z) (n := zss Z) (Nat.sub_le _ _) (Nat.sub_le _ _) ?_
        exact W.zret (v := 0) hx hb hr rfl (fun t ht hW => ⟨⟨0, (V65, L, Z67), rfl, ⟨hMV65, agV65, rfl, zoZ67, (by decide), (Imp.mk (fun hp => absurd hp (by decide))), (Imp.mk (fun _ => t69)), (Imp.mk (fun hp => absurd hp (by decide))), (Imp.mk (fun hp => absurd hp (by decide)))⟩, ⟨by rw [ht]; exact hP, va_K.moved hW.alike hK, hD⟩, by rw [ht]; exact kr1, by rw [ht]; exact kr2⟩, hS.F ht⟩) hS.2.2 dX5_takesAnswer_151
      · skip
        have f71 : z24.toInt = (-1) := b_eq rfl (by decide) c27
        refine lv_aload_n hx hb dX5_takesAnswer_107 rfl (lv_at hl 1 rfl) ?_
        refine lv_aload_n hx hb dX5_takesAnswer_108 rfl (lv_at hl 2 rfl) ?_
        refine va_getN (D := D) (ci := 4) (v := .int (V20 79 gf)) (fs := (xfFrame V20 gf)) (C := RX4) (T := TX4) (N := 19) hx hb hg inX4 hown hK hP (336 + gf) (xgFrame hgf) rfl 12 (by decide) (hnw.use 1201 n1201 rfl) (fun _ h9 => h9) rfl dX5_takesAnswer_109 ?_
        refine g_top (v := z19) (up2_s hV20) ?_
        refine gA_void (gA_runV (As := [.int z19]) (rest := []) (ci := 5) (q0 := 5) hx hb hml hown hg hP hD hK hS hA hnw hgk (x_mput l D ks H.size ad kk V20 L Z z19 hMV20 ) w1466 w1468 w72 w171 w1469 rfl xgMachine hdV_yX5_put ⟨Nat.le_of_ble_eq_true rfl, Nat.le_of_ble_eq_true rfl⟩ rfl hl.1 rfl (Nat.le_of_ble_eq_true rfl) dX5_takesAnswer_112 ⟨z0, z0⟩) hP hD hK hS hA (fun u73 H locs w74 hP hD hK hS => ?_)
        obtain ⟨V75, L76⟩ := u73
        obtain ⟨hMV75, ajV75, axL76⟩ := w74
        have axL76 : L = L76 := Eq.symm axL76
        subst axL76
        have hP : va_P D vwCl (xw ad kk V75 L Z) H := hP
        have hD : va_D A (xw ad kk V75 L Z) := hD
        have hMV75 : rgd bX V75 := hMV75
        have ajV75 : agr [(5, 7)] [39] V20 V75 := ajV75
        have agV75 : agr [(3, 15), (5, 6), (5, 7), (5, 9)] [30, 31, 32, 39, 67, 68, 69, 70, 71, 72, 73, 74, 75, 76, 77, 78, 79, 80, 81, 82, 83, 84, 85] V V75 := agV20.tr ajV75 (by decide) (by decide)
        refine lv_iconst (v := 1) hx hb dX5_takesAnswer_115 (by decide) ?_
        have pq77 : (V75 5 6).toInt = ((V 5 6)).toInt := congrArg Int32.toInt ((ajV75 5 6 rfl).trans (up2_o hV20 (by decide)))
        have pq78 : (V75 67 gf).toInt = ((V 67 gf)).toInt := congrArg Int32.toInt ((ajV75 67 gf rfl).trans (up2_o hV20 (by decide)))
        have me79 : ME V V75 gf := (ME.tr (ME.up ME.rf hV20 (Or.inl ⟨by decide, by decide, Nat.le_refl _⟩)) (ME.ag ajV75 (by decide)))
        have pq80 : (V75 68 gf).toInt = ((V 68 gf)).toInt := congrArg Int32.toInt ((ajV75 68 gf rfl).trans (up2_o hV20 (by decide)))
        have pq81 : (V75 70 gf).toInt = ((V 70 gf)).toInt := congrArg Int32.toInt ((ajV75 70 gf rfl).trans (up2_o hV20 (by decide)))
        have pq82 : (V75 71 gf).toInt = ((V 71 gf)).toInt := congrArg Int32.toInt ((ajV75 71 gf rfl).trans (up2_o hV20 (by decide)))
        have pq83 : (V75 75 gf).toInt = ((V 75 gf)).toInt := congrArg Int32.toInt ((ajV75 75 gf rfl).trans (up2_o hV20 (by decide)))
        have pq84 : (V75 76 gf).toInt = ((V 76 gf)).toInt := congrArg Int32.toInt ((ajV75 76 gf rfl).trans (up2_o hV20 (by decide)))
        have pq85 : (V75 80 gf).toInt = ((V 80 gf)).toInt := congrArg Int32.toInt ((ajV75 80 gf rfl).trans (up2_o hV20 (by decide)))
        have pq86 : (V75 84 gf).toInt = ((V 84 gf)).toInt := congrArg Int32.toInt ((ajV75 84 gf rfl).trans (up2_o hV20 (by decide)))
        have pq87 : (V75 5 8).toInt = ((V 5 8)).toInt := congrArg Int32.toInt ((ajV75 5 8 rfl).trans (up2_o hV20 (by decide)))
        have pq88 : (V75 5 9).toInt = ((V 5 9)).toInt := congrArg Int32.toInt ((ajV75 5 9 rfl).trans (up2_o hV20 (by decide)))
        have pq89 : (V75 3 13).toInt = ((V 3 13)).toInt := congrArg Int32.toInt ((ajV75 3 13 rfl).trans (up2_o hV20 (by decide)))
        have pq90 : (V75 43 (5 * b + 2)).toInt = ((V 43 (5 * b + 2))).toInt := congrArg Int32.toInt ((ajV75 43 (5 * b + 2) rfl).trans (up2_o hV20 (by decide)))
        have pq91 : (V75 42 b).toInt = ((V 42 b)).toInt := congrArg Int32.toInt ((ajV75 42 b rfl).trans (up2_o hV20 (by decide)))
        have pq92 : (V75 41 b).toInt = ((V 41 b)).toInt := congrArg Int32.toInt ((ajV75 41 b rfl).trans (up2_o hV20 (by decide)))
        have ep95 : V75 84 gf = (V 84 gf) := ((ajV75 84 gf rfl).trans (up2_o hV20 (by decide)))
        have af94 : (V75 42 b).toInt ≤ (V75 84 gf).toInt ∨ (bdp V75 b (V75 84 gf).toInt.toNat).1 = true := by rw [ep95, me79.1.bd, me79.1 42 b (by decide) (by decide)]; exact ft
        have mo93 : MO V75 Z b gf True True True := MO.ch mo me79 ((ajV75 67 gf rfl).trans (up2_o hV20 (by decide))) ((ajV75 80 gf rfl).trans (up2_o hV20 (by decide))) (fun _ => Or.inl (by omega)) (fun x h => FK.k4 (by first | omega | ((try (have i_hz19 := Imp.go hz19 (by omega))); omega)) (by first | omega | ((try (have i_hz19 := Imp.go hz19 (by omega))); omega)) (by first | omega | ((try (have i_hz19 := Imp.go hz19 (by omega))); omega)) af94 (by first | omega | ((try (have i_hz19 := Imp.go hz19 (by omega))); omega)) (fun hph => absurd hph (by omega)))
        refine W.know (fun kr1 kr2 => ?_)
        refine W.widen (k := zcc Z) (n := zss Z) (Nat.sub_le _ _) (Nat.sub_le _ _) ?_
        exact W.zret (v := 1) hx hb hr rfl (fun t ht hW => ⟨⟨1, (V75, L, Z), rfl, ⟨hMV75, agV75, rfl, zoZ, (by decide), (Imp.mk (fun _ => mo93)), (Imp.mk (fun hp => absurd hp (by decide))), (Imp.mk (fun _ => (show (V75 5 6).toInt = (V 5 6).toInt ∧ (V75 67 gf).toInt = 4 from by first | exact om_7c7da5faf5fa gk pq77 pq78 | first | omega | ((try (have i_hz19 := Imp.go hz19 (by omega))); omega)))), (Imp.mk (fun _ => rfl))⟩, ⟨by rw [ht]; exact hP, va_K.moved hW.alike hK, hD⟩, by rw [ht]; exact kr1, by rw [ht]; exact kr2⟩, hS.F ht⟩) hS.2.2 dX5_takesAnswer_116
    · skip
      have f96 : ((V 68 gf)).toInt = 7 := b_eq rfl (by decide) c15
      refine lv_aload_n hx hb dX5_takesAnswer_27 rfl (lv_at hl 0 rfl) ?_
      refine lv_aload_n hx hb dX5_takesAnswer_28 rfl (lv_at hl 1 rfl) ?_
      refine lv_aload_n hx hb dX5_takesAnswer_29 rfl (lv_at hl 0 rfl) ?_
      refine va_get (D := D) (ci := 5) (v := .int (V 5 10)) (fs := (xfMachine ad V L Z)) (C := RX5) (T := TX5) (N := 15) hx hb hg inX5 hown hK hP 5 xgMachine rfl 10 (by decide) (hg _ w677) (fun _ h9 => h9) rfl dX5_takesAnswer_30 ?_
      refine W.know (fun k98 k99 => ?_)
      obtain ⟨Hk97, hHk97⟩ : ∃ z, z = H := ⟨_, rfl⟩
      have k98 : Hk97.size ≤ s.heap.size + (zcc Z - zcc Z) := by rw [hHk97]; exact k98
      have k99 : tot Hk97 ≤ tot s.heap + (zss Z - zss Z) := by rw [hHk97]; exact k99
      refine gZ_void (gA_runV (As := [.ref (Z.fa gf), .int (V 5 10)]) (rest := []) (ci := 5) (q0 := 5) hx hb hml hown hg hP hD hK hS hA hnw hgk (x_joinLate l D ks H.size ad kk V L Z (V 5 10) (b) (gf) hMV (show b < 2 from by (first | exact om_f940a4667dd6 hb2 | omega)) (show gf < Z.nf from by (first | exact om_8c5722e49bb1 hgf | omega)) mo (show (gf : Int) + 1 = (V 5 6).toInt from by (first | exact om_b7eb86266639 gd | omega)) (show (V 67 gf).toInt = 4 from by (first | exact om_c88e7ce0b8a2 gk | omega)) (show (V 68 gf).toInt = 7 from by (first | exact om_ba873a6da76b f96 | omega)) (show ((V 5 10)).toInt = (V 5 10).toInt from by (first | exact om_4c2c879c4424 | omega))) w1470 w1472 w73 w171 w1473 rfl xgMachine hdV_yX5_joinLate ⟨Nat.le_of_ble_eq_true rfl, Nat.le_of_ble_eq_true rfl⟩ rfl hl.1 rfl (Nat.le_of_ble_eq_true rfl) dX5_takesAnswer_33 ⟨z1 zoZ.1, z1 zoZ.2.1⟩) hD hS hA (fun u101 H locs w102 hP hD hK hS y103 y104 => ?_)
      obtain ⟨V105, L106, Z107⟩ := u101
      obtain ⟨hMV105, ajV105, axL106, zlZ107, t109⟩ := w102
      have axL106 : L = L106 := Eq.symm axL106
      subst axL106
      have hP : va_P D vwCl (xw ad kk V105 L Z107) H := hP
      have hD : va_D A (xw ad kk V105 L Z107) := hD
      have hK : va_K D vwCl (xty kk Z107) s := hK
      have hMV105 : rgd bX V105 := hMV105
      have ajV105 : agr [(3, 15)] [30, 31, 32] V V105 := ajV105
      have agV105 : agr [(3, 15), (5, 6), (5, 7), (5, 9)] [30, 31, 32, 39, 67, 68, 69, 70, 71, 72, 73, 74, 75, 76, 77, 78, 79, 80, 81, 82, 83, 84, 85] V V105 := agV.tr ajV105 (by decide) (by decide)
      have zlZ107 : ZL Z Z107 := zlZ107
      have zoZ107 : ZL Z Z107 := ZL.tr zoZ zlZ107
      have ziZ107 := zlZ107.1
      have zjZ107 := zlZ107.2.1
      have zkZ107 := zlZ107.2.2.1
      have zmZ107 := zoZ107.1
      have znZ107 := zoZ107.2.1
      have zpZ_Z107 := zoZ.1
      have zqZ_Z107 := zoZ.2.1
      have y103 : H.size ≤ Hk97.size + (zcc Z - zcc Z107) := by rw [hHk97]; exact y103
      have y104 : tot H ≤ tot Hk97 + (zss Z - zss Z107) := by rw [hHk97]; exact y104
      refine W.tight (k := zcc Z - zcc Z107) (n := zss Z - zss Z107) (by first | exact tg9 y103 k98 zlZ107.1 zoZ.1 | omega) (by first | exact tg9 y104 k99 zlZ107.2.1 zoZ.2.1 | omega) ?_
      have hl : lv_has ls 3 [(0, .ref (ad 5)), (1, .ref (Z107.fa gf))] := by rw [zlZ107.2.2.2.2 gf hgf]; exact hl
      have t109 : MO V105 Z107 b gf True False True := t109
      have mup := MO.up t109
      have msz := mup.1
      have mbk := mup.2.2.2.1
      obtain ⟨xk, fk⟩ := MO.fk t109
      have pq110 : (V105 67 gf).toInt = ((V 67 gf)).toInt := congrArg Int32.toInt (ajV105 67 gf rfl)
      have pq111 : (V105 68 gf).toInt = ((V 68 gf)).toInt := congrArg Int32.toInt (ajV105 68 gf rfl)
      have pq112 : (V105 70 gf).toInt = ((V 70 gf)).toInt := congrArg Int32.toInt (ajV105 70 gf rfl)
      have pq113 : (V105 71 gf).toInt = ((V 71 gf)).toInt := congrArg Int32.toInt (ajV105 71 gf rfl)
      have pq114 : (V105 75 gf).toInt = ((V 75 gf)).toInt := congrArg Int32.toInt (ajV105 75 gf rfl)
      have pq115 : (V105 76 gf).toInt = ((V 76 gf)).toInt := congrArg Int32.toInt (ajV105 76 gf rfl)
      have pq116 : (V105 80 gf).toInt = ((V 80 gf)).toInt := congrArg Int32.toInt (ajV105 80 gf rfl)
      have pq117 : (V105 84 gf).toInt = ((V 84 gf)).toInt := congrArg Int32.toInt (ajV105 84 gf rfl)
      have pq118 : (V105 5 6).toInt = ((V 5 6)).toInt := congrArg Int32.toInt (ajV105 5 6 rfl)
      have pq119 : (V105 5 8).toInt = ((V 5 8)).toInt := congrArg Int32.toInt (ajV105 5 8 rfl)
      have pq120 : (V105 5 9).toInt = ((V 5 9)).toInt := congrArg Int32.toInt (ajV105 5 9 rfl)
      have pq121 : (V105 3 13).toInt = ((V 3 13)).toInt := congrArg Int32.toInt (ajV105 3 13 rfl)
      have pq122 : (V105 43 (5 * b + 2)).toInt = ((V 43 (5 * b + 2))).toInt := congrArg Int32.toInt (ajV105 43 (5 * b + 2) rfl)
      have pq123 : (V105 41 b).toInt = ((V 41 b)).toInt := congrArg Int32.toInt (ajV105 41 b rfl)
      have pq124 : (V105 42 b).toInt = ((V 42 b)).toInt := congrArg Int32.toInt (ajV105 42 b rfl)
      have fc := fk.1 (by omega)
      have fo := fk.2.1 (by omega) (by omega)
      have ft := fk.2.2.1 (by omega)
      have fq := fk.2.2.2.1 (by omega)
      have ftx : (V105 42 b).toInt ≤ (V 84 gf).toInt ∨ (bdp V105 b (V 84 gf).toInt.toNat).1 = true := by have q := ft; rw [(ajV105 84 gf rfl)] at q; exact q
      refine lv_aload_n hx hb dX5_takesAnswer_36 rfl (lv_at hl 1 rfl) ?_
      refine lv_iconst (v := 1) hx hb dX5_takesAnswer_37 (by decide) ?_
      have il125 : gf < Z107.nf := by omega
      refine va_putN (D := D) (ci := 4) (v := .int 1) (ty := tyX4 1) (fs := (xfFrame V105 gf)) (C := RX4) (T := TX4) (N := 19) hx hb hg inX4 tyX4 tyX4_ok nmX4 hown hK hP hD hS (336 + gf) (xgFrame il125) rfl 1 (by decide) (hnw.use 1190 n1190 rfl) (fun _ h9 => h9) rfl (tyX4_ok 1 (by decide)) rfl rfl (Nat.le_of_ble_eq_true rfl) dX5_takesAnswer_38 (fun H locs hP hD hS => ?_)
      obtain ⟨V126, hV126⟩ : ∃ z, z = up2 V105 68 gf 1 := ⟨_, rfl⟩
      have ew127 : (xw ad kk V105 L Z107).set (336 + gf) ((Z107.fa gf), .inr (4, (xfFrame V105 gf).set 1 (.int 1))) = xw ad kk V126 L Z107 := by rw [hV126]; exact xpFrame_phase il125
      have hP : va_P D vwCl (xw ad kk V126 L Z107) H := by rw [← ew127]; exact hP
      have hD : va_D A (xw ad kk V126 L Z107) := by rw [← ew127]; exact hD
      have hMV126 : rgd bX V126 := hMV105.put hV126 (i_full _)
      have agV126 : agr [(3, 15), (5, 6), (5, 7), (5, 9)] [30, 31, 32, 39, 67, 68, 69, 70, 71, 72, 73, 74, 75, 76, 77, 78, 79, 80, 81, 82, 83, 84, 85] V V126 := agV105.up hV126 rfl
      refine lv_aload_n hx hb dX5_takesAnswer_41 rfl (lv_at hl 0 rfl) ?_
      refine lv_aload_n hx hb dX5_takesAnswer_42 rfl (lv_at hl 0 rfl) ?_
      refine va_get (D := D) (ci := 5) (v := .int (V126 5 10)) (fs := (xfMachine ad V126 L Z107)) (C := RX5) (T := TX5) (N := 15) hx hb hg inX5 hown hK hP 5 xgMachine rfl 10 (by decide) (hg _ w677) (fun _ h9 => h9) rfl dX5_takesAnswer_43 ?_
      refine g_top (v := (V 5 10)) ((up2_o hV126 (by decide)).trans (ajV105 5 10 rfl)) ?_
      refine lv_aload_n hx hb dX5_takesAnswer_46 rfl (lv_at hl 1 rfl) ?_
      refine va_getN (D := D) (ci := 4) (v := .int (V126 72 gf)) (fs := (xfFrame V126 gf)) (C := RX4) (T := TX4) (N := 19) hx hb hg inX4 hown hK hP (336 + gf) (xgFrame il125) rfl 5 (by decide) (hnw.use 1194 n1194 rfl) (fun _ h9 => h9) rfl dX5_takesAnswer_47 ?_
      refine g_top (v := (V 72 gf)) ((up2_o hV126 (by decide)).trans (ajV105 72 gf rfl)) ?_
      have r128 : 0 ≤ ((V 72 gf)).toInt ∧ ((V 72 gf)).toInt ≤ 39 := hMV 72 gf
      refine lv_aload_n hx hb dX5_takesAnswer_50 rfl (lv_at hl 1 rfl) ?_
      refine va_getN (D := D) (ci := 4) (v := .int (V126 77 gf)) (fs := (xfFrame V126 gf)) (C := RX4) (T := TX4) (N := 19) hx hb hg inX4 hown hK hP (336 + gf) (xgFrame il125) rfl 10 (by decide) (hnw.use 1199 n1199 rfl) (fun _ h9 => h9) rfl dX5_takesAnswer_51 ?_
      refine g_top (v := (V 77 gf)) ((up2_o hV126 (by decide)).trans (ajV105 77 gf rfl)) ?_
      have r129 : 0 ≤ ((V 77 gf)).toInt ∧ ((V 77 gf)).toInt ≤ 19 := hMV 77 gf
      refine lv_aload_n hx hb dX5_takesAnswer_54 rfl (lv_at hl 1 rfl) ?_
      refine va_getN (D := D) (ci := 4) (v := .int (V126 78 gf)) (fs := (xfFrame V126 gf)) (C := RX4) (T := TX4) (N := 19) hx hb hg inX4 hown hK hP (336 + gf) (xgFrame il125) rfl 11 (by decide) (hnw.use 1200 n1200 rfl) (fun _ h9 => h9) rfl dX5_takesAnswer_55 ?_
      refine g_top (v := (V 78 gf)) ((up2_o hV126 (by decide)).trans (ajV105 78 gf rfl)) ?_
      refine lv_aload_n hx hb dX5_takesAnswer_58 rfl (lv_at hl 1 rfl) ?_
      refine va_getN (D := D) (ci := 4) (v := .int (V126 69 gf)) (fs := (xfFrame V126 gf)) (C := RX4) (T := TX4) (N := 19) hx hb hg inX4 hown hK hP (336 + gf) (xgFrame il125) rfl 2 (by decide) (hnw.use 1191 n1191 rfl) (fun _ h9 => h9) rfl dX5_takesAnswer_59 ?_
      refine g_top (v := (V 69 gf)) ((up2_o hV126 (by decide)).trans (ajV105 69 gf rfl)) ?_
      refine lv_iconst (v := 1) hx hb dX5_takesAnswer_62 (by decide) ?_
      refine lv_iadd hx hb dX5_takesAnswer_63 ?_
      have r130 := i_full (V 69 gf)
      refine lv_topi (fun z131 ez131 => ?_)
      have hz131 : Imp (-2147483648 ≤ ((V 69 gf)).toInt + 1 ∧ ((V 69 gf)).toInt + 1 ≤ 2147483647) (z131.toInt = ((V 69 gf)).toInt + 1) := Imp.mk (fun hp => i_add ez131 rfl (by decide) hp)
      have me132 : ME V105 V126 gf := (ME.up ME.rf hV126 (Or.inl ⟨by decide, by decide, Nat.le_refl _⟩))
      have pq133 : (V126 67 gf).toInt = ((V 67 gf)).toInt := congrArg Int32.toInt ((up2_o hV126 (by decide)).trans (ajV105 67 gf rfl))
      have pq134 : (V126 68 gf).toInt = 1 := (congrArg Int32.toInt (up2_s hV126)).trans (by decide)
      have pq135 : (V126 70 gf).toInt = ((V 70 gf)).toInt := congrArg Int32.toInt ((up2_o hV126 (by decide)).trans (ajV105 70 gf rfl))
      have pq136 : (V126 71 gf).toInt = ((V 71 gf)).toInt := congrArg Int32.toInt ((up2_o hV126 (by decide)).trans (ajV105 71 gf rfl))
      have pq137 : (V126 75 gf).toInt = ((V 75 gf)).toInt := congrArg Int32.toInt ((up2_o hV126 (by decide)).trans (ajV105 75 gf rfl))
      have pq138 : (V126 76 gf).toInt = ((V 76 gf)).toInt := congrArg Int32.toInt ((up2_o hV126 (by decide)).trans (ajV105 76 gf rfl))
      have pq139 : (V126 80 gf).toInt = ((V 80 gf)).toInt := congrArg Int32.toInt ((up2_o hV126 (by decide)).trans (ajV105 80 gf rfl))
      have pq140 : (V126 84 gf).toInt = ((V 84 gf)).toInt := congrArg Int32.toInt ((up2_o hV126 (by decide)).trans (ajV105 84 gf rfl))
      have pq141 : (V126 5 6).toInt = ((V 5 6)).toInt := congrArg Int32.toInt ((up2_o hV126 (by decide)).trans (ajV105 5 6 rfl))
      have pq142 : (V126 5 8).toInt = ((V 5 8)).toInt := congrArg Int32.toInt ((up2_o hV126 (by decide)).trans (ajV105 5 8 rfl))
      have pq143 : (V126 5 9).toInt = ((V 5 9)).toInt := congrArg Int32.toInt ((up2_o hV126 (by decide)).trans (ajV105 5 9 rfl))
      have pq144 : (V126 3 13).toInt = ((V 3 13)).toInt := congrArg Int32.toInt ((up2_o hV126 (by decide)).trans (ajV105 3 13 rfl))
      have pq145 : (V126 43 (5 * b + 2)).toInt = ((V 43 (5 * b + 2))).toInt := congrArg Int32.toInt ((up2_o hV126 (by decide)).trans (ajV105 43 (5 * b + 2) rfl))
      have pq146 : (V126 42 b).toInt = ((V 42 b)).toInt := congrArg Int32.toInt ((up2_o hV126 (by decide)).trans (ajV105 42 b rfl))
      have pq147 : (V126 41 b).toInt = ((V 41 b)).toInt := congrArg Int32.toInt ((up2_o hV126 (by decide)).trans (ajV105 41 b rfl))
      have ep150 : V126 84 gf = (V 84 gf) := ((up2_o hV126 (by decide)).trans (ajV105 84 gf rfl))
      have af149 : (V126 42 b).toInt ≤ (V126 84 gf).toInt ∨ (bdp V126 b (V126 84 gf).toInt.toNat).1 = true := by rw [ep150, me132.1.bd, me132.1 42 b (by decide) (by decide)]; exact ftx
      have mo148 : MO V126 Z107 b gf True True True := MO.ch t109 me132 (up2_o hV126 (by decide)) (up2_o hV126 (by decide)) (fun _ => Or.inl (by omega)) (fun x h => FK.k4 (by first | omega | ((try (have i_hz131 := Imp.go hz131 (by omega))); omega)) (by first | omega | ((try (have i_hz131 := Imp.go hz131 (by omega))); omega)) (by first | omega | ((try (have i_hz131 := Imp.go hz131 (by omega))); omega)) af149 (by first | omega | ((try (have i_hz131 := Imp.go hz131 (by omega))); omega)) (fun hph => absurd hph (by omega)))
      have mt151 : MT V126 Z107 b := MO.mt mo148 (by (first | exact om_c09d41618ed8 il125 | omega)) (by (first | exact om_82fa09255765 gd pq141 | omega))
      refine W.know (fun k153 k154 => ?_)
      obtain ⟨Hk152, hHk152⟩ : ∃ z, z = H := ⟨_, rfl⟩
      have k153 : Hk152.size ≤ s.heap.size + (zcc Z - zcc Z107) := by rw [hHk152]; exact k153
      have k154 : tot Hk152 ≤ tot s.heap + (zss Z - zss Z107) := by rw [hHk152]; exact k154
      refine gZ_void (gA_runV (As := [.int (V 5 10), .int (V 72 gf), .int (V 77 gf), .int (V 78 gf), .int z131]) (rest := []) (ci := 5) (q0 := 5) hx hb hml hown hg hP hD hK hS hA hnw hgk (x_pushCall l D ks H.size ad kk V126 L Z107 (V 5 10) (V 72 gf) (V 77 gf) (V 78 gf) z131 (b) hMV126 (by first | exact om_13ba01c174fe r128.1 r128.2 | first | omega | ((try (have i_hz131 := Imp.go hz131 (by omega))); omega)) (by first | exact om_0916ac166aa8 r129.1 r129.2 | first | omega | ((try (have i_hz131 := Imp.go hz131 (by omega))); omega)) (show b < 2 from by first | exact om_f940a4667dd6 hb2 | first | omega | ((try (have i_hz131 := Imp.go hz131 (by omega))); omega)) mt151) w1454 w1455 w1456 w171 w1457 rfl xgMachine hdV_yX5_pushCall ⟨Nat.le_of_ble_eq_true rfl, Nat.le_of_ble_eq_true rfl⟩ rfl hl.1 rfl (Nat.le_of_ble_eq_true rfl) dX5_takesAnswer_64 ⟨z1 zoZ107.1, z1 zoZ107.2.1⟩) hD hS hA (fun u156 H locs w157 hP hD hK hS y158 y159 => ?_)
      obtain ⟨V160, L161, Z162⟩ := u156
      obtain ⟨hMV160, ajV160, axL161, zlZ162, t164⟩ := w157
      have axL161 : L = L161 := Eq.symm axL161
      subst axL161
      have hP : va_P D vwCl (xw ad kk V160 L Z162) H := hP
      have hD : va_D A (xw ad kk V160 L Z162) := hD
      have hK : va_K D vwCl (xty kk Z162) s := hK
      have hMV160 : rgd bX V160 := hMV160
      have ajV160 : agr [(5, 6), (5, 9)] [67, 68, 69, 70, 71, 72, 73, 74, 75, 76, 77, 78, 79, 80, 81, 82, 83, 84, 85] V126 V160 := ajV160
      have agV160 : agr [(3, 15), (5, 6), (5, 7), (5, 9)] [30, 31, 32, 39, 67, 68, 69, 70, 71, 72, 73, 74, 75, 76, 77, 78, 79, 80, 81, 82, 83, 84, 85] V V160 := agV126.tr ajV160 (by decide) (by decide)
      have zlZ162 : ZL Z107 Z162 := zlZ162
      have zoZ162 : ZL Z Z162 := ZL.tr zoZ107 zlZ162
      have ziZ162 := zlZ162.1
      have zjZ162 := zlZ162.2.1
      have zkZ162 := zlZ162.2.2.1
      have zmZ162 := zoZ162.1
      have znZ162 := zoZ162.2.1
      have zpZ107_Z162 := zoZ107.1
      have zqZ107_Z162 := zoZ107.2.1
      have y158 : H.size ≤ Hk152.size + (zcc Z107 - zcc Z162) := by rw [hHk152]; exact y158
      have y159 : tot H ≤ tot Hk152 + (zss Z107 - zss Z162) := by rw [hHk152]; exact y159
      refine W.tight (k := zcc Z - zcc Z162) (n := zss Z - zss Z162) (by first | exact tg9 y158 k153 zlZ162.1 zoZ107.1 | omega) (by first | exact tg9 y159 k154 zlZ162.2.1 zoZ107.2.1 | omega) ?_
      have hl : lv_has ls 3 [(0, .ref (ad 5)), (1, .ref (Z162.fa gf))] := by rw [zlZ162.2.2.2.2 gf il125]; exact hl
      have t164 : MJ V160 Z162 b := t164
      refine lv_iconst (v := 0) hx hb dX5_takesAnswer_67 (by decide) ?_
      have r165 : 0 ≤ ((V160 5 6)).toInt ∧ ((V160 5 6)).toInt ≤ 400 := hMV160 5 6
      refine W.know (fun kr1 kr2 => ?_)
      refine W.widen (k := zcc Z) (n := zss Z) (Nat.sub_le _ _) (Nat.sub_le _ _) ?_
      exact W.zret (v := 0) hx hb hr rfl (fun t ht hW => ⟨⟨0, (V160, L, Z162), rfl, ⟨hMV160, agV160, rfl, zoZ162, (by decide), (Imp.mk (fun hp => absurd hp (by decide))), (Imp.mk (fun _ => t164)), (Imp.mk (fun hp => absurd hp (by decide))), (Imp.mk (fun hp => absurd hp (by decide)))⟩, ⟨by rw [ht]; exact hP, va_K.moved hW.alike hK, hD⟩, by rw [ht]; exact kr1, by rw [ht]; exact kr2⟩, hS.F ht⟩) hS.2.2 dX5_takesAnswer_68
  · skip
    have f166 : ((V 68 gf)).toInt = 1 := b_eq rfl (by decide) c13
    refine lv_aload_n hx hb dX5_takesAnswer_8 rfl (lv_at hl 0 rfl) ?_
    refine lv_aload_n hx hb dX5_takesAnswer_9 rfl (lv_at hl 0 rfl) ?_
    refine va_get (D := D) (ci := 5) (v := .int (V 5 10)) (fs := (xfMachine ad V L Z)) (C := RX5) (T := TX5) (N := 15) hx hb hg inX5 hown hK hP 5 xgMachine rfl 10 (by decide) (hg _ w677) (fun _ h9 => h9) rfl dX5_takesAnswer_10 ?_
    refine gA_void (gA_runV (As := [.int (V 5 10)]) (rest := []) (ci := 5) (q0 := 5) hx hb hml hown hg hP hD hK hS hA hnw hgk (x_mput l D ks H.size ad kk V L Z (V 5 10) hMV ) w1466 w1468 w72 w171 w1469 rfl xgMachine hdV_yX5_put ⟨Nat.le_of_ble_eq_true rfl, Nat.le_of_ble_eq_true rfl⟩ rfl hl.1 rfl (Nat.le_of_ble_eq_true rfl) dX5_takesAnswer_13 ⟨z0, z0⟩) hP hD hK hS hA (fun u168 H locs w169 hP hD hK hS => ?_)
    obtain ⟨V170, L171⟩ := u168
    obtain ⟨hMV170, ajV170, axL171⟩ := w169
    have axL171 : L = L171 := Eq.symm axL171
    subst axL171
    have hP : va_P D vwCl (xw ad kk V170 L Z) H := hP
    have hD : va_D A (xw ad kk V170 L Z) := hD
    have hMV170 : rgd bX V170 := hMV170
    have ajV170 : agr [(5, 7)] [39] V V170 := ajV170
    have agV170 : agr [(3, 15), (5, 6), (5, 7), (5, 9)] [30, 31, 32, 39, 67, 68, 69, 70, 71, 72, 73, 74, 75, 76, 77, 78, 79, 80, 81, 82, 83, 84, 85] V V170 := agV.tr ajV170 (by decide) (by decide)
    refine lv_iconst (v := 1) hx hb dX5_takesAnswer_16 (by decide) ?_
    have pq172 : (V170 5 6).toInt = ((V 5 6)).toInt := congrArg Int32.toInt (ajV170 5 6 rfl)
    have pq173 : (V170 67 gf).toInt = ((V 67 gf)).toInt := congrArg Int32.toInt (ajV170 67 gf rfl)
    have me174 : ME V V170 gf := (ME.tr ME.rf (ME.ag ajV170 (by decide)))
    have pq175 : (V170 68 gf).toInt = ((V 68 gf)).toInt := congrArg Int32.toInt (ajV170 68 gf rfl)
    have pq176 : (V170 70 gf).toInt = ((V 70 gf)).toInt := congrArg Int32.toInt (ajV170 70 gf rfl)
    have pq177 : (V170 71 gf).toInt = ((V 71 gf)).toInt := congrArg Int32.toInt (ajV170 71 gf rfl)
    have pq178 : (V170 75 gf).toInt = ((V 75 gf)).toInt := congrArg Int32.toInt (ajV170 75 gf rfl)
    have pq179 : (V170 76 gf).toInt = ((V 76 gf)).toInt := congrArg Int32.toInt (ajV170 76 gf rfl)
    have pq180 : (V170 80 gf).toInt = ((V 80 gf)).toInt := congrArg Int32.toInt (ajV170 80 gf rfl)
    have pq181 : (V170 84 gf).toInt = ((V 84 gf)).toInt := congrArg Int32.toInt (ajV170 84 gf rfl)
    have pq182 : (V170 5 8).toInt = ((V 5 8)).toInt := congrArg Int32.toInt (ajV170 5 8 rfl)
    have pq183 : (V170 5 9).toInt = ((V 5 9)).toInt := congrArg Int32.toInt (ajV170 5 9 rfl)
    have pq184 : (V170 3 13).toInt = ((V 3 13)).toInt := congrArg Int32.toInt (ajV170 3 13 rfl)
    have pq185 : (V170 43 (5 * b + 2)).toInt = ((V 43 (5 * b + 2))).toInt := congrArg Int32.toInt (ajV170 43 (5 * b + 2) rfl)
    have pq186 : (V170 42 b).toInt = ((V 42 b)).toInt := congrArg Int32.toInt (ajV170 42 b rfl)
    have pq187 : (V170 41 b).toInt = ((V 41 b)).toInt := congrArg Int32.toInt (ajV170 41 b rfl)
    have af189 : (V170 42 b).toInt ≤ (V170 84 gf).toInt ∨ (bdp V170 b (V170 84 gf).toInt.toNat).1 = true := by rw [(ajV170 84 gf rfl), me174.1.bd, me174.1 42 b (by decide) (by decide)]; exact ft
    have mo188 : MO V170 Z b gf True True True := MO.ch mo me174 (ajV170 67 gf rfl) (ajV170 80 gf rfl) (fun _ => Or.inl (by omega)) (fun x h => FK.k4 (by omega) (by omega) (by omega) af189 (by omega) (fun hph => absurd hph (by omega)))
    refine W.know (fun kr1 kr2 => ?_)
    refine W.widen (k := zcc Z) (n := zss Z) (Nat.sub_le _ _) (Nat.sub_le _ _) ?_
    exact W.zret (v := 1) hx hb hr rfl (fun t ht hW => ⟨⟨1, (V170, L, Z), rfl, ⟨hMV170, agV170, rfl, zoZ, (by decide), (Imp.mk (fun _ => mo188)), (Imp.mk (fun hp => absurd hp (by decide))), (Imp.mk (fun _ => (show (V170 5 6).toInt = (V 5 6).toInt ∧ (V170 67 gf).toInt = 4 from by (first | exact om_7c7da5faf5fa gk pq172 pq173 | omega)))), (Imp.mk (fun _ => rfl))⟩, ⟨by rw [ht]; exact hP, va_K.moved hW.alike hK, hD⟩, by rw [ht]; exact kr1, by rw [ht]; exact kr2⟩, hS.F ht⟩) hS.2.2 dX5_takesAnswer_17
abbrev r_x_getLate (Z : XZ) : Room := { frames := 4, cells := zcc Z, slots := zss Z, locals := 90 }
abbrev q_x_getLate (D : va_G) (ks : KS) (ad : Nat → Nat) (kk : Nat → ClassId) (V : Vf) (L : Lf) (Z : XZ) (b : Nat) (gf : Nat) (A : Nat → Prop) : Array Value → State → Outcome → State → Prop := qZv D (fun (u : Vf × Lf × XZ) => rgd bX u.1 ∧ agr [(5, 6), (5, 9), (5, 11), (5, 12)] [67, 68, 69, 70, 71, 72, 73, 74, 75, 76, 77, 78, 79, 80, 81, 82, 83, 84, 85] V u.1 ∧ u.2.1 = L ∧ ZL Z u.2.2 ∧ (MJ u.1 u.2.2 b)) (fun u => xw ad kk u.1 u.2.1 u.2.2) (fun u => xty kk u.2.2) (fun u => zcc Z - zcc u.2.2) (fun u => zss Z - zss u.2.2) A
set_option maxHeartbeats 4000000 in
set_option maxRecDepth 100000 in
theorem x_getLate (l : Launch) (D : va_G) (ks : KS) (sz : Nat) (ad : Nat → Nat) (kk : Nat → ClassId) (V : Vf) (L : Lf) (Z : XZ) (b : Nat) (gf : Nat) (hMV : rgd bX V) (hb2 : b < 2) (hgf : gf < Z.nf) (mo : MO V Z b gf True False True) (gd : (gf : Int) + 1 = (V 5 6).toInt) (gk : (V 67 gf).toInt = 4) (gph : (V 68 gf).toInt = 7)  : Met l yX5_getLate (Cond.code yX5_getLate cX5_getLate 3 none :: GW) (r_x_getLate Z) (va_Pc [.ref (ad 5), .ref (Z.fa gf)] (gp D ks (xw ad kk V L Z) (xty kk Z) sz)) (q_x_getLate D ks ad kk V L Z  b gf (va_A (xw ad kk V L Z) sz)) (zcc Z) (zss Z) (va_A (xw ad kk V L Z) sz) := by
  refine g_met (q_x_getLate D ks ad kk V L Z  b gf) (by decide) (Nat.le_of_ble_eq_true rfl) ?_
  intro p e s m below meth c A ls H locs hx hb hr hml hown hg hlocks hin hnw hgk hP hK hD hS hA hl
  have hown : s.vm.findClass RX5 = some m.cls := hown
  have hl : lv_has ls 3 [(0, .ref (ad 5)), (1, .ref (Z.fa gf))] := hl
  have hP : va_P D vwCl (xw ad kk V L Z) H := hP
  have hD : va_D A (xw ad kk V L Z) := hD
  have hK : va_K D vwCl (xty kk Z) s := hK
  have agV : agr [(5, 6), (5, 9), (5, 11), (5, 12)] [67, 68, 69, 70, 71, 72, 73, 74, 75, 76, 77, 78, 79, 80, 81, 82, 83, 84, 85] V V := agr.rf
  have zoZ : ZL Z Z := ZL.rf
  refine W.know (fun ka kb => ?_)
  refine W.tight (k := zcc Z - zcc Z) (n := zss Z - zss Z) (by omega) (by omega) ?_
  have r1 : 0 ≤ ((V 5 6)).toInt ∧ ((V 5 6)).toInt ≤ 400 := hMV 5 6
  have kdp := i_clamp (x := V 5 6) rfl (by (first | exact om_c66f1b494bd9 gd | omega))
  have hdn : (gf : Int) + 1 ≤ (Z.nf : Int) := by (first | exact om_29efded833ec hgf | omega)
  have mup := MO.up mo
  have msz := mup.1
  have mbk := mup.2.2.2.1
  obtain ⟨xk, fk⟩ := MO.fk mo
  have r2 : (-1) ≤ ((V 71 gf)).toInt ∧ ((V 71 gf)).toInt ≤ 23 := hMV 71 gf
  have r3 : 0 ≤ ((V 75 gf)).toInt ∧ ((V 75 gf)).toInt ≤ 12 := hMV 75 gf
  have r4 : 0 ≤ ((V 80 gf)).toInt ∧ ((V 80 gf)).toInt ≤ 300 := hMV 80 gf
  have r5 : 0 ≤ ((V 84 gf)).toInt ∧ ((V 84 gf)).toInt ≤ 2147483647 := hMV 84 gf
  have r6 : 0 ≤ ((V 5 8)).toInt ∧ ((V 5 8)).toInt ≤ 300 := hMV 5 8
  have r7 : 0 ≤ ((V 5 9)).toInt ∧ ((V 5 9)).toInt ≤ 3 := hMV 5 9
  have r8 : 0 ≤ ((V 3 13)).toInt ∧ ((V 3 13)).toInt ≤ 300 := hMV 3 13
  have r9 : 0 ≤ ((V 43 (5 * b + 2))).toInt ∧ ((V 43 (5 * b + 2))).toInt ≤ ((xcap (5 * b + 2) : Nat) : Int) := hMV 43 (5 * b + 2)
  have r10 : xcap (5 * b + 2) = 24 := xcap_2
  have r11 : 0 ≤ ((V 41 b)).toInt ∧ ((V 41 b)).toInt ≤ 12 := hMV 41 b
  have r12 : 0 ≤ ((V 42 b)).toInt ∧ ((V 42 b)).toInt ≤ 8200 := hMV 42 b
  have fc := fk.1 (by omega)
  have fo := fk.2.1 (by omega) (by omega)
  have ft := fk.2.2.1 (by omega)
  have fq := fk.2.2.2.1 (by omega)
  have fq7 := fq (by omega)
  refine lv_aload_n hx hb dX5_getLate_0 rfl (lv_at hl 1 rfl) ?_
  refine va_getN (D := D) (ci := 4) (v := .int (V 69 gf)) (fs := (xfFrame V gf)) (C := RX4) (T := TX4) (N := 19) hx hb hg inX4 hown hK hP (336 + gf) (xgFrame hgf) rfl 2 (by decide) (hnw.use 1191 n1191 rfl) (fun _ h9 => h9) rfl dX5_getLate_1 ?_
  refine lv_bipush (v := 10) hx hb dX5_getLate_4 (by decide) ?_
  refine lv_icmp_lt (tgt := 17) hx hb dX5_getLate_6 (by decide) (fun c13 => ?_) (fun c13 => ?_)
  · skip
    have f14 : ((V 69 gf)).toInt < 10 := b_lt rfl (by decide) c13
    refine lv_aload_n hx hb dX5_getLate_17 rfl (lv_at hl 0 rfl) ?_
    refine va_get (D := D) (ci := 5) (v := .ref (ad (38 + Int32.toNatClampNeg (V 5 5)))) (fs := (xfMachine ad V L Z)) (C := RX5) (T := TX5) (N := 15) hx hb hg inX5 hown hK hP 5 xgMachine rfl 5 (by decide) (hg _ w672) (fun _ h9 => h9) rfl dX5_getLate_18 ?_
    have r15 : 0 ≤ ((V 5 5)).toInt ∧ ((V 5 5)).toInt ≤ 1 := hMV 5 5
    refine g_topv (v := .ref (ad (38 + b))) (rfP (by omega)) ?_
    refine lv_aload_n hx hb dX5_getLate_21 rfl (lv_at hl 1 rfl) ?_
    refine va_getN (D := D) (ci := 4) (v := .int (V 71 gf)) (fs := (xfFrame V gf)) (C := RX4) (T := TX4) (N := 19) hx hb hg inX4 hown hK hP (336 + gf) (xgFrame hgf) rfl 4 (by decide) (hnw.use 1193 n1193 rfl) (fun _ h9 => h9) rfl dX5_getLate_22 ?_
    refine lv_aload_n hx hb dX5_getLate_25 rfl (lv_at hl 1 rfl) ?_
    refine va_getN (D := D) (ci := 4) (v := .int (V 75 gf)) (fs := (xfFrame V gf)) (C := RX4) (T := TX4) (N := 19) hx hb hg inX4 hown hK hP (336 + gf) (xgFrame hgf) rfl 8 (by decide) (hnw.use 1197 n1197 rfl) (fun _ h9 => h9) rfl dX5_getLate_26 ?_
    refine gA_int (gA_runV (As := [.int (V 71 gf), .int (V 75 gf)]) (rest := []) (ci := 0) (q0 := (38 + b)) hx hb hml hown hg hP hD hK hS hA hnw hgk (x_firstCandidate2 l D ks H.size ad kk V L Z (V 71 gf) (V 75 gf) (b) hMV (by omega) (by omega) (show b < 2 from by (first | exact om_f940a4667dd6 hb2 | omega))) w1447 w1448 w1449 w167 w1450 rfl (xgBook hb2) hdV_yX0_firstCandidate ⟨Nat.le_of_ble_eq_true rfl, Nat.le_of_ble_eq_true rfl⟩ rfl hl.1 rfl (Nat.le_of_ble_eq_true rfl) dX5_getLate_29 ⟨z0, z0⟩) hP hD hK hS hA (fun z16 u17 H locs w18 hP hD hK hS => ?_)
    have rgz16 := w18
    have rgz16 : (-1) ≤ z16.toInt ∧ z16.toInt ≤ 23 := rgz16
    refine lv_istore_n (lv' := [(2, .int z16), (0, .ref (ad 5)), (1, .ref (Z.fa gf))]) hx hb dX5_getLate_32 rfl hl (by decide) rfl (fun ls hl => ?_)
    refine lv_aload_n hx hb dX5_getLate_33 rfl (lv_at hl 1 rfl) ?_
    refine lv_iload_n hx hb dX5_getLate_34 rfl (lv_at hl 0 rfl) ?_
    refine lv_aload_n hx hb dX5_getLate_35 rfl (lv_at hl 2 rfl) ?_
    refine va_getN (D := D) (ci := 4) (v := .int (V 72 gf)) (fs := (xfFrame V gf)) (C := RX4) (T := TX4) (N := 19) hx hb hg inX4 hown hK hP (336 + gf) (xgFrame hgf) rfl 5 (by decide) (hnw.use 1194 n1194 rfl) (fun _ h9 => h9) rfl dX5_getLate_36 ?_
    have r19 : 0 ≤ ((V 72 gf)).toInt ∧ ((V 72 gf)).toInt ≤ 39 := hMV 72 gf
    refine lv_aload_n hx hb dX5_getLate_39 rfl (lv_at hl 2 rfl) ?_
    refine va_getN (D := D) (ci := 4) (v := .int (V 69 gf)) (fs := (xfFrame V gf)) (C := RX4) (T := TX4) (N := 19) hx hb hg inX4 hown hK hP (336 + gf) (xgFrame hgf) rfl 2 (by decide) (hnw.use 1191 n1191 rfl) (fun _ h9 => h9) rfl dX5_getLate_40 ?_
    refine lv_iconst (v := 1) hx hb dX5_getLate_43 (by decide) ?_
    refine lv_iadd hx hb dX5_getLate_44 ?_
    have r20 := i_full (V 69 gf)
    refine lv_topi (fun z21 ez21 => ?_)
    have hz21 : z21.toInt = ((V 69 gf)).toInt + 1 := i_add ez21 rfl (by decide) (by (first | exact om_8b75a7fb4f8e f14 r20.1 | omega))
    have mt22 : MTr V Z b := MO.mtr mo (by (first | exact om_c09d41618ed8 hgf | omega)) (by (first | exact om_6815fc1b8223 gd | omega))
    refine W.know (fun k24 k25 => ?_)
    obtain ⟨Hk23, hHk23⟩ : ∃ z, z = H := ⟨_, rfl⟩
    have k24 : Hk23.size ≤ s.heap.size + (zcc Z - zcc Z) := by rw [hHk23]; exact k24
    have k25 : tot Hk23 ≤ tot s.heap + (zss Z - zss Z) := by rw [hHk23]; exact k25
    refine gZ_void (gA_runV (As := [.int z16, .int (V 72 gf), .int z21]) (rest := []) (ci := 5) (q0 := 5) hx hb hml hown hg hP hD hK hS hA hnw hgk (x_pushRoot l D ks H.size ad kk V L Z z16 (V 72 gf) z21 (b) hMV (by (first | exact om_b5ea211f5a81 rgz16.1 rgz16.2 | omega)) (by (first | exact om_13ba01c174fe r19.1 r19.2 | omega)) (show b < 2 from by (first | exact om_f940a4667dd6 hb2 | omega)) mt22) w1453 w1177 w1178 w171 w1179 rfl xgMachine hdV_yX5_pushRoot ⟨Nat.le_of_ble_eq_true rfl, Nat.le_of_ble_eq_true rfl⟩ rfl hl.1 rfl (Nat.le_of_ble_eq_true rfl) dX5_getLate_45 ⟨z1 zoZ.1, z1 zoZ.2.1⟩) hD hS hA (fun u27 H locs w28 hP hD hK hS y29 y30 => ?_)
    obtain ⟨V31, L32, Z33⟩ := u27
    obtain ⟨hMV31, ajV31, axL32, zlZ33, t35⟩ := w28
    have axL32 : L = L32 := Eq.symm axL32
    subst axL32
    have hP : va_P D vwCl (xw ad kk V31 L Z33) H := hP
    have hD : va_D A (xw ad kk V31 L Z33) := hD
    have hK : va_K D vwCl (xty kk Z33) s := hK
    have hMV31 : rgd bX V31 := hMV31
    have ajV31 : agr [(5, 6), (5, 9)] [67, 68, 69, 70, 71, 72, 73, 74, 75, 76, 77, 78, 79, 80, 81, 82, 83, 84, 85] V V31 := ajV31
    have agV31 : agr [(5, 6), (5, 9), (5, 11), (5, 12)] [67, 68, 69, 70, 71, 72, 73, 74, 75, 76, 77, 78, 79, 80, 81, 82, 83, 84, 85] V V31 := agV.tr ajV31 (by decide) (by decide)
    have zlZ33 : ZL Z Z33 := zlZ33
    have zoZ33 : ZL Z Z33 := ZL.tr zoZ zlZ33
    have ziZ33 := zlZ33.1
    have zjZ33 := zlZ33.2.1
    have zkZ33 := zlZ33.2.2.1
    have zmZ33 := zoZ33.1
    have znZ33 := zoZ33.2.1
    have zpZ_Z33 := zoZ.1
    have zqZ_Z33 := zoZ.2.1
    have y29 : H.size ≤ Hk23.size + (zcc Z - zcc Z33) := by rw [hHk23]; exact y29
    have y30 : tot H ≤ tot Hk23 + (zss Z - zss Z33) := by rw [hHk23]; exact y30
    refine W.tight (k := zcc Z - zcc Z33) (n := zss Z - zss Z33) (by first | exact tg9 y29 k24 zlZ33.1 zoZ.1 | omega) (by first | exact tg9 y30 k25 zlZ33.2.1 zoZ.2.1 | omega) ?_
    have hl : lv_has ls 3 [(2, .int z16), (0, .ref (ad 5)), (1, .ref (Z33.fa gf))] := by rw [zlZ33.2.2.2.2 gf hgf]; exact hl
    have t35 : MJ V31 Z33 b := t35
    refine W.know (fun kr1 kr2 => ?_)
    refine W.widen (k := zcc Z) (n := zss Z) (Nat.sub_le _ _) (Nat.sub_le _ _) ?_
    exact W.vret hx hb hr (fun t ht hW => ⟨⟨(V31, L, Z33), rfl, ⟨hMV31, agV31, rfl, zoZ33, t35⟩, ⟨by rw [ht]; exact hP, va_K.moved hW.alike hK, hD⟩, by rw [ht]; exact kr1, by rw [ht]; exact kr2⟩, hS.F ht⟩) hS.2.2 dX5_getLate_48
  · skip
    have f36 : 10 ≤ ((V 69 gf)).toInt := b_nlt rfl (by decide) c13
    refine lv_aload_n hx hb dX5_getLate_9 rfl (lv_at hl 0 rfl) ?_
    refine lv_iconst (v := 0) hx hb dX5_getLate_10 (by decide) ?_
    refine lv_bipush (v := 13) hx hb dX5_getLate_11 (by decide) ?_
    have r37 : Int32.toInt 0 = 0 := by decide
    have r38 : Int32.toInt 13 = 13 := by decide
    refine gA_void (gA_runV (As := [.int 0, .int 13]) (rest := []) (ci := 5) (q0 := 5) hx hb hml hown hg hP hD hK hS hA hnw hgk (x_failWith l D ks H.size ad kk V L Z 0 13 hMV ) w1261 w1263 w46 w171 w1264 rfl xgMachine hdV_yX5_failWith ⟨Nat.le_of_ble_eq_true rfl, Nat.le_of_ble_eq_true rfl⟩ rfl hl.1 rfl (Nat.le_of_ble_eq_true rfl) dX5_getLate_13 ⟨z0, z0⟩) hP hD hK hS hA (fun u40 H locs w41 hP hD hK hS => ?_)
    obtain ⟨V43, L44⟩ := u40
    obtain ⟨hMV43, ajV43, axL44, t42⟩ := w41
    have axL44 : L = L44 := Eq.symm axL44
    subst axL44
    have hP : va_P D vwCl (xw ad kk V43 L Z) H := hP
    have hD : va_D A (xw ad kk V43 L Z) := hD
    have hMV43 : rgd bX V43 := hMV43
    have ajV43 : agr [(5, 9), (5, 11), (5, 12)] [] V V43 := ajV43
    have agV43 : agr [(5, 6), (5, 9), (5, 11), (5, 12)] [67, 68, 69, 70, 71, 72, 73, 74, 75, 76, 77, 78, 79, 80, 81, 82, 83, 84, 85] V V43 := agV.tr ajV43 (by decide) (by decide)
    have t42 : (V43 5 9).toInt = 2 := t42
    have r45 : 0 ≤ ((V43 5 9)).toInt ∧ ((V43 5 9)).toInt ≤ 3 := hMV43 5 9
    have me46 : ME V V43 gf := (ME.tr ME.rf (ME.ag ajV43 (by decide)))
    have pq47 : (V43 67 gf).toInt = ((V 67 gf)).toInt := congrArg Int32.toInt (ajV43 67 gf rfl)
    have pq48 : (V43 68 gf).toInt = ((V 68 gf)).toInt := congrArg Int32.toInt (ajV43 68 gf rfl)
    have pq49 : (V43 70 gf).toInt = ((V 70 gf)).toInt := congrArg Int32.toInt (ajV43 70 gf rfl)
    have pq50 : (V43 71 gf).toInt = ((V 71 gf)).toInt := congrArg Int32.toInt (ajV43 71 gf rfl)
    have pq51 : (V43 75 gf).toInt = ((V 75 gf)).toInt := congrArg Int32.toInt (ajV43 75 gf rfl)
    have pq52 : (V43 76 gf).toInt = ((V 76 gf)).toInt := congrArg Int32.toInt (ajV43 76 gf rfl)
    have pq53 : (V43 80 gf).toInt = ((V 80 gf)).toInt := congrArg Int32.toInt (ajV43 80 gf rfl)
    have pq54 : (V43 84 gf).toInt = ((V 84 gf)).toInt := congrArg Int32.toInt (ajV43 84 gf rfl)
    have pq55 : (V43 5 6).toInt = ((V 5 6)).toInt := congrArg Int32.toInt (ajV43 5 6 rfl)
    have pq56 : (V43 5 8).toInt = ((V 5 8)).toInt := congrArg Int32.toInt (ajV43 5 8 rfl)
    have pq57 : (V43 3 13).toInt = ((V 3 13)).toInt := congrArg Int32.toInt (ajV43 3 13 rfl)
    have pq58 : (V43 43 (5 * b + 2)).toInt = ((V 43 (5 * b + 2))).toInt := congrArg Int32.toInt (ajV43 43 (5 * b + 2) rfl)
    have pq59 : (V43 42 b).toInt = ((V 42 b)).toInt := congrArg Int32.toInt (ajV43 42 b rfl)
    have pq60 : (V43 41 b).toInt = ((V 41 b)).toInt := congrArg Int32.toInt (ajV43 41 b rfl)
    have af62 : (V43 42 b).toInt ≤ (V43 84 gf).toInt ∨ (bdp V43 b (V43 84 gf).toInt.toNat).1 = true := by rw [(ajV43 84 gf rfl), me46.1.bd, me46.1 42 b (by decide) (by decide)]; exact ft
    have mo61 : MO V43 Z b gf True (QN V43 b) (QN V43 b) := MO.ch mo me46 (ajV43 67 gf rfl) (ajV43 80 gf rfl) (fun _ => Or.inl (by omega)) (fun x h => FK.k4 (by omega) (by omega) (by omega) af62 (by omega) (fun _ z => absurd z.1 (by omega)))
    have rp63 : MJ V43 Z b := MO.mj mo61 (by (first | exact om_c09d41618ed8 hgf | omega)) (by (first | exact om_82fa09255765 gd pq55 | omega)) id id Or.inr
    refine W.know (fun kr1 kr2 => ?_)
    refine W.widen (k := zcc Z) (n := zss Z) (Nat.sub_le _ _) (Nat.sub_le _ _) ?_
    exact W.vret hx hb hr (fun t ht hW => ⟨⟨(V43, L, Z), rfl, ⟨hMV43, agV43, rfl, zoZ, rp63⟩, ⟨by rw [ht]; exact hP, va_K.moved hW.alike hK, hD⟩, by rw [ht]; exact kr1, by rw [ht]; exact kr2⟩, hS.F ht⟩) hS.2.2 dX5_getLate_16
abbrev r_x_callNeed (Z : XZ) : Room := { frames := 5, cells := zcc Z, slots := zss Z, locals := 112 }
abbrev q_x_callNeed (D : va_G) (ks : KS) (ad : Nat → Nat) (kk : Nat → ClassId) (V : Vf) (L : Lf) (Z : XZ) (b : Nat) (gf : Nat) (A : Nat → Prop) : Array Value → State → Outcome → State → Prop := qZv D (fun (u : Vf × Lf × XZ) => rgd bX u.1 ∧ agr [(5, 6), (5, 9), (5, 10), (5, 11), (5, 12)] [67, 68, 69, 70, 71, 72, 73, 74, 75, 76, 77, 78, 79, 80, 81, 82, 83, 84, 85] V u.1 ∧ u.2.1 = L ∧ ZL Z u.2.2 ∧ (MJ u.1 u.2.2 b)) (fun u => xw ad kk u.1 u.2.1 u.2.2) (fun u => xty kk u.2.2) (fun u => zcc Z - zcc u.2.2) (fun u => zss Z - zss u.2.2) A
set_option maxHeartbeats 4000000 in
set_option maxRecDepth 100000 in
theorem x_callNeed (l : Launch) (D : va_G) (ks : KS) (sz : Nat) (ad : Nat → Nat) (kk : Nat → ClassId) (V : Vf) (L : Lf) (Z : XZ) (b : Nat) (gf : Nat) (hMV : rgd bX V) (hb2 : b < 2) (hgf : gf < Z.nf) (mo : MO V Z b gf True (QN V b) (QN V b)) (gd : (gf : Int) + 1 = (V 5 6).toInt) (gk : (V 67 gf).toInt = 4) (gph : (V 68 gf).toInt = 6)  : Met l yX5_callNeed (Cond.code yX5_callNeed cX5_callNeed 4 none :: GW) (r_x_callNeed Z) (va_Pc [.ref (ad 5), .ref (Z.fa gf)] (gp D ks (xw ad kk V L Z) (xty kk Z) sz)) (q_x_callNeed D ks ad kk V L Z  b gf (va_A (xw ad kk V L Z) sz)) (zcc Z) (zss Z) (va_A (xw ad kk V L Z) sz) := by
  refine g_met (q_x_callNeed D ks ad kk V L Z  b gf) (by decide) (Nat.le_of_ble_eq_true rfl) ?_
  intro p e s m below meth c A ls H locs hx hb hr hml hown hg hlocks hin hnw hgk hP hK hD hS hA hl
  have hown : s.vm.findClass RX5 = some m.cls := hown
  have hl : lv_has ls 4 [(0, .ref (ad 5)), (1, .ref (Z.fa gf))] := hl
  have hP : va_P D vwCl (xw ad kk V L Z) H := hP
  have hD : va_D A (xw ad kk V L Z) := hD
  have hK : va_K D vwCl (xty kk Z) s := hK
  have agV : agr [(5, 6), (5, 9), (5, 10), (5, 11), (5, 12)] [67, 68, 69, 70, 71, 72, 73, 74, 75, 76, 77, 78, 79, 80, 81, 82, 83, 84, 85] V V := agr.rf
  have zoZ : ZL Z Z := ZL.rf
  refine W.know (fun ka kb => ?_)
  refine W.tight (k := zcc Z - zcc Z) (n := zss Z - zss Z) (by omega) (by omega) ?_
  have r1 : 0 ≤ ((V 5 6)).toInt ∧ ((V 5 6)).toInt ≤ 400 := hMV 5 6
  have kdp := i_clamp (x := V 5 6) rfl (by (first | exact om_c66f1b494bd9 gd | omega))
  have hdn : (gf : Int) + 1 ≤ (Z.nf : Int) := by (first | exact om_29efded833ec hgf | omega)
  have mup := MO.up mo
  have msz := mup.1
  have mbk := mup.2.2.2.1
  obtain ⟨xk, fk⟩ := MO.fk mo
  have r2 : (-1) ≤ ((V 71 gf)).toInt ∧ ((V 71 gf)).toInt ≤ 23 := hMV 71 gf
  have r3 : 0 ≤ ((V 75 gf)).toInt ∧ ((V 75 gf)).toInt ≤ 12 := hMV 75 gf
  have r4 : 0 ≤ ((V 80 gf)).toInt ∧ ((V 80 gf)).toInt ≤ 300 := hMV 80 gf
  have r5 : 0 ≤ ((V 84 gf)).toInt ∧ ((V 84 gf)).toInt ≤ 2147483647 := hMV 84 gf
  have r6 : 0 ≤ ((V 5 8)).toInt ∧ ((V 5 8)).toInt ≤ 300 := hMV 5 8
  have r7 : 0 ≤ ((V 5 9)).toInt ∧ ((V 5 9)).toInt ≤ 3 := hMV 5 9
  have r8 : 0 ≤ ((V 3 13)).toInt ∧ ((V 3 13)).toInt ≤ 300 := hMV 3 13
  have r9 : 0 ≤ ((V 43 (5 * b + 2))).toInt ∧ ((V 43 (5 * b + 2))).toInt ≤ ((xcap (5 * b + 2) : Nat) : Int) := hMV 43 (5 * b + 2)
  have r10 : xcap (5 * b + 2) = 24 := xcap_2
  have r11 : 0 ≤ ((V 41 b)).toInt ∧ ((V 41 b)).toInt ≤ 12 := hMV 41 b
  have r12 : 0 ≤ ((V 42 b)).toInt ∧ ((V 42 b)).toInt ≤ 8200 := hMV 42 b
  have fc := fk.1 (by omega)
  have fo := fk.2.1 (by omega) (by omega)
  have ft := fk.2.2.1 (by omega)
  have fq := fk.2.2.2.1 (by omega)
  have fq7 := fq (by omega)
  refine lv_aload_n hx hb dX5_callNeed_0 rfl (lv_at hl 0 rfl) ?_
  refine va_get (D := D) (ci := 5) (v := .ref (ad (38 + Int32.toNatClampNeg (V 5 5)))) (fs := (xfMachine ad V L Z)) (C := RX5) (T := TX5) (N := 15) hx hb hg inX5 hown hK hP 5 xgMachine rfl 5 (by decide) (hg _ w672) (fun _ h9 => h9) rfl dX5_callNeed_1 ?_
  have r13 : 0 ≤ ((V 5 5)).toInt ∧ ((V 5 5)).toInt ≤ 1 := hMV 5 5
  refine g_topv (v := .ref (ad (38 + b))) (rfP (by omega)) ?_
  refine va_getN (D := D) (ci := 0) (v := .ref (ad (64 + b))) (fs := (xfBook ad V b)) (C := RX0) (T := TX0) (N := 13) hx hb hg inX0 hown hK hP (38 + b) (xgBook hb2) rfl 7 (by decide) (hnw.use 618 n618 rfl) (fun _ h9 => h9) rfl dX5_callNeed_4 ?_
  refine lv_aload_n hx hb dX5_callNeed_7 rfl (lv_at hl 1 rfl) ?_
  refine va_getN (D := D) (ci := 4) (v := .int (V 71 gf)) (fs := (xfFrame V gf)) (C := RX4) (T := TX4) (N := 19) hx hb hg inX4 hown hK hP (336 + gf) (xgFrame hgf) rfl 4 (by decide) (hnw.use 1193 n1193 rfl) (fun _ h9 => h9) rfl dX5_callNeed_8 ?_
  have il14 : b < 2 := by (first | exact om_f940a4667dd6 hb2 | omega)
  refine va_aldq (D := D) (i := (V 71 gf)) hx hb hK hP (64 + b) (57 + b) (xgcomps il14) (xtcomps il14) (i_in (a := ((V 71 gf)).toInt) rfl (by omega)) dX5_callNeed_11 ?_
  have kc15 := i_clamp (x := (V 71 gf)) rfl (by omega)
  refine g_topv (v := .ref (ad (72 + (24 * b + (Int32.toNatClampNeg (V 71 gf)))))) (congrArg va_rf (if_pos (by omega))) ?_
  have il16 : (24 * b + (Int32.toNatClampNeg (V 71 gf))) < 48 := by (first | exact om_31a61188bc78 hb2 r2.2 kc15 | omega)
  refine va_getN (D := D) (ci := 3) (v := .ref (ad (216 + (24 * b + (Int32.toNatClampNeg (V 71 gf)))))) (fs := (xfComp ad V (24 * b + (Int32.toNatClampNeg (V 71 gf))))) (C := RX3) (T := TX3) (N := 13) hx hb hg inX3 hown hK hP (72 + (24 * b + (Int32.toNatClampNeg (V 71 gf)))) (xgComp il16) rfl 2 (by decide) (hnw.use 506 n506 rfl) (fun _ h9 => h9) rfl dX5_callNeed_12 ?_
  refine lv_aload_n hx hb dX5_callNeed_15 rfl (lv_at hl 1 rfl) ?_
  refine va_getN (D := D) (ci := 4) (v := .int (V 75 gf)) (fs := (xfFrame V gf)) (C := RX4) (T := TX4) (N := 19) hx hb hg inX4 hown hK hP (336 + gf) (xgFrame hgf) rfl 8 (by decide) (hnw.use 1197 n1197 rfl) (fun _ h9 => h9) rfl dX5_callNeed_16 ?_
  have il17 : (24 * b + (Int32.toNatClampNeg (V 71 gf))) < 48 := by (first | exact om_31a61188bc78 hb2 r2.2 kc15 | omega)
  refine va_iald (D := D) (i := (V 75 gf)) hx hb hK hP (216 + (24 * b + (Int32.toNatClampNeg (V 71 gf)))) (209 + (24 * b + (Int32.toNatClampNeg (V 71 gf)))) (xgneedKinds il17) (xtneedKinds il17) (i_in (a := ((V 75 gf)).toInt) rfl (by omega)) dX5_callNeed_19 ?_
  have kc18 := i_clamp (x := (V 75 gf)) rfl (by (first | exact om_eafa9039069c r3.1 | omega))
  refine g_top (v := V 60 (8 * (24 * b + (Int32.toNatClampNeg (V 71 gf))) + (Int32.toNatClampNeg (V 75 gf)))) (if_pos (by omega)) ?_
  refine lv_istore_n (lv' := [(2, .int (V 60 (8 * (24 * b + (Int32.toNatClampNeg (V 71 gf))) + (Int32.toNatClampNeg (V 75 gf))))), (0, .ref (ad 5)), (1, .ref (Z.fa gf))]) hx hb dX5_callNeed_20 rfl hl (by decide) rfl (fun ls hl => ?_)
  refine lv_aload_n hx hb dX5_callNeed_21 rfl (lv_at hl 1 rfl) ?_
  refine va_get (D := D) (ci := 5) (v := .ref (ad 3)) (fs := (xfMachine ad V L Z)) (C := RX5) (T := TX5) (N := 15) hx hb hg inX5 hown hK hP 5 xgMachine rfl 0 (by decide) (hg _ w667) (fun _ h9 => h9) rfl dX5_callNeed_22 ?_
  refine lv_aload_n hx hb dX5_callNeed_25 rfl (lv_at hl 2 rfl) ?_
  refine va_getN (D := D) (ci := 4) (v := .int (V 70 gf)) (fs := (xfFrame V gf)) (C := RX4) (T := TX4) (N := 19) hx hb hg inX4 hown hK hP (336 + gf) (xgFrame hgf) rfl 3 (by decide) (hnw.use 1192 n1192 rfl) (fun _ h9 => h9) rfl dX5_callNeed_26 ?_
  refine lv_aload_n hx hb dX5_callNeed_29 rfl (lv_at hl 2 rfl) ?_
  refine va_getN (D := D) (ci := 4) (v := .int (V 75 gf)) (fs := (xfFrame V gf)) (C := RX4) (T := TX4) (N := 19) hx hb hg inX4 hown hK hP (336 + gf) (xgFrame hgf) rfl 8 (by decide) (hnw.use 1197 n1197 rfl) (fun _ h9 => h9) rfl dX5_callNeed_30 ?_
  refine lv_iconst (v := 0) hx hb dX5_callNeed_33 (by decide) ?_
  have r19 : Int32.toInt 0 = 0 := by decide
  refine gA_int (gA_runV (As := [.int (V 70 gf), .int (V 75 gf), .int 0]) (rest := []) (ci := 8) (q0 := 3) hx hb hml hown hg hP hD hK hS hA hnw hgk (x_joinedTo l D ks H.size ad kk V L Z (V 70 gf) (V 75 gf) 0 hMV mup.2.2.2.2.1) w1439 w1440 w1441 w164 w1442 rfl xgStock hdV_yX8_joinedTo ⟨Nat.le_of_ble_eq_true rfl, Nat.le_of_ble_eq_true rfl⟩ rfl hl.1 rfl (Nat.le_of_ble_eq_true rfl) dX5_callNeed_34 ⟨z0, z0⟩) hP hD hK hS hA (fun z20 u21 H locs w22 hP hD hK hS => ?_)
  refine lv_istore_n (lv' := [(3, .int z20), (2, .int (V 60 (8 * (24 * b + (Int32.toNatClampNeg (V 71 gf))) + (Int32.toNatClampNeg (V 75 gf))))), (0, .ref (ad 5)), (1, .ref (Z.fa gf))]) hx hb dX5_callNeed_37 rfl hl (by decide) rfl (fun ls hl => ?_)
  refine lv_iload_n hx hb dX5_callNeed_38 rfl (lv_at hl 1 rfl) ?_
  refine lv_iconst (v := 2) hx hb dX5_callNeed_39 (by decide) ?_
  refine lv_icmp_ne (tgt := 67) hx hb dX5_callNeed_40 (by decide) (fun c23 => ?_) (fun c23 => ?_)
  · skip
    have f24 : ((V 60 (8 * (24 * b + (Int32.toNatClampNeg (V 71 gf))) + (Int32.toNatClampNeg (V 75 gf))))).toInt ≠ 2 := b_neq rfl (by decide) c23
    refine lv_iload_n hx hb dX5_callNeed_67 rfl (lv_at hl 1 rfl) ?_
    refine lv_iconst (v := 1) hx hb dX5_callNeed_68 (by decide) ?_
    refine lv_icmp_ne (tgt := 91) hx hb dX5_callNeed_69 (by decide) (fun c25 => ?_) (fun c25 => ?_)
    · skip
      have f26 : ((V 60 (8 * (24 * b + (Int32.toNatClampNeg (V 71 gf))) + (Int32.toNatClampNeg (V 75 gf))))).toInt ≠ 1 := b_neq rfl (by decide) c25
      refine lv_aload_n hx hb dX5_callNeed_91 rfl (lv_at hl 3 rfl) ?_
      refine lv_iconst (v := 1) hx hb dX5_callNeed_92 (by decide) ?_
      refine va_putN (D := D) (ci := 4) (v := .int 1) (ty := tyX4 1) (fs := (xfFrame V gf)) (C := RX4) (T := TX4) (N := 19) hx hb hg inX4 tyX4 tyX4_ok nmX4 hown hK hP hD hS (336 + gf) (xgFrame hgf) rfl 1 (by decide) (hnw.use 1190 n1190 rfl) (fun _ h9 => h9) rfl (tyX4_ok 1 (by decide)) rfl rfl (Nat.le_of_ble_eq_true rfl) dX5_callNeed_93 (fun H locs hP hD hS => ?_)
      obtain ⟨V27, hV27⟩ : ∃ z, z = up2 V 68 gf 1 := ⟨_, rfl⟩
      have ew28 : (xw ad kk V L Z).set (336 + gf) ((Z.fa gf), .inr (4, (xfFrame V gf).set 1 (.int 1))) = xw ad kk V27 L Z := by rw [hV27]; exact xpFrame_phase hgf
      have hP : va_P D vwCl (xw ad kk V27 L Z) H := by rw [← ew28]; exact hP
      have hD : va_D A (xw ad kk V27 L Z) := by rw [← ew28]; exact hD
      have hMV27 : rgd bX V27 := hMV.put hV27 (i_full _)
      have agV27 : agr [(5, 6), (5, 9), (5, 10), (5, 11), (5, 12)] [67, 68, 69, 70, 71, 72, 73, 74, 75, 76, 77, 78, 79, 80, 81, 82, 83, 84, 85] V V27 := agV.up hV27 rfl
      refine lv_aload_n hx hb dX5_callNeed_96 rfl (lv_at hl 2 rfl) ?_
      refine lv_iload_n hx hb dX5_callNeed_97 rfl (lv_at hl 0 rfl) ?_
      refine lv_aload_n hx hb dX5_callNeed_98 rfl (lv_at hl 3 rfl) ?_
      refine va_getN (D := D) (ci := 4) (v := .int (V27 72 gf)) (fs := (xfFrame V27 gf)) (C := RX4) (T := TX4) (N := 19) hx hb hg inX4 hown hK hP (336 + gf) (xgFrame hgf) rfl 5 (by decide) (hnw.use 1194 n1194 rfl) (fun _ h9 => h9) rfl dX5_callNeed_99 ?_
      refine g_top (v := (V 72 gf)) (up2_o hV27 (by decide)) ?_
      have r29 : 0 ≤ ((V 72 gf)).toInt ∧ ((V 72 gf)).toInt ≤ 39 := hMV 72 gf
      refine lv_aload_n hx hb dX5_callNeed_102 rfl (lv_at hl 3 rfl) ?_
      refine va_getN (D := D) (ci := 4) (v := .int (V27 77 gf)) (fs := (xfFrame V27 gf)) (C := RX4) (T := TX4) (N := 19) hx hb hg inX4 hown hK hP (336 + gf) (xgFrame hgf) rfl 10 (by decide) (hnw.use 1199 n1199 rfl) (fun _ h9 => h9) rfl dX5_callNeed_103 ?_
      refine g_top (v := (V 77 gf)) (up2_o hV27 (by decide)) ?_
      have r30 : 0 ≤ ((V 77 gf)).toInt ∧ ((V 77 gf)).toInt ≤ 19 := hMV 77 gf
      refine lv_aload_n hx hb dX5_callNeed_106 rfl (lv_at hl 3 rfl) ?_
      refine va_getN (D := D) (ci := 4) (v := .int (V27 78 gf)) (fs := (xfFrame V27 gf)) (C := RX4) (T := TX4) (N := 19) hx hb hg inX4 hown hK hP (336 + gf) (xgFrame hgf) rfl 11 (by decide) (hnw.use 1200 n1200 rfl) (fun _ h9 => h9) rfl dX5_callNeed_107 ?_
      refine g_top (v := (V 78 gf)) (up2_o hV27 (by decide)) ?_
      refine lv_aload_n hx hb dX5_callNeed_110 rfl (lv_at hl 3 rfl) ?_
      refine va_getN (D := D) (ci := 4) (v := .int (V27 69 gf)) (fs := (xfFrame V27 gf)) (C := RX4) (T := TX4) (N := 19) hx hb hg inX4 hown hK hP (336 + gf) (xgFrame hgf) rfl 2 (by decide) (hnw.use 1191 n1191 rfl) (fun _ h9 => h9) rfl dX5_callNeed_111 ?_
      refine g_top (v := (V 69 gf)) (up2_o hV27 (by decide)) ?_
      refine lv_iconst (v := 1) hx hb dX5_callNeed_114 (by decide) ?_
      refine lv_iadd hx hb dX5_callNeed_115 ?_
      have r31 := i_full (V 69 gf)
      refine lv_topi (fun z32 ez32 => ?_)
      have hz32 : Imp (-2147483648 ≤ ((V 69 gf)).toInt + 1 ∧ ((V 69 gf)).toInt + 1 ≤ 2147483647) (z32.toInt = ((V 69 gf)).toInt + 1) := Imp.mk (fun hp => i_add ez32 rfl (by decide) hp)
      have me33 : ME V V27 gf := (ME.up ME.rf hV27 (Or.inl ⟨by decide, by decide, Nat.le_refl _⟩))
      have pq34 : (V27 67 gf).toInt = ((V 67 gf)).toInt := congrArg Int32.toInt (up2_o hV27 (by decide))
      have pq35 : (V27 68 gf).toInt = 1 := (congrArg Int32.toInt (up2_s hV27)).trans (by decide)
      have pq36 : (V27 70 gf).toInt = ((V 70 gf)).toInt := congrArg Int32.toInt (up2_o hV27 (by decide))
      have pq37 : (V27 71 gf).toInt = ((V 71 gf)).toInt := congrArg Int32.toInt (up2_o hV27 (by decide))
      have pq38 : (V27 75 gf).toInt = ((V 75 gf)).toInt := congrArg Int32.toInt (up2_o hV27 (by decide))
      have pq39 : (V27 76 gf).toInt = ((V 76 gf)).toInt := congrArg Int32.toInt (up2_o hV27 (by decide))
      have pq40 : (V27 80 gf).toInt = ((V 80 gf)).toInt := congrArg Int32.toInt (up2_o hV27 (by decide))
      have pq41 : (V27 84 gf).toInt = ((V 84 gf)).toInt := congrArg Int32.toInt (up2_o hV27 (by decide))
      have pq42 : (V27 5 6).toInt = ((V 5 6)).toInt := congrArg Int32.toInt (up2_o hV27 (by decide))
      have pq43 : (V27 5 8).toInt = ((V 5 8)).toInt := congrArg Int32.toInt (up2_o hV27 (by decide))
      have pq44 : (V27 5 9).toInt = ((V 5 9)).toInt := congrArg Int32.toInt (up2_o hV27 (by decide))
      have pq45 : (V27 3 13).toInt = ((V 3 13)).toInt := congrArg Int32.toInt (up2_o hV27 (by decide))
      have pq46 : (V27 43 (5 * b + 2)).toInt = ((V 43 (5 * b + 2))).toInt := congrArg Int32.toInt (up2_o hV27 (by decide))
      have pq47 : (V27 42 b).toInt = ((V 42 b)).toInt := congrArg Int32.toInt (up2_o hV27 (by decide))
      have pq48 : (V27 41 b).toInt = ((V 41 b)).toInt := congrArg Int32.toInt (up2_o hV27 (by decide))
      have ep51 : V27 84 gf = (V 84 gf) := (up2_o hV27 (by decide))
      have af50 : (V27 42 b).toInt ≤ (V27 84 gf).toInt ∨ (bdp V27 b (V27 84 gf).toInt.toNat).1 = true := by rw [ep51, me33.1.bd, me33.1 42 b (by decide) (by decide)]; exact ft
      have mo49 : MO V27 Z b gf True True True := MO.ch mo me33 (up2_o hV27 (by decide)) (up2_o hV27 (by decide)) (fun _ => Or.inl (by omega)) (fun x h => FK.k4 (by first | omega | ((try (have i_hz32 := Imp.go hz32 (by omega))); omega)) (by first | omega | ((try (have i_hz32 := Imp.go hz32 (by omega))); omega)) (by first | omega | ((try (have i_hz32 := Imp.go hz32 (by omega))); omega)) af50 (by first | omega | ((try (have i_hz32 := Imp.go hz32 (by omega))); omega)) (fun hph => absurd hph (by omega)))
      have mt52 : MT V27 Z b := MO.mt mo49 (by (first | exact om_c09d41618ed8 hgf | omega)) (by (first | exact om_82fa09255765 gd pq42 | omega))
      refine W.know (fun k54 k55 => ?_)
      obtain ⟨Hk53, hHk53⟩ : ∃ z, z = H := ⟨_, rfl⟩
      have k54 : Hk53.size ≤ s.heap.size + (zcc Z - zcc Z) := by rw [hHk53]; exact k54
      have k55 : tot Hk53 ≤ tot s.heap + (zss Z - zss Z) := by rw [hHk53]; exact k55
      refine gZ_void (gA_runV (As := [.int z20, .int (V 72 gf), .int (V 77 gf), .int (V 78 gf), .int z32]) (rest := []) (ci := 5) (q0 := 5) hx hb hml hown hg hP hD hK hS hA hnw hgk (x_pushCall l D ks H.size ad kk V27 L Z z20 (V 72 gf) (V 77 gf) (V 78 gf) z32 (b) hMV27 (by first | exact om_13ba01c174fe r29.1 r29.2 | first | omega | ((try (have i_hz32 := Imp.go hz32 (by omega))); omega)) (by first | exact om_0916ac166aa8 r30.1 r30.2 | first | omega | ((try (have i_hz32 := Imp.go hz32 (by omega))); omega)) (show b < 2 from by first | exact om_f940a4667dd6 hb2 | first | omega | ((try (have i_hz32 := Imp.go hz32 (by omega))); omega)) mt52) w1454 w1455 w1456 w171 w1457 rfl xgMachine hdV_yX5_pushCall ⟨Nat.le_of_ble_eq_true rfl, Nat.le_of_ble_eq_true rfl⟩ rfl hl.1 rfl (Nat.le_of_ble_eq_true rfl) dX5_callNeed_116 ⟨z1 zoZ.1, z1 zoZ.2.1⟩) hD hS hA (fun u57 H locs w58 hP hD hK hS y59 y60 => ?_)
      obtain ⟨V61, L62, Z63⟩ := u57
      obtain ⟨hMV61, ajV61, axL62, zlZ63, t65⟩ := w58
      have axL62 : L = L62 := Eq.symm axL62
      subst axL62
      have hP : va_P D vwCl (xw ad kk V61 L Z63) H := hP
      have hD : va_D A (xw ad kk V61 L Z63) := hD
      have hK : va_K D vwCl (xty kk Z63) s := hK
      have hMV61 : rgd bX V61 := hMV61
      have ajV61 : agr [(5, 6), (5, 9)] [67, 68, 69, 70, 71, 72, 73, 74, 75, 76, 77, 78, 79, 80, 81, 82, 83, 84, 85] V27 V61 := ajV61
      have agV61 : agr [(5, 6), (5, 9), (5, 10), (5, 11), (5, 12)] [67, 68, 69, 70, 71, 72, 73, 74, 75, 76, 77, 78, 79, 80, 81, 82, 83, 84, 85] V V61 := agV27.tr ajV61 (by decide) (by decide)
      have zlZ63 : ZL Z Z63 := zlZ63
      have zoZ63 : ZL Z Z63 := ZL.tr zoZ zlZ63
      have ziZ63 := zlZ63.1
      have zjZ63 := zlZ63.2.1
      have zkZ63 := zlZ63.2.2.1
      have zmZ63 := zoZ63.1
      have znZ63 := zoZ63.2.1
      have zpZ_Z63 := zoZ.1
      have zqZ_Z63 := zoZ.2.1
      have y59 : H.size ≤ Hk53.size + (zcc Z - zcc Z63) := by rw [hHk53]; exact y59
      have y60 : tot H ≤ tot Hk53 + (zss Z - zss Z63) := by rw [hHk53]; exact y60
      refine W.tight (k := zcc Z - zcc Z63) (n := zss Z - zss Z63) (by first | exact tg9 y59 k54 zlZ63.1 zoZ.1 | omega) (by first | exact tg9 y60 k55 zlZ63.2.1 zoZ.2.1 | omega) ?_
      have hl : lv_has ls 4 [(3, .int z20), (2, .int (V 60 (8 * (24 * b + (Int32.toNatClampNeg (V 71 gf))) + (Int32.toNatClampNeg (V 75 gf))))), (0, .ref (ad 5)), (1, .ref (Z63.fa gf))] := by rw [zlZ63.2.2.2.2 gf hgf]; exact hl
      have t65 : MJ V61 Z63 b := t65
      refine W.know (fun kr1 kr2 => ?_)
      refine W.widen (k := zcc Z) (n := zss Z) (Nat.sub_le _ _) (Nat.sub_le _ _) ?_
      exact W.vret hx hb hr (fun t ht hW => ⟨⟨(V61, L, Z63), rfl, ⟨hMV61, agV61, rfl, zoZ63, t65⟩, ⟨by rw [ht]; exact hP, va_K.moved hW.alike hK, hD⟩, by rw [ht]; exact kr1, by rw [ht]; exact kr2⟩, hS.F ht⟩) hS.2.2 dX5_callNeed_119
    · skip
      have f66 : ((V 60 (8 * (24 * b + (Int32.toNatClampNeg (V 71 gf))) + (Int32.toNatClampNeg (V 75 gf))))).toInt = 1 := b_eq rfl (by decide) c25
      refine lv_iload_n hx hb dX5_callNeed_72 rfl (lv_at hl 0 rfl) ?_
      refine lv_iconst (v := (-1)) hx hb dX5_callNeed_73 (by decide) ?_
      refine lv_icmp_ne (tgt := 91) hx hb dX5_callNeed_74 (by decide) (fun c67 => ?_) (fun c67 => ?_)
      · skip
        have f68 : z20.toInt ≠ (-1) := b_neq rfl (by decide) c67
        refine lv_aload_n hx hb dX5_callNeed_91 rfl (lv_at hl 3 rfl) ?_
        refine lv_iconst (v := 1) hx hb dX5_callNeed_92 (by decide) ?_
        refine va_putN (D := D) (ci := 4) (v := .int 1) (ty := tyX4 1) (fs := (xfFrame V gf)) (C := RX4) (T := TX4) (N := 19) hx hb hg inX4 tyX4 tyX4_ok nmX4 hown hK hP hD hS (336 + gf) (xgFrame hgf) rfl 1 (by decide) (hnw.use 1190 n1190 rfl) (fun _ h9 => h9) rfl (tyX4_ok 1 (by decide)) rfl rfl (Nat.le_of_ble_eq_true rfl) dX5_callNeed_93 (fun H locs hP hD hS => ?_)
        obtain ⟨V69, hV69⟩ : ∃ z, z = up2 V 68 gf 1 := ⟨_, rfl⟩
        have ew70 : (xw ad kk V L Z).set (336 + gf) ((Z.fa gf), .inr (4, (xfFrame V gf).set 1 (.int 1))) = xw ad kk V69 L Z := by rw [hV69]; exact xpFrame_phase hgf
        have hP : va_P D vwCl (xw ad kk V69 L Z) H := by rw [← ew70]; exact hP
        have hD : va_D A (xw ad kk V69 L Z) := by rw [← ew70]; exact hD
        have hMV69 : rgd bX V69 := hMV.put hV69 (i_full _)
        have agV69 : agr [(5, 6), (5, 9), (5, 10), (5, 11), (5, 12)] [67, 68, 69, 70, 71, 72, 73, 74, 75, 76, 77, 78, 79, 80, 81, 82, 83, 84, 85] V V69 := agV.up hV69 rfl
        refine lv_aload_n hx hb dX5_callNeed_96 rfl (lv_at hl 2 rfl) ?_
        refine lv_iload_n hx hb dX5_callNeed_97 rfl (lv_at hl 0 rfl) ?_
        refine lv_aload_n hx hb dX5_callNeed_98 rfl (lv_at hl 3 rfl) ?_
        refine va_getN (D := D) (ci := 4) (v := .int (V69 72 gf)) (fs := (xfFrame V69 gf)) (C := RX4) (T := TX4) (N := 19) hx hb hg inX4 hown hK hP (336 + gf) (xgFrame hgf) rfl 5 (by decide) (hnw.use 1194 n1194 rfl) (fun _ h9 => h9) rfl dX5_callNeed_99 ?_
        refine g_top (v := (V 72 gf)) (up2_o hV69 (by decide)) ?_
        have r71 : 0 ≤ ((V 72 gf)).toInt ∧ ((V 72 gf)).toInt ≤ 39 := hMV 72 gf
        refine lv_aload_n hx hb dX5_callNeed_102 rfl (lv_at hl 3 rfl) ?_
        refine va_getN (D := D) (ci := 4) (v := .int (V69 77 gf)) (fs := (xfFrame V69 gf)) (C := RX4) (T := TX4) (N := 19) hx hb hg inX4 hown hK hP (336 + gf) (xgFrame hgf) rfl 10 (by decide) (hnw.use 1199 n1199 rfl) (fun _ h9 => h9) rfl dX5_callNeed_103 ?_
        refine g_top (v := (V 77 gf)) (up2_o hV69 (by decide)) ?_
        have r72 : 0 ≤ ((V 77 gf)).toInt ∧ ((V 77 gf)).toInt ≤ 19 := hMV 77 gf
        refine lv_aload_n hx hb dX5_callNeed_106 rfl (lv_at hl 3 rfl) ?_
        refine va_getN (D := D) (ci := 4) (v := .int (V69 78 gf)) (fs := (xfFrame V69 gf)) (C := RX4) (T := TX4) (N := 19) hx hb hg inX4 hown hK hP (336 + gf) (xgFrame hgf) rfl 11 (by decide) (hnw.use 1200 n1200 rfl) (fun _ h9 => h9) rfl dX5_callNeed_107 ?_
        refine g_top (v := (V 78 gf)) (up2_o hV69 (by decide)) ?_
        refine lv_aload_n hx hb dX5_callNeed_110 rfl (lv_at hl 3 rfl) ?_
        refine va_getN (D := D) (ci := 4) (v := .int (V69 69 gf)) (fs := (xfFrame V69 gf)) (C := RX4) (T := TX4) (N := 19) hx hb hg inX4 hown hK hP (336 + gf) (xgFrame hgf) rfl 2 (by decide) (hnw.use 1191 n1191 rfl) (fun _ h9 => h9) rfl dX5_callNeed_111 ?_
        refine g_top (v := (V 69 gf)) (up2_o hV69 (by decide)) ?_
        refine lv_iconst (v := 1) hx hb dX5_callNeed_114 (by decide) ?_
        refine lv_iadd hx hb dX5_callNeed_115 ?_
        have r73 := i_full (V 69 gf)
        refine lv_topi (fun z74 ez74 => ?_)
        have hz74 : Imp (-2147483648 ≤ ((V 69 gf)).toInt + 1 ∧ ((V 69 gf)).toInt + 1 ≤ 2147483647) (z74.toInt = ((V 69 gf)).toInt + 1) := Imp.mk (fun hp => i_add ez74 rfl (by decide) hp)
        have me75 : ME V V69 gf := (ME.up ME.rf hV69 (Or.inl ⟨by decide, by decide, Nat.le_refl _⟩))
        have pq76 : (V69 67 gf).toInt = ((V 67 gf)).toInt := congrArg Int32.toInt (up2_o hV69 (by decide))
        have pq77 : (V69 68 gf).toInt = 1 := (congrArg Int32.toInt (up2_s hV69)).trans (by decide)
        have pq78 : (V69 70 gf).toInt = ((V 70 gf)).toInt := congrArg Int32.toInt (up2_o hV69 (by decide))
        have pq79 : (V69 71 gf).toInt = ((V 71 gf)).toInt := congrArg Int32.toInt (up2_o hV69 (by decide))
        have pq80 : (V69 75 gf).toInt = ((V 75 gf)).toInt := congrArg Int32.toInt (up2_o hV69 (by decide))
        have pq81 : (V69 76 gf).toInt = ((V 76 gf)).toInt := congrArg Int32.toInt (up2_o hV69 (by decide))
        have pq82 : (V69 80 gf).toInt = ((V 80 gf)).toInt := congrArg Int32.toInt (up2_o hV69 (by decide))
        have pq83 : (V69 84 gf).toInt = ((V 84 gf)).toInt := congrArg Int32.toInt (up2_o hV69 (by decide))
        have pq84 : (V69 5 6).toInt = ((V 5 6)).toInt := congrArg Int32.toInt (up2_o hV69 (by decide))
        have pq85 : (V69 5 8).toInt = ((V 5 8)).toInt := congrArg Int32.toInt (up2_o hV69 (by decide))
        have pq86 : (V69 5 9).toInt = ((V 5 9)).toInt := congrArg Int32.toInt (up2_o hV69 (by decide))
        have pq87 : (V69 3 13).toInt = ((V 3 13)).toInt := congrArg Int32.toInt (up2_o hV69 (by decide))
        have pq88 : (V69 43 (5 * b + 2)).toInt = ((V 43 (5 * b + 2))).toInt := congrArg Int32.toInt (up2_o hV69 (by decide))
        have pq89 : (V69 42 b).toInt = ((V 42 b)).toInt := congrArg Int32.toInt (up2_o hV69 (by decide))
        have pq90 : (V69 41 b).toInt = ((V 41 b)).toInt := congrArg Int32.toInt (up2_o hV69 (by decide))
        have ep93 : V69 84 gf = (V 84 gf) := (up2_o hV69 (by decide))
        have af92 : (V69 42 b).toInt ≤ (V69 84 gf).toInt ∨ (bdp V69 b (V69 84 gf).toInt.toNat).1 = true := by rw [ep93, me75.1.bd, me75.1 42 b (by decide) (by decide)]; exact ft
        have mo91 : MO V69 Z b gf True True True := MO.ch mo me75 (up2_o hV69 (by decide)) (up2_o hV69 (by decide)) (fun _ => Or.inl (by omega)) (fun x h => FK.k4 (by first | omega | ((try (have i_hz74 := Imp.go hz74 (by omega))); omega)) (by first | omega | ((try (have i_hz74 := Imp.go hz74 (by omega))); omega)) (by first | omega | ((try (have i_hz74 := Imp.go hz74 (by omega))); omega)) af92 (by first | omega | ((try (have i_hz74 := Imp.go hz74 (by omega))); omega)) (fun hph => absurd hph (by omega)))
        have mt94 : MT V69 Z b := MO.mt mo91 (by (first | exact om_c09d41618ed8 hgf | omega)) (by (first | exact om_82fa09255765 gd pq84 | omega))
        refine W.know (fun k96 k97 => ?_)
        obtain ⟨Hk95, hHk95⟩ : ∃ z, z = H := ⟨_, rfl⟩
        have k96 : Hk95.size ≤ s.heap.size + (zcc Z - zcc Z) := by rw [hHk95]; exact k96
        have k97 : tot Hk95 ≤ tot s.heap + (zss Z - zss Z) := by rw [hHk95]; exact k97
        refine gZ_void (gA_runV (As := [.int z20, .int (V 72 gf), .int (V 77 gf), .int (V 78 gf), .int z74]) (rest := []) (ci := 5) (q0 := 5) hx hb hml hown hg hP hD hK hS hA hnw hgk (x_pushCall l D ks H.size ad kk V69 L Z z20 (V 72 gf) (V 77 gf) (V 78 gf) z74 (b) hMV69 (by first | exact om_13ba01c174fe r71.1 r71.2 | first | omega | ((try (have i_hz74 := Imp.go hz74 (by omega))); omega)) (by first | exact om_0916ac166aa8 r72.1 r72.2 | first | omega | ((try (have i_hz74 := Imp.go hz74 (by omega))); omega)) (show b < 2 from by first | exact om_f940a4667dd6 hb2 | first | omega | ((try (have i_hz74 := Imp.go hz74 (by omega))); omega)) mt94) w1454 w1455 w1456 w171 w1457 rfl xgMachine hdV_yX5_pushCall ⟨Nat.le_of_ble_eq_true rfl, Nat.le_of_ble_eq_true rfl⟩ rfl hl.1 rfl (Nat.le_of_ble_eq_true rfl) dX5_callNeed_116 ⟨z1 zoZ.1, z1 zoZ.2.1⟩) hD hS hA (fun u99 H locs w100 hP hD hK hS y101 y102 => ?_)
        obtain ⟨V103, L104, Z105⟩ := u99
        obtain ⟨hMV103, ajV103, axL104, zlZ105, t107⟩ := w100
        have axL104 : L = L104 := Eq.symm axL104
        subst axL104
        have hP : va_P D vwCl (xw ad kk V103 L Z105) H := hP
        have hD : va_D A (xw ad kk V103 L Z105) := hD
        have hK : va_K D vwCl (xty kk Z105) s := hK
        have hMV103 : rgd bX V103 := hMV103
        have ajV103 : agr [(5, 6), (5, 9)] [67, 68, 69, 70, 71, 72, 73, 74, 75, 76, 77, 78, 79, 80, 81, 82, 83, 84, 85] V69 V103 := ajV103
        have agV103 : agr [(5, 6), (5, 9), (5, 10), (5, 11), (5, 12)] [67, 68, 69, 70, 71, 72, 73, 74, 75, 76, 77, 78, 79, 80, 81, 82, 83, 84, 85] V V103 := agV69.tr ajV103 (by decide) (by decide)
        have zlZ105 : ZL Z Z105 := zlZ105
        have zoZ105 : ZL Z Z105 := ZL.tr zoZ zlZ105
        have ziZ105 := zlZ105.1
        have zjZ105 := zlZ105.2.1
        have zkZ105 := zlZ105.2.2.1
        have zmZ105 := zoZ105.1
        have znZ105 := zoZ105.2.1
        have zpZ_Z105 := zoZ.1
        have zqZ_Z105 := zoZ.2.1
        have y101 : H.size ≤ Hk95.size + (zcc Z - zcc Z105) := by rw [hHk95]; exact y101
        have y102 : tot H ≤ tot Hk95 + (zss Z - zss Z105) := by rw [hHk95]; exact y102
        refine W.tight (k := zcc Z - zcc Z105) (n := zss Z - zss Z105) (by first | exact tg9 y101 k96 zlZ105.1 zoZ.1 | omega) (by first | exact tg9 y102 k97 zlZ105.2.1 zoZ.2.1 | omega) ?_
        have hl : lv_has ls 4 [(3, .int z20), (2, .int (V 60 (8 * (24 * b + (Int32.toNatClampNeg (V 71 gf))) + (Int32.toNatClampNeg (V 75 gf))))), (0, .ref (ad 5)), (1, .ref (Z105.fa gf))] := by rw [zlZ105.2.2.2.2 gf hgf]; exact hl
        have t107 : MJ V103 Z105 b := t107
        refine W.know (fun kr1 kr2 => ?_)
        refine W.widen (k := zcc Z) (n := zss Z) (Nat.sub_le _ _) (Nat.sub_le _ _) ?_
        exact W.vret hx hb hr (fun t ht hW => ⟨⟨(V103, L, Z105), rfl, ⟨hMV103, agV103, rfl, zoZ105, t107⟩, ⟨by rw [ht]; exact hP, va_K.moved hW.alike hK, hD⟩, by rw [ht]; exact kr1, by rw [ht]; exact kr2⟩, hS.F ht⟩) hS.2.2 dX5_callNeed_119
      · skip
        have f108 : z20.toInt = (-1) := b_eq rfl (by decide) c67
        refine lv_aload_n hx hb dX5_callNeed_77 rfl (lv_at hl 3 rfl) ?_
        refine lv_bipush (v := 7) hx hb dX5_callNeed_78 (by decide) ?_
        refine va_putN (D := D) (ci := 4) (v := .int 7) (ty := tyX4 1) (fs := (xfFrame V gf)) (C := RX4) (T := TX4) (N := 19) hx hb hg inX4 tyX4 tyX4_ok nmX4 hown hK hP hD hS (336 + gf) (xgFrame hgf) rfl 1 (by decide) (hnw.use 1190 n1190 rfl) (fun _ h9 => h9) rfl (tyX4_ok 1 (by decide)) rfl rfl (Nat.le_of_ble_eq_true rfl) dX5_callNeed_80 (fun H locs hP hD hS => ?_)
        obtain ⟨V109, hV109⟩ : ∃ z, z = up2 V 68 gf 7 := ⟨_, rfl⟩
        have ew110 : (xw ad kk V L Z).set (336 + gf) ((Z.fa gf), .inr (4, (xfFrame V gf).set 1 (.int 7))) = xw ad kk V109 L Z := by rw [hV109]; exact xpFrame_phase hgf
        have hP : va_P D vwCl (xw ad kk V109 L Z) H := by rw [← ew110]; exact hP
        have hD : va_D A (xw ad kk V109 L Z) := by rw [← ew110]; exact hD
        have hMV109 : rgd bX V109 := hMV.put hV109 (i_full _)
        have agV109 : agr [(5, 6), (5, 9), (5, 10), (5, 11), (5, 12)] [67, 68, 69, 70, 71, 72, 73, 74, 75, 76, 77, 78, 79, 80, 81, 82, 83, 84, 85] V V109 := agV.up hV109 rfl
        refine lv_aload_n hx hb dX5_callNeed_83 rfl (lv_at hl 2 rfl) ?_
        refine lv_aload_n hx hb dX5_callNeed_84 rfl (lv_at hl 3 rfl) ?_
        have pq111 : (V109 5 6).toInt = ((V 5 6)).toInt := congrArg Int32.toInt (up2_o hV109 (by decide))
        have pq112 : (V109 67 gf).toInt = ((V 67 gf)).toInt := congrArg Int32.toInt (up2_o hV109 (by decide))
        have pq113 : (V109 68 gf).toInt = 7 := (congrArg Int32.toInt (up2_s hV109)).trans (by decide)
        have me114 : ME V V109 gf := (ME.up ME.rf hV109 (Or.inl ⟨by decide, by decide, Nat.le_refl _⟩))
        have pq115 : (V109 70 gf).toInt = ((V 70 gf)).toInt := congrArg Int32.toInt (up2_o hV109 (by decide))
        have pq116 : (V109 71 gf).toInt = ((V 71 gf)).toInt := congrArg Int32.toInt (up2_o hV109 (by decide))
        have pq117 : (V109 75 gf).toInt = ((V 75 gf)).toInt := congrArg Int32.toInt (up2_o hV109 (by decide))
        have pq118 : (V109 76 gf).toInt = ((V 76 gf)).toInt := congrArg Int32.toInt (up2_o hV109 (by decide))
        have pq119 : (V109 80 gf).toInt = ((V 80 gf)).toInt := congrArg Int32.toInt (up2_o hV109 (by decide))
        have pq120 : (V109 84 gf).toInt = ((V 84 gf)).toInt := congrArg Int32.toInt (up2_o hV109 (by decide))
        have pq121 : (V109 5 8).toInt = ((V 5 8)).toInt := congrArg Int32.toInt (up2_o hV109 (by decide))
        have pq122 : (V109 5 9).toInt = ((V 5 9)).toInt := congrArg Int32.toInt (up2_o hV109 (by decide))
        have pq123 : (V109 3 13).toInt = ((V 3 13)).toInt := congrArg Int32.toInt (up2_o hV109 (by decide))
        have pq124 : (V109 43 (5 * b + 2)).toInt = ((V 43 (5 * b + 2))).toInt := congrArg Int32.toInt (up2_o hV109 (by decide))
        have pq125 : (V109 42 b).toInt = ((V 42 b)).toInt := congrArg Int32.toInt (up2_o hV109 (by decide))
        have pq126 : (V109 41 b).toInt = ((V 41 b)).toInt := congrArg Int32.toInt (up2_o hV109 (by decide))
        have ep129 : V109 84 gf = (V 84 gf) := (up2_o hV109 (by decide))
        have af128 : (V109 42 b).toInt ≤ (V109 84 gf).toInt ∨ (bdp V109 b (V109 84 gf).toInt.toNat).1 = true := by rw [ep129, me114.1.bd, me114.1 42 b (by decide) (by decide)]; exact ft
        have mo127 : MO V109 Z b gf True False True := MO.ch mo me114 (up2_o hV109 (by decide)) (up2_o hV109 (by decide)) (fun _ => Or.inl (by omega)) (fun x h => FK.k4 (by omega) (by omega) (by omega) af128 (by omega) (fun _ z => z.elim))
        refine W.know (fun k131 k132 => ?_)
        obtain ⟨Hk130, hHk130⟩ : ∃ z, z = H := ⟨_, rfl⟩
        have k131 : Hk130.size ≤ s.heap.size + (zcc Z - zcc Z) := by rw [hHk130]; exact k131
        have k132 : tot Hk130 ≤ tot s.heap + (zss Z - zss Z) := by rw [hHk130]; exact k132
        refine gZ_void (gA_runV (As := [.ref (Z.fa gf)]) (rest := []) (ci := 5) (q0 := 5) hx hb hml hown hg hP hD hK hS hA hnw hgk (x_getLate l D ks H.size ad kk V109 L Z (b) (gf) hMV109 (show b < 2 from by (first | exact om_f940a4667dd6 hb2 | omega)) (show gf < Z.nf from by (first | exact om_8c5722e49bb1 hgf | omega)) mo127 (show (gf : Int) + 1 = (V109 5 6).toInt from by (first | exact om_6e5bbaaa0e03 gd pq111 | omega)) (show (V109 67 gf).toInt = 4 from by (first | exact om_ac6651f4ff0c gk pq112 | omega)) (show (V109 68 gf).toInt = 7 from by (first | exact om_ba873a6da76b pq113 | omega))) w1443 w1445 w69 w171 w1446 rfl xgMachine hdV_yX5_getLate ⟨Nat.le_of_ble_eq_true rfl, Nat.le_of_ble_eq_true rfl⟩ rfl hl.1 rfl (Nat.le_of_ble_eq_true rfl) dX5_callNeed_85 ⟨z1 zoZ.1, z1 zoZ.2.1⟩) hD hS hA (fun u134 H locs w135 hP hD hK hS y136 y137 => ?_)
        obtain ⟨V138, L139, Z140⟩ := u134
        obtain ⟨hMV138, ajV138, axL139, zlZ140, t142⟩ := w135
        have axL139 : L = L139 := Eq.symm axL139
        subst axL139
        have hP : va_P D vwCl (xw ad kk V138 L Z140) H := hP
        have hD : va_D A (xw ad kk V138 L Z140) := hD
        have hK : va_K D vwCl (xty kk Z140) s := hK
        have hMV138 : rgd bX V138 := hMV138
        have ajV138 : agr [(5, 6), (5, 9), (5, 11), (5, 12)] [67, 68, 69, 70, 71, 72, 73, 74, 75, 76, 77, 78, 79, 80, 81, 82, 83, 84, 85] V109 V138 := ajV138
        have agV138 : agr [(5, 6), (5, 9), (5, 10), (5, 11), (5, 12)] [67, 68, 69, 70, 71, 72, 73, 74, 75, 76, 77, 78, 79, 80, 81, 82, 83, 84, 85] V V138 := agV109.tr ajV138 (by decide) (by decide)
        have zlZ140 : ZL Z Z140 := zlZ140
        have zoZ140 : ZL Z Z140 := ZL.tr zoZ zlZ140
        have ziZ140 := zlZ140.1
        have zjZ140 := zlZ140.2.1
        have zkZ140 := zlZ140.2.2.1
        have zmZ140 := zoZ140.1
        have znZ140 := zoZ140.2.1
        have zpZ_Z140 := zoZ.1
        have zqZ_Z140 := zoZ.2.1
        have y136 : H.size ≤ Hk130.size + (zcc Z - zcc Z140) := by rw [hHk130]; exact y136
        have y137 : tot H ≤ tot Hk130 + (zss Z - zss Z140) := by rw [hHk130]; exact y137
        refine W.tight (k := zcc Z - zcc Z140) (n := zss Z - zss Z140) (by first | exact tg9 y136 k131 zlZ140.1 zoZ.1 | omega) (by first | exact tg9 y137 k132 zlZ140.2.1 zoZ.2.1 | omega) ?_
        have hl : lv_has ls 4 [(3, .int z20), (2, .int (V 60 (8 * (24 * b + (Int32.toNatClampNeg (V 71 gf))) + (Int32.toNatClampNeg (V 75 gf))))), (0, .ref (ad 5)), (1, .ref (Z140.fa gf))] := by rw [zlZ140.2.2.2.2 gf hgf]; exact hl
        have t142 : MJ V138 Z140 b := t142
        refine lv_goto (tgt := 119) hx hb dX5_callNeed_88 (by decide) ?_
        refine W.know (fun kr1 kr2 => ?_)
        refine W.widen (k := zcc Z) (n := zss Z) (Nat.sub_le _ _) (Nat.sub_le _ _) ?_
        exact W.vret hx hb hr (fun t ht hW => ⟨⟨(V138, L, Z140), rfl, ⟨hMV138, agV138, rfl, zoZ140, t142⟩, ⟨by rw [ht]; exact hP, va_K.moved hW.alike hK, hD⟩, by rw [ht]; exact kr1, by rw [ht]; exact kr2⟩, hS.F ht⟩) hS.2.2 dX5_callNeed_119
  · skip
    have f143 : ((V 60 (8 * (24 * b + (Int32.toNatClampNeg (V 71 gf))) + (Int32.toNatClampNeg (V 75 gf))))).toInt = 2 := b_eq rfl (by decide) c23
    refine lv_aload_n hx hb dX5_callNeed_43 rfl (lv_at hl 3 rfl) ?_
    refine lv_bipush (v := 8) hx hb dX5_callNeed_44 (by decide) ?_
    refine va_putN (D := D) (ci := 4) (v := .int 8) (ty := tyX4 1) (fs := (xfFrame V gf)) (C := RX4) (T := TX4) (N := 19) hx hb hg inX4 tyX4 tyX4_ok nmX4 hown hK hP hD hS (336 + gf) (xgFrame hgf) rfl 1 (by decide) (hnw.use 1190 n1190 rfl) (fun _ h9 => h9) rfl (tyX4_ok 1 (by decide)) rfl rfl (Nat.le_of_ble_eq_true rfl) dX5_callNeed_46 (fun H locs hP hD hS => ?_)
    obtain ⟨V144, hV144⟩ : ∃ z, z = up2 V 68 gf 8 := ⟨_, rfl⟩
    have ew145 : (xw ad kk V L Z).set (336 + gf) ((Z.fa gf), .inr (4, (xfFrame V gf).set 1 (.int 8))) = xw ad kk V144 L Z := by rw [hV144]; exact xpFrame_phase hgf
    have hP : va_P D vwCl (xw ad kk V144 L Z) H := by rw [← ew145]; exact hP
    have hD : va_D A (xw ad kk V144 L Z) := by rw [← ew145]; exact hD
    have hMV144 : rgd bX V144 := hMV.put hV144 (i_full _)
    have agV144 : agr [(5, 6), (5, 9), (5, 10), (5, 11), (5, 12)] [67, 68, 69, 70, 71, 72, 73, 74, 75, 76, 77, 78, 79, 80, 81, 82, 83, 84, 85] V V144 := agV.up hV144 rfl
    refine lv_aload_n hx hb dX5_callNeed_49 rfl (lv_at hl 3 rfl) ?_
    refine lv_iconst (v := 0) hx hb dX5_callNeed_50 (by decide) ?_
    refine va_putN (D := D) (ci := 4) (v := .int 0) (ty := tyX4 9) (fs := (xfFrame V144 gf)) (C := RX4) (T := TX4) (N := 19) hx hb hg inX4 tyX4 tyX4_ok nmX4 hown hK hP hD hS (336 + gf) (xgFrame hgf) rfl 9 (by decide) (hnw.use 1198 n1198 rfl) (fun _ h9 => h9) rfl (tyX4_ok 9 (by decide)) rfl rfl (Nat.le_of_ble_eq_true rfl) dX5_callNeed_51 (fun H locs hP hD hS => ?_)
    obtain ⟨V146, hV146⟩ : ∃ z, z = up2 V144 76 gf 0 := ⟨_, rfl⟩
    have ew147 : (xw ad kk V144 L Z).set (336 + gf) ((Z.fa gf), .inr (4, (xfFrame V144 gf).set 9 (.int 0))) = xw ad kk V146 L Z := by rw [hV146]; exact xpFrame_item hgf
    have hP : va_P D vwCl (xw ad kk V146 L Z) H := by rw [← ew147]; exact hP
    have hD : va_D A (xw ad kk V146 L Z) := by rw [← ew147]; exact hD
    have hMV146 : rgd bX V146 := hMV144.put hV146 (i_full _)
    have agV146 : agr [(5, 6), (5, 9), (5, 10), (5, 11), (5, 12)] [67, 68, 69, 70, 71, 72, 73, 74, 75, 76, 77, 78, 79, 80, 81, 82, 83, 84, 85] V V146 := agV144.up hV146 rfl
    refine lv_aload_n hx hb dX5_callNeed_54 rfl (lv_at hl 3 rfl) ?_
    refine lv_iconst (v := 0) hx hb dX5_callNeed_55 (by decide) ?_
    refine va_putN (D := D) (ci := 4) (v := .int 0) (ty := tyX4 12) (fs := (xfFrame V146 gf)) (C := RX4) (T := TX4) (N := 19) hx hb hg inX4 tyX4 tyX4_ok nmX4 hown hK hP hD hS (336 + gf) (xgFrame hgf) rfl 12 (by decide) (hnw.use 1201 n1201 rfl) (fun _ h9 => h9) rfl (tyX4_ok 12 (by decide)) rfl rfl (Nat.le_of_ble_eq_true rfl) dX5_callNeed_56 (fun H locs hP hD hS => ?_)
    obtain ⟨V148, hV148⟩ : ∃ z, z = up2 V146 79 gf 0 := ⟨_, rfl⟩
    have ew149 : (xw ad kk V146 L Z).set (336 + gf) ((Z.fa gf), .inr (4, (xfFrame V146 gf).set 12 (.int 0))) = xw ad kk V148 L Z := by rw [hV148]; exact xpFrame_sum hgf
    have hP : va_P D vwCl (xw ad kk V148 L Z) H := by rw [← ew149]; exact hP
    have hD : va_D A (xw ad kk V148 L Z) := by rw [← ew149]; exact hD
    have hMV148 : rgd bX V148 := hMV146.put hV148 (i_full _)
    have agV148 : agr [(5, 6), (5, 9), (5, 10), (5, 11), (5, 12)] [67, 68, 69, 70, 71, 72, 73, 74, 75, 76, 77, 78, 79, 80, 81, 82, 83, 84, 85] V V148 := agV146.up hV148 rfl
    refine lv_aload_n hx hb dX5_callNeed_59 rfl (lv_at hl 2 rfl) ?_
    refine lv_iconst (v := 0) hx hb dX5_callNeed_60 (by decide) ?_
    refine gA_void (gA_runV (As := [.int 0]) (rest := []) (ci := 5) (q0 := 5) hx hb hml hown hg hP hD hK hS hA hnw hgk (x_answerWith2 l D ks H.size ad kk V148 L Z 0 hMV148 ) w1304 w1306 w49 w171 w1307 rfl xgMachine hdV_yX5_answerWith ⟨Nat.le_of_ble_eq_true rfl, Nat.le_of_ble_eq_true rfl⟩ rfl hl.1 rfl (Nat.le_of_ble_eq_true rfl) dX5_callNeed_61 ⟨z0, z0⟩) hP hD hK hS hA (fun u151 H locs w152 hP hD hK hS => ?_)
    obtain ⟨V155, L156⟩ := u151
    obtain ⟨hMV155, ajV155, axL156, t153, t154⟩ := w152
    have axL156 : L = L156 := Eq.symm axL156
    subst axL156
    have hP : va_P D vwCl (xw ad kk V155 L Z) H := hP
    have hD : va_D A (xw ad kk V155 L Z) := hD
    have hMV155 : rgd bX V155 := hMV155
    have ajV155 : agr [(5, 9), (5, 10)] [] V148 V155 := ajV155
    have agV155 : agr [(5, 6), (5, 9), (5, 10), (5, 11), (5, 12)] [67, 68, 69, 70, 71, 72, 73, 74, 75, 76, 77, 78, 79, 80, 81, 82, 83, 84, 85] V V155 := agV148.tr ajV155 (by decide) (by decide)
    have t153 : (V155 5 9).toInt = 1 := t153
    have t154 : (V155 5 10).toInt = (Int32.toInt 0) := t154
    have r157 : 0 ≤ ((V155 5 9)).toInt ∧ ((V155 5 9)).toInt ≤ 3 := hMV155 5 9
    refine lv_goto (tgt := 119) hx hb dX5_callNeed_64 (by decide) ?_
    have me158 : ME V V155 gf := (ME.tr (ME.up (ME.up (ME.up ME.rf hV144 (Or.inl ⟨by decide, by decide, Nat.le_refl _⟩)) hV146 (Or.inl ⟨by decide, by decide, Nat.le_refl _⟩)) hV148 (Or.inl ⟨by decide, by decide, Nat.le_refl _⟩)) (ME.ag ajV155 (by decide)))
    have pq159 : (V155 67 gf).toInt = ((V 67 gf)).toInt := congrArg Int32.toInt ((ajV155 67 gf rfl).trans ((up2_o hV148 (by decide)).trans ((up2_o hV146 (by decide)).trans (up2_o hV144 (by decide)))))
    have pq160 : (V155 68 gf).toInt = 8 := (congrArg Int32.toInt ((ajV155 68 gf rfl).trans ((up2_o hV148 (by decide)).trans ((up2_o hV146 (by decide)).trans (up2_s hV144))))).trans (by decide)
    have pq161 : (V155 70 gf).toInt = ((V 70 gf)).toInt := congrArg Int32.toInt ((ajV155 70 gf rfl).trans ((up2_o hV148 (by decide)).trans ((up2_o hV146 (by decide)).trans (up2_o hV144 (by decide)))))
    have pq162 : (V155 71 gf).toInt = ((V 71 gf)).toInt := congrArg Int32.toInt ((ajV155 71 gf rfl).trans ((up2_o hV148 (by decide)).trans ((up2_o hV146 (by decide)).trans (up2_o hV144 (by decide)))))
    have pq163 : (V155 75 gf).toInt = ((V 75 gf)).toInt := congrArg Int32.toInt ((ajV155 75 gf rfl).trans ((up2_o hV148 (by decide)).trans ((up2_o hV146 (by decide)).trans (up2_o hV144 (by decide)))))
    have pq164 : (V155 76 gf).toInt = 0 := (congrArg Int32.toInt ((ajV155 76 gf rfl).trans ((up2_o hV148 (by decide)).trans (up2_s hV146)))).trans (by decide)
    have pq165 : (V155 80 gf).toInt = ((V 80 gf)).toInt := congrArg Int32.toInt ((ajV155 80 gf rfl).trans ((up2_o hV148 (by decide)).trans ((up2_o hV146 (by decide)).trans (up2_o hV144 (by decide)))))
    have pq166 : (V155 84 gf).toInt = ((V 84 gf)).toInt := congrArg Int32.toInt ((ajV155 84 gf rfl).trans ((up2_o hV148 (by decide)).trans ((up2_o hV146 (by decide)).trans (up2_o hV144 (by decide)))))
    have pq167 : (V155 5 6).toInt = ((V 5 6)).toInt := congrArg Int32.toInt ((ajV155 5 6 rfl).trans ((up2_o hV148 (by decide)).trans ((up2_o hV146 (by decide)).trans (up2_o hV144 (by decide)))))
    have pq168 : (V155 5 8).toInt = ((V 5 8)).toInt := congrArg Int32.toInt ((ajV155 5 8 rfl).trans ((up2_o hV148 (by decide)).trans ((up2_o hV146 (by decide)).trans (up2_o hV144 (by decide)))))
    have pq169 : (V155 3 13).toInt = ((V 3 13)).toInt := congrArg Int32.toInt ((ajV155 3 13 rfl).trans ((up2_o hV148 (by decide)).trans ((up2_o hV146 (by decide)).trans (up2_o hV144 (by decide)))))
    have pq170 : (V155 43 (5 * b + 2)).toInt = ((V 43 (5 * b + 2))).toInt := congrArg Int32.toInt ((ajV155 43 (5 * b + 2) rfl).trans ((up2_o hV148 (by decide)).trans ((up2_o hV146 (by decide)).trans (up2_o hV144 (by decide)))))
    have pq171 : (V155 42 b).toInt = ((V 42 b)).toInt := congrArg Int32.toInt ((ajV155 42 b rfl).trans ((up2_o hV148 (by decide)).trans ((up2_o hV146 (by decide)).trans (up2_o hV144 (by decide)))))
    have pq172 : (V155 41 b).toInt = ((V 41 b)).toInt := congrArg Int32.toInt ((ajV155 41 b rfl).trans ((up2_o hV148 (by decide)).trans ((up2_o hV146 (by decide)).trans (up2_o hV144 (by decide)))))
    have ep175 : V155 84 gf = (V 84 gf) := ((ajV155 84 gf rfl).trans ((up2_o hV148 (by decide)).trans ((up2_o hV146 (by decide)).trans (up2_o hV144 (by decide)))))
    have af174 : (V155 42 b).toInt ≤ (V155 84 gf).toInt ∨ (bdp V155 b (V155 84 gf).toInt.toNat).1 = true := by rw [ep175, me158.1.bd, me158.1 42 b (by decide) (by decide)]; exact ft
    have mo173 : MO V155 Z b gf True (QN V155 b) (QN V155 b) := MO.ch mo me158 ((ajV155 67 gf rfl).trans ((up2_o hV148 (by decide)).trans ((up2_o hV146 (by decide)).trans (up2_o hV144 (by decide))))) ((ajV155 80 gf rfl).trans ((up2_o hV148 (by decide)).trans ((up2_o hV146 (by decide)).trans (up2_o hV144 (by decide))))) (fun _ => Or.inl (by omega)) (fun x h => FK.k4 (by omega) (by omega) (by omega) af174 (by omega) (fun hph => absurd hph (by omega)))
    have rp176 : MJ V155 Z b := MO.mj mo173 (by (first | exact om_c09d41618ed8 hgf | omega)) (by (first | exact om_82fa09255765 gd pq167 | omega)) id id Or.inr
    refine W.know (fun kr1 kr2 => ?_)
    refine W.widen (k := zcc Z) (n := zss Z) (Nat.sub_le _ _) (Nat.sub_le _ _) ?_
    exact W.vret hx hb hr (fun t ht hW => ⟨⟨(V155, L, Z), rfl, ⟨hMV155, agV155, rfl, zoZ, rp176⟩, ⟨by rw [ht]; exact hP, va_K.moved hW.alike hK, hD⟩, by rw [ht]; exact kr1, by rw [ht]; exact kr2⟩, hS.F ht⟩) hS.2.2 dX5_callNeed_119
abbrev r_x_goOnWorking (Z : XZ) : Room := { frames := 6, cells := zcc Z, slots := zss Z, locals := 137 }
abbrev q_x_goOnWorking (D : va_G) (ks : KS) (ad : Nat → Nat) (kk : Nat → ClassId) (V : Vf) (L : Lf) (Z : XZ) (b : Nat) (gf : Nat) (A : Nat → Prop) : Array Value → State → Outcome → State → Prop := qZv D (fun (u : Vf × Lf × XZ) => rgd bX u.1 ∧ agr [(3, 15), (5, 6), (5, 7), (5, 9), (5, 10), (5, 11), (5, 12), (5, 13), (5, 14)] [30, 31, 32, 39, 67, 68, 69, 70, 71, 72, 73, 74, 75, 76, 77, 78, 79, 80, 81, 82, 83, 84, 85] V u.1 ∧ u.2.1 = L ∧ ZL Z u.2.2 ∧ (MJ u.1 u.2.2 b)) (fun u => xw ad kk u.1 u.2.1 u.2.2) (fun u => xty kk u.2.2) (fun u => zcc Z - zcc u.2.2) (fun u => zss Z - zss u.2.2) A
set_option maxHeartbeats 4000000 in
set_option maxRecDepth 100000 in
theorem x_goOnWorking (l : Launch) (D : va_G) (ks : KS) (sz : Nat) (ad : Nat → Nat) (kk : Nat → ClassId) (V : Vf) (L : Lf) (Z : XZ) (b : Nat) (gf : Nat) (hMV : rgd bX V) (hb2 : b < 2) (hgf : gf < Z.nf) (mo : MO V Z b gf True (QN V b) (QN V b)) (gd : (gf : Int) + 1 = (V 5 6).toInt) (gk : (V 67 gf).toInt = 4)  : Met l yX5_goOnWorking (Cond.code yX5_goOnWorking cX5_goOnWorking 2 none :: GW) (r_x_goOnWorking Z) (va_Pc [.ref (ad 5), .ref (Z.fa gf)] (gp D ks (xw ad kk V L Z) (xty kk Z) sz)) (q_x_goOnWorking D ks ad kk V L Z  b gf (va_A (xw ad kk V L Z) sz)) (zcc Z) (zss Z) (va_A (xw ad kk V L Z) sz) := by
  refine g_met (q_x_goOnWorking D ks ad kk V L Z  b gf) (by decide) (Nat.le_of_ble_eq_true rfl) ?_
  intro p e s m below meth c A ls H locs hx hb hr hml hown hg hlocks hin hnw hgk hP hK hD hS hA hl
  have hown : s.vm.findClass RX5 = some m.cls := hown
  have hl : lv_has ls 2 [(0, .ref (ad 5)), (1, .ref (Z.fa gf))] := hl
  have hP : va_P D vwCl (xw ad kk V L Z) H := hP
  have hD : va_D A (xw ad kk V L Z) := hD
  have hK : va_K D vwCl (xty kk Z) s := hK
  have agV : agr [(3, 15), (5, 6), (5, 7), (5, 9), (5, 10), (5, 11), (5, 12), (5, 13), (5, 14)] [30, 31, 32, 39, 67, 68, 69, 70, 71, 72, 73, 74, 75, 76, 77, 78, 79, 80, 81, 82, 83, 84, 85] V V := agr.rf
  have zoZ : ZL Z Z := ZL.rf
  refine W.know (fun ka kb => ?_)
  refine W.tight (k := zcc Z - zcc Z) (n := zss Z - zss Z) (by omega) (by omega) ?_
  have r1 : 0 ≤ ((V 5 6)).toInt ∧ ((V 5 6)).toInt ≤ 400 := hMV 5 6
  have kdp := i_clamp (x := V 5 6) rfl (by (first | exact om_c66f1b494bd9 gd | omega))
  have hdn : (gf : Int) + 1 ≤ (Z.nf : Int) := by (first | exact om_29efded833ec hgf | omega)
  have mup := MO.up mo
  have msz := mup.1
  have mbk := mup.2.2.2.1
  obtain ⟨xk, fk⟩ := MO.fk mo
  have r2 : (-1) ≤ ((V 71 gf)).toInt ∧ ((V 71 gf)).toInt ≤ 23 := hMV 71 gf
  have r3 : 0 ≤ ((V 75 gf)).toInt ∧ ((V 75 gf)).toInt ≤ 12 := hMV 75 gf
  have r4 : 0 ≤ ((V 80 gf)).toInt ∧ ((V 80 gf)).toInt ≤ 300 := hMV 80 gf
  have r5 : 0 ≤ ((V 84 gf)).toInt ∧ ((V 84 gf)).toInt ≤ 2147483647 := hMV 84 gf
  have r6 : 0 ≤ ((V 5 8)).toInt ∧ ((V 5 8)).toInt ≤ 300 := hMV 5 8
  have r7 : 0 ≤ ((V 5 9)).toInt ∧ ((V 5 9)).toInt ≤ 3 := hMV 5 9
  have r8 : 0 ≤ ((V 3 13)).toInt ∧ ((V 3 13)).toInt ≤ 300 := hMV 3 13
  have r9 : 0 ≤ ((V 43 (5 * b + 2))).toInt ∧ ((V 43 (5 * b + 2))).toInt ≤ ((xcap (5 * b + 2) : Nat) : Int) := hMV 43 (5 * b + 2)
  have r10 : xcap (5 * b + 2) = 24 := xcap_2
  have r11 : 0 ≤ ((V 41 b)).toInt ∧ ((V 41 b)).toInt ≤ 12 := hMV 41 b
  have r12 : 0 ≤ ((V 42 b)).toInt ∧ ((V 42 b)).toInt ≤ 8200 := hMV 42 b
  have fc := fk.1 (by omega)
  have fo := fk.2.1 (by omega) (by omega)
  have ft := fk.2.2.1 (by omega)
  have fq := fk.2.2.2.1 (by omega)
  refine lv_aload_n hx hb dX5_goOnWorking_0 rfl (lv_at hl 1 rfl) ?_
  refine va_getN (D := D) (ci := 4) (v := .int (V 68 gf)) (fs := (xfFrame V gf)) (C := RX4) (T := TX4) (N := 19) hx hb hg inX4 hown hK hP (336 + gf) (xgFrame hgf) rfl 1 (by decide) (hnw.use 1190 n1190 rfl) (fun _ h9 => h9) rfl dX5_goOnWorking_1 ?_
  refine lv_bipush (v := 6) hx hb dX5_goOnWorking_4 (by decide) ?_
  refine lv_icmp_ne (tgt := 15) hx hb dX5_goOnWorking_6 (by decide) (fun c13 => ?_) (fun c13 => ?_)
  · skip
    have f14 : ((V 68 gf)).toInt ≠ 6 := b_neq rfl (by decide) c13
    refine lv_aload_n hx hb dX5_goOnWorking_15 rfl (lv_at hl 1 rfl) ?_
    refine va_getN (D := D) (ci := 4) (v := .int (V 68 gf)) (fs := (xfFrame V gf)) (C := RX4) (T := TX4) (N := 19) hx hb hg inX4 hown hK hP (336 + gf) (xgFrame hgf) rfl 1 (by decide) (hnw.use 1190 n1190 rfl) (fun _ h9 => h9) rfl dX5_goOnWorking_16 ?_
    refine lv_if_eq (tgt := 45) hx hb dX5_goOnWorking_19 (by decide) (fun c15 => ?_) (fun c15 => ?_)
    · skip
      have f16 : ((V 68 gf)).toInt = 0 := b_eq rfl (by decide) c15
      refine lv_aload_n hx hb dX5_goOnWorking_45 rfl (lv_at hl 1 rfl) ?_
      refine lv_iconst (v := 0) hx hb dX5_goOnWorking_46 (by decide) ?_
      refine va_putN (D := D) (ci := 4) (v := .int 0) (ty := tyX4 1) (fs := (xfFrame V gf)) (C := RX4) (T := TX4) (N := 19) hx hb hg inX4 tyX4 tyX4_ok nmX4 hown hK hP hD hS (336 + gf) (xgFrame hgf) rfl 1 (by decide) (hnw.use 1190 n1190 rfl) (fun _ h9 => h9) rfl (tyX4_ok 1 (by decide)) rfl rfl (Nat.le_of_ble_eq_true rfl) dX5_goOnWorking_47 (fun H locs hP hD hS => ?_)
      obtain ⟨V17, hV17⟩ : ∃ z, z = up2 V 68 gf 0 := ⟨_, rfl⟩
      have ew18 : (xw ad kk V L Z).set (336 + gf) ((Z.fa gf), .inr (4, (xfFrame V gf).set 1 (.int 0))) = xw ad kk V17 L Z := by rw [hV17]; exact xpFrame_phase hgf
      have hP : va_P D vwCl (xw ad kk V17 L Z) H := by rw [← ew18]; exact hP
      have hD : va_D A (xw ad kk V17 L Z) := by rw [← ew18]; exact hD
      have hMV17 : rgd bX V17 := hMV.put hV17 (i_full _)
      have agV17 : agr [(3, 15), (5, 6), (5, 7), (5, 9), (5, 10), (5, 11), (5, 12), (5, 13), (5, 14)] [30, 31, 32, 39, 67, 68, 69, 70, 71, 72, 73, 74, 75, 76, 77, 78, 79, 80, 81, 82, 83, 84, 85] V V17 := agV.up hV17 rfl
      refine lv_aload_n hx hb dX5_goOnWorking_50 rfl (lv_at hl 0 rfl) ?_
      refine lv_aload_n hx hb dX5_goOnWorking_51 rfl (lv_at hl 1 rfl) ?_
      have pq19 : (V17 5 6).toInt = ((V 5 6)).toInt := congrArg Int32.toInt (up2_o hV17 (by decide))
      have pq20 : (V17 67 gf).toInt = ((V 67 gf)).toInt := congrArg Int32.toInt (up2_o hV17 (by decide))
      have pq21 : (V17 68 gf).toInt = 0 := (congrArg Int32.toInt (up2_s hV17)).trans (by decide)
      have me22 : ME V V17 gf := (ME.up ME.rf hV17 (Or.inl ⟨by decide, by decide, Nat.le_refl _⟩))
      have pq23 : (V17 70 gf).toInt = ((V 70 gf)).toInt := congrArg Int32.toInt (up2_o hV17 (by decide))
      have pq24 : (V17 71 gf).toInt = ((V 71 gf)).toInt := congrArg Int32.toInt (up2_o hV17 (by decide))
      have pq25 : (V17 75 gf).toInt = ((V 75 gf)).toInt := congrArg Int32.toInt (up2_o hV17 (by decide))
      have pq26 : (V17 76 gf).toInt = ((V 76 gf)).toInt := congrArg Int32.toInt (up2_o hV17 (by decide))
      have pq27 : (V17 80 gf).toInt = ((V 80 gf)).toInt := congrArg Int32.toInt (up2_o hV17 (by decide))
      have pq28 : (V17 84 gf).toInt = ((V 84 gf)).toInt := congrArg Int32.toInt (up2_o hV17 (by decide))
      have pq29 : (V17 5 8).toInt = ((V 5 8)).toInt := congrArg Int32.toInt (up2_o hV17 (by decide))
      have pq30 : (V17 5 9).toInt = ((V 5 9)).toInt := congrArg Int32.toInt (up2_o hV17 (by decide))
      have pq31 : (V17 3 13).toInt = ((V 3 13)).toInt := congrArg Int32.toInt (up2_o hV17 (by decide))
      have pq32 : (V17 43 (5 * b + 2)).toInt = ((V 43 (5 * b + 2))).toInt := congrArg Int32.toInt (up2_o hV17 (by decide))
      have pq33 : (V17 42 b).toInt = ((V 42 b)).toInt := congrArg Int32.toInt (up2_o hV17 (by decide))
      have pq34 : (V17 41 b).toInt = ((V 41 b)).toInt := congrArg Int32.toInt (up2_o hV17 (by decide))
      have ep37 : V17 84 gf = (V 84 gf) := (up2_o hV17 (by decide))
      have af36 : (V17 42 b).toInt ≤ (V17 84 gf).toInt ∨ (bdp V17 b (V17 84 gf).toInt.toNat).1 = true := by rw [ep37, me22.1.bd, me22.1 42 b (by decide) (by decide)]; exact ft
      have mo35 : MO V17 Z b gf True True True := MO.ch mo me22 (up2_o hV17 (by decide)) (up2_o hV17 (by decide)) (fun _ => Or.inl (by omega)) (fun x h => FK.k4 (by omega) (by omega) (by omega) af36 (by omega) (fun hph => absurd hph (by omega)))
      refine W.know (fun k39 k40 => ?_)
      obtain ⟨Hk38, hHk38⟩ : ∃ z, z = H := ⟨_, rfl⟩
      have k39 : Hk38.size ≤ s.heap.size + (zcc Z - zcc Z) := by rw [hHk38]; exact k39
      have k40 : tot Hk38 ≤ tot s.heap + (zss Z - zss Z) := by rw [hHk38]; exact k40
      refine gZ_void (gA_runV (As := [.ref (Z.fa gf)]) (rest := []) (ci := 5) (q0 := 5) hx hb hml hown hg hP hD hK hS hA hnw hgk (x_work l D ks H.size ad kk V17 L Z (b) (gf) hMV17 (show b < 2 from by (first | exact om_f940a4667dd6 hb2 | omega)) (show gf < Z.nf from by (first | exact om_8c5722e49bb1 hgf | omega)) mo35 (show (gf : Int) + 1 = (V17 5 6).toInt from by (first | exact om_6e5bbaaa0e03 gd pq19 | omega)) (show (V17 67 gf).toInt = 4 from by (first | exact om_ac6651f4ff0c gk pq20 | omega)) (show (V17 68 gf).toInt = 0 from by (first | exact om_b66ba74381d5 pq21 | omega))) w1474 w1476 w74 w171 w1477 rfl xgMachine hdV_yX5_work ⟨Nat.le_of_ble_eq_true rfl, Nat.le_of_ble_eq_true rfl⟩ rfl hl.1 rfl (Nat.le_of_ble_eq_true rfl) dX5_goOnWorking_52 ⟨z1 zoZ.1, z1 zoZ.2.1⟩) hD hS hA (fun u42 H locs w43 hP hD hK hS y44 y45 => ?_)
      obtain ⟨V46, L47, Z48⟩ := u42
      obtain ⟨hMV46, ajV46, axL47, zlZ48, t50⟩ := w43
      have axL47 : L = L47 := Eq.symm axL47
      subst axL47
      have hP : va_P D vwCl (xw ad kk V46 L Z48) H := hP
      have hD : va_D A (xw ad kk V46 L Z48) := hD
      have hK : va_K D vwCl (xty kk Z48) s := hK
      have hMV46 : rgd bX V46 := hMV46
      have ajV46 : agr [(5, 6), (5, 7), (5, 9), (5, 10), (5, 11), (5, 12), (5, 13), (5, 14)] [39, 67, 68, 69, 70, 71, 72, 73, 74, 75, 76, 77, 78, 79, 80, 81, 82, 83, 84, 85] V17 V46 := ajV46
      have agV46 : agr [(3, 15), (5, 6), (5, 7), (5, 9), (5, 10), (5, 11), (5, 12), (5, 13), (5, 14)] [30, 31, 32, 39, 67, 68, 69, 70, 71, 72, 73, 74, 75, 76, 77, 78, 79, 80, 81, 82, 83, 84, 85] V V46 := agV17.tr ajV46 (by decide) (by decide)
      have zlZ48 : ZL Z Z48 := zlZ48
      have zoZ48 : ZL Z Z48 := ZL.tr zoZ zlZ48
      have ziZ48 := zlZ48.1
      have zjZ48 := zlZ48.2.1
      have zkZ48 := zlZ48.2.2.1
      have zmZ48 := zoZ48.1
      have znZ48 := zoZ48.2.1
      have zpZ_Z48 := zoZ.1
      have zqZ_Z48 := zoZ.2.1
      have y44 : H.size ≤ Hk38.size + (zcc Z - zcc Z48) := by rw [hHk38]; exact y44
      have y45 : tot H ≤ tot Hk38 + (zss Z - zss Z48) := by rw [hHk38]; exact y45
      refine W.tight (k := zcc Z - zcc Z48) (n := zss Z - zss Z48) (by first | exact tg9 y44 k39 zlZ48.1 zoZ.1 | omega) (by first | exact tg9 y45 k40 zlZ48.2.1 zoZ.2.1 | omega) ?_
      have hl : lv_has ls 2 [(0, .ref (ad 5)), (1, .ref (Z48.fa gf))] := by rw [zlZ48.2.2.2.2 gf hgf]; exact hl
      have t50 : MJ V46 Z48 b := t50
      refine W.know (fun kr1 kr2 => ?_)
      refine W.widen (k := zcc Z) (n := zss Z) (Nat.sub_le _ _) (Nat.sub_le _ _) ?_
      exact W.vret hx hb hr (fun t ht hW => ⟨⟨(V46, L, Z48), rfl, ⟨hMV46, agV46, rfl, zoZ48, t50⟩, ⟨by rw [ht]; exact hP, va_K.moved hW.alike hK, hD⟩, by rw [ht]; exact kr1, by rw [ht]; exact kr2⟩, hS.F ht⟩) hS.2.2 dX5_goOnWorking_55
    · skip
      have f51 : ((V 68 gf)).toInt ≠ 0 := b_neq rfl (by decide) c15
      refine lv_aload_n hx hb dX5_goOnWorking_22 rfl (lv_at hl 0 rfl) ?_
      refine va_get (D := D) (ci := 5) (v := .int (V 5 9)) (fs := (xfMachine ad V L Z)) (C := RX5) (T := TX5) (N := 15) hx hb hg inX5 hown hK hP 5 xgMachine rfl 9 (by decide) (hg _ w676) (fun _ h9 => h9) rfl dX5_goOnWorking_23 ?_
      refine lv_iconst (v := 1) hx hb dX5_goOnWorking_26 (by decide) ?_
      refine lv_icmp_eq (tgt := 36) hx hb dX5_goOnWorking_27 (by decide) (fun c52 => ?_) (fun c52 => ?_)
      · skip
        have f53 : ((V 5 9)).toInt = 1 := b_eq rfl (by decide) c52
        have mot : MO V Z b gf True (¬ NN V b) True := MO.w mo (fun _ => trivial) (fun z => ⟨by omega, z⟩) (fun _ => Or.inl (by omega))
        refine lv_aload_n hx hb dX5_goOnWorking_36 rfl (lv_at hl 0 rfl) ?_
        refine lv_aload_n hx hb dX5_goOnWorking_37 rfl (lv_at hl 1 rfl) ?_
        refine W.know (fun k55 k56 => ?_)
        obtain ⟨Hk54, hHk54⟩ : ∃ z, z = H := ⟨_, rfl⟩
        have k55 : Hk54.size ≤ s.heap.size + (zcc Z - zcc Z) := by rw [hHk54]; exact k55
        have k56 : tot Hk54 ≤ tot s.heap + (zss Z - zss Z) := by rw [hHk54]; exact k56
        refine gZ_int (gA_runV (As := [.ref (Z.fa gf)]) (rest := []) (ci := 5) (q0 := 5) hx hb hml hown hg hP hD hK hS hA hnw hgk (x_takesAnswer l D ks H.size ad kk V L Z (b) (gf) hMV (show b < 2 from by (first | exact om_f940a4667dd6 hb2 | omega)) (show gf < Z.nf from by (first | exact om_8c5722e49bb1 hgf | omega)) mot (show (gf : Int) + 1 = (V 5 6).toInt from by (first | exact om_b7eb86266639 gd | omega)) (show (V 67 gf).toInt = 4 from by (first | exact om_c88e7ce0b8a2 gk | omega)) (show (V 68 gf).toInt ≠ 0 ∧ (V 68 gf).toInt ≠ 6 from by omega)) w1462 w1464 w71 w171 w1465 rfl xgMachine hdV_yX5_takesAnswer ⟨Nat.le_of_ble_eq_true rfl, Nat.le_of_ble_eq_true rfl⟩ rfl hl.1 rfl (Nat.le_of_ble_eq_true rfl) dX5_goOnWorking_38 ⟨z1 zoZ.1, z1 zoZ.2.1⟩) hD hS hA (fun z57 u58 H locs w59 hP hD hK hS y60 y61 => ?_)
        obtain ⟨V62, L63, Z64⟩ := u58
        obtain ⟨hMV62, ajV62, axL63, zlZ64, rgz57, t66, t67, t68, t69⟩ := w59
        have axL63 : L = L63 := Eq.symm axL63
        subst axL63
        have hP : va_P D vwCl (xw ad kk V62 L Z64) H := hP
        have hD : va_D A (xw ad kk V62 L Z64) := hD
        have hK : va_K D vwCl (xty kk Z64) s := hK
        have hMV62 : rgd bX V62 := hMV62
        have ajV62 : agr [(3, 15), (5, 6), (5, 7), (5, 9)] [30, 31, 32, 39, 67, 68, 69, 70, 71, 72, 73, 74, 75, 76, 77, 78, 79, 80, 81, 82, 83, 84, 85] V V62 := ajV62
        have agV62 : agr [(3, 15), (5, 6), (5, 7), (5, 9), (5, 10), (5, 11), (5, 12), (5, 13), (5, 14)] [30, 31, 32, 39, 67, 68, 69, 70, 71, 72, 73, 74, 75, 76, 77, 78, 79, 80, 81, 82, 83, 84, 85] V V62 := agV.tr ajV62 (by decide) (by decide)
        have zlZ64 : ZL Z Z64 := zlZ64
        have zoZ64 : ZL Z Z64 := ZL.tr zoZ zlZ64
        have ziZ64 := zlZ64.1
        have zjZ64 := zlZ64.2.1
        have zkZ64 := zlZ64.2.2.1
        have zmZ64 := zoZ64.1
        have znZ64 := zoZ64.2.1
        have zpZ_Z64 := zoZ.1
        have zqZ_Z64 := zoZ.2.1
        have y60 : H.size ≤ Hk54.size + (zcc Z - zcc Z64) := by rw [hHk54]; exact y60
        have y61 : tot H ≤ tot Hk54 + (zss Z - zss Z64) := by rw [hHk54]; exact y61
        refine W.tight (k := zcc Z - zcc Z64) (n := zss Z - zss Z64) (by first | exact tg9 y60 k55 zlZ64.1 zoZ.1 | omega) (by first | exact tg9 y61 k56 zlZ64.2.1 zoZ.2.1 | omega) ?_
        have hl : lv_has ls 2 [(0, .ref (ad 5)), (1, .ref (Z64.fa gf))] := by rw [zlZ64.2.2.2.2 gf hgf]; exact hl
        have rgz57 : 0 ≤ z57.toInt ∧ z57.toInt ≤ 1 := rgz57
        have t66 : Imp (z57.toInt = 1) (MO V62 Z64 b gf True True True) := t66
        have t67 : Imp (z57.toInt = 0) (MJ V62 Z64 b) := t67
        have t68 : Imp (z57.toInt = 1) ((V62 5 6).toInt = (V 5 6).toInt ∧ (V62 67 gf).toInt = 4) := t68
        have t69 : Imp (z57.toInt = 1) (Z64 = Z) := t69
        have r70 : 0 ≤ ((V62 5 6)).toInt ∧ ((V62 5 6)).toInt ≤ 400 := hMV62 5 6
        refine lv_if_ne (tgt := 45) hx hb dX5_goOnWorking_41 (by decide) (fun c71 => ?_) (fun c71 => ?_)
        · skip
          have f72 : z57.toInt ≠ 0 := b_neq rfl (by decide) c71
          have hr1 : z57.toInt = 1 := by (first | exact om_2ebe32d50835 rgz57.1 rgz57.2 f72 | omega)
          have ezz : Z64 = Z := Imp.go t69 hr1
          have hP : va_P D vwCl (xw ad kk V62 L Z) H := by rw [← ezz]; exact hP
          have hD : va_D A (xw ad kk V62 L Z) := by rw [← ezz]; exact hD
          have hK : va_K D vwCl (xty kk Z) s := by rw [← ezz]; exact hK
          have hl : lv_has ls 2 [(0, .ref (ad 5)), (1, .ref (Z.fa gf))] := by rw [← ezz]; exact hl
          rw [ezz]
          have mo73 : MO V62 Z b gf True True True := by rw [← ezz]; exact Imp.go t66 hr1
          have hpk := Imp.go t68 hr1
          have mup := MO.up mo73
          have msz := mup.1
          have mbk := mup.2.2.2.1
          obtain ⟨xk, fk⟩ := MO.fk mo73
          have r74 : (-1) ≤ ((V62 71 gf)).toInt ∧ ((V62 71 gf)).toInt ≤ 23 := hMV62 71 gf
          have r75 : 0 ≤ ((V62 75 gf)).toInt ∧ ((V62 75 gf)).toInt ≤ 12 := hMV62 75 gf
          have r76 : 0 ≤ ((V62 80 gf)).toInt ∧ ((V62 80 gf)).toInt ≤ 300 := hMV62 80 gf
          have r77 : 0 ≤ ((V62 84 gf)).toInt ∧ ((V62 84 gf)).toInt ≤ 2147483647 := hMV62 84 gf
          have pq78 : (V62 5 8).toInt = ((V 5 8)).toInt := congrArg Int32.toInt (ajV62 5 8 rfl)
          have r79 : 0 ≤ ((V62 5 9)).toInt ∧ ((V62 5 9)).toInt ≤ 3 := hMV62 5 9
          have pq80 : (V62 3 13).toInt = ((V 3 13)).toInt := congrArg Int32.toInt (ajV62 3 13 rfl)
          have pq81 : (V62 43 (5 * b + 2)).toInt = ((V 43 (5 * b + 2))).toInt := congrArg Int32.toInt (ajV62 43 (5 * b + 2) rfl)
          have pq82 : (V62 41 b).toInt = ((V 41 b)).toInt := congrArg Int32.toInt (ajV62 41 b rfl)
          have pq83 : (V62 42 b).toInt = ((V 42 b)).toInt := congrArg Int32.toInt (ajV62 42 b rfl)
          have fc := fk.1 (by omega)
          have fo := fk.2.1 (by omega) (by omega)
          have ft := fk.2.2.1 (by omega)
          have fq := fk.2.2.2.1 (by omega)
          refine lv_aload_n hx hb dX5_goOnWorking_45 rfl (lv_at hl 1 rfl) ?_
          refine lv_iconst (v := 0) hx hb dX5_goOnWorking_46 (by decide) ?_
          refine va_putN (D := D) (ci := 4) (v := .int 0) (ty := tyX4 1) (fs := (xfFrame V62 gf)) (C := RX4) (T := TX4) (N := 19) hx hb hg inX4 tyX4 tyX4_ok nmX4 hown hK hP hD hS (336 + gf) (xgFrame hgf) rfl 1 (by decide) (hnw.use 1190 n1190 rfl) (fun _ h9 => h9) rfl (tyX4_ok 1 (by decide)) rfl rfl (Nat.le_of_ble_eq_true rfl) dX5_goOnWorking_47 (fun H locs hP hD hS => ?_)
          obtain ⟨V84, hV84⟩ : ∃ z, z = up2 V62 68 gf 0 := ⟨_, rfl⟩
          have ew85 : (xw ad kk V62 L Z).set (336 + gf) ((Z.fa gf), .inr (4, (xfFrame V62 gf).set 1 (.int 0))) = xw ad kk V84 L Z := by rw [hV84]; exact xpFrame_phase hgf
          have hP : va_P D vwCl (xw ad kk V84 L Z) H := by rw [← ew85]; exact hP
          have hD : va_D A (xw ad kk V84 L Z) := by rw [← ew85]; exact hD
          have hMV84 : rgd bX V84 := hMV62.put hV84 (i_full _)
          have agV84 : agr [(3, 15), (5, 6), (5, 7), (5, 9), (5, 10), (5, 11), (5, 12), (5, 13), (5, 14)] [30, 31, 32, 39, 67, 68, 69, 70, 71, 72, 73, 74, 75, 76, 77, 78, 79, 80, 81, 82, 83, 84, 85] V V84 := agV62.up hV84 rfl
          refine lv_aload_n hx hb dX5_goOnWorking_50 rfl (lv_at hl 0 rfl) ?_
          refine lv_aload_n hx hb dX5_goOnWorking_51 rfl (lv_at hl 1 rfl) ?_
          have pq86 : (V84 5 6).toInt = ((V62 5 6)).toInt := congrArg Int32.toInt (up2_o hV84 (by decide))
          have pq87 : (V84 67 gf).toInt = ((V62 67 gf)).toInt := congrArg Int32.toInt (up2_o hV84 (by decide))
          have pq88 : (V84 68 gf).toInt = 0 := (congrArg Int32.toInt (up2_s hV84)).trans (by decide)
          have me89 : ME V62 V84 gf := (ME.up ME.rf hV84 (Or.inl ⟨by decide, by decide, Nat.le_refl _⟩))
          have pq90 : (V84 70 gf).toInt = ((V62 70 gf)).toInt := congrArg Int32.toInt (up2_o hV84 (by decide))
          have pq91 : (V84 71 gf).toInt = ((V62 71 gf)).toInt := congrArg Int32.toInt (up2_o hV84 (by decide))
          have pq92 : (V84 75 gf).toInt = ((V62 75 gf)).toInt := congrArg Int32.toInt (up2_o hV84 (by decide))
          have pq93 : (V84 76 gf).toInt = ((V62 76 gf)).toInt := congrArg Int32.toInt (up2_o hV84 (by decide))
          have pq94 : (V84 80 gf).toInt = ((V62 80 gf)).toInt := congrArg Int32.toInt (up2_o hV84 (by decide))
          have pq95 : (V84 84 gf).toInt = ((V62 84 gf)).toInt := congrArg Int32.toInt (up2_o hV84 (by decide))
          have pq96 : (V84 5 8).toInt = ((V 5 8)).toInt := congrArg Int32.toInt ((up2_o hV84 (by decide)).trans (ajV62 5 8 rfl))
          have pq97 : (V84 5 9).toInt = ((V62 5 9)).toInt := congrArg Int32.toInt (up2_o hV84 (by decide))
          have pq98 : (V84 3 13).toInt = ((V 3 13)).toInt := congrArg Int32.toInt ((up2_o hV84 (by decide)).trans (ajV62 3 13 rfl))
          have pq99 : (V84 43 (5 * b + 2)).toInt = ((V 43 (5 * b + 2))).toInt := congrArg Int32.toInt ((up2_o hV84 (by decide)).trans (ajV62 43 (5 * b + 2) rfl))
          have pq100 : (V84 42 b).toInt = ((V 42 b)).toInt := congrArg Int32.toInt ((up2_o hV84 (by decide)).trans (ajV62 42 b rfl))
          have pq101 : (V84 41 b).toInt = ((V 41 b)).toInt := congrArg Int32.toInt ((up2_o hV84 (by decide)).trans (ajV62 41 b rfl))
          have ep104 : V84 84 gf = (V62 84 gf) := (up2_o hV84 (by decide))
          have af103 : (V84 42 b).toInt ≤ (V84 84 gf).toInt ∨ (bdp V84 b (V84 84 gf).toInt.toNat).1 = true := by rw [ep104, me89.1.bd, me89.1 42 b (by decide) (by decide)]; exact ft
          have mo102 : MO V84 Z b gf True True True := MO.ch mo73 me89 (up2_o hV84 (by decide)) (up2_o hV84 (by decide)) (fun _ => Or.inl (by omega)) (fun x h => FK.k4 (by first | omega | ((try (have i_t68 := Imp.go t68 (by omega))); omega)) (by first | omega | ((try (have i_t68 := Imp.go t68 (by omega))); omega)) (by first | omega | ((try (have i_t68 := Imp.go t68 (by omega))); omega)) af103 (by first | omega | ((try (have i_t68 := Imp.go t68 (by omega))); omega)) (fun hph => absurd hph (by omega)))
          refine W.know (fun k106 k107 => ?_)
          obtain ⟨Hk105, hHk105⟩ : ∃ z, z = H := ⟨_, rfl⟩
          have k106 : Hk105.size ≤ s.heap.size + (zcc Z - zcc Z) := by rw [hHk105]; exact k106
          have k107 : tot Hk105 ≤ tot s.heap + (zss Z - zss Z) := by rw [hHk105]; exact k107
          refine gZ_void (gA_runV (As := [.ref (Z.fa gf)]) (rest := []) (ci := 5) (q0 := 5) hx hb hml hown hg hP hD hK hS hA hnw hgk (x_work l D ks H.size ad kk V84 L Z (b) (gf) hMV84 (show b < 2 from by first | exact om_f940a4667dd6 hb2 | first | omega | ((try (have i_t68 := Imp.go t68 (by omega))); omega)) (show gf < Z.nf from by first | exact om_8c5722e49bb1 hgf | first | omega | ((try (have i_t68 := Imp.go t68 (by omega))); omega)) mo102 (show (gf : Int) + 1 = (V84 5 6).toInt from by first | exact om_fd5cdca56366 gd pq86 ((Imp.go t68 (hr1)).1) | first | omega | ((try (have i_t68 := Imp.go t68 (by omega))); omega)) (show (V84 67 gf).toInt = 4 from by first | exact om_e8dcd4d58a75 pq87 ((Imp.go t68 (hr1)).2) | first | omega | ((try (have i_t68 := Imp.go t68 (by omega))); omega)) (show (V84 68 gf).toInt = 0 from by first | exact om_b66ba74381d5 pq88 | first | omega | ((try (have i_t68 := Imp.go t68 (by omega))); omega))) w1474 w1476 w74 w171 w1477 rfl xgMachine hdV_yX5_work ⟨Nat.le_of_ble_eq_true rfl, Nat.le_of_ble_eq_true rfl⟩ rfl hl.1 rfl (Nat.le_of_ble_eq_true rfl) dX5_goOnWorking_52 ⟨z1 zoZ.1, z1 zoZ.2.1⟩) hD hS hA (fun u109 H locs w110 hP hD hK hS y111 y112 => ?_)
          obtain ⟨V113, L114, Z115⟩ := u109
          obtain ⟨hMV113, ajV113, axL114, zlZ115, t117⟩ := w110
          have axL114 : L = L114 := Eq.symm axL114
          subst axL114
          have hP : va_P D vwCl (xw ad kk V113 L Z115) H := hP
          have hD : va_D A (xw ad kk V113 L Z115) := hD
          have hK : va_K D vwCl (xty kk Z115) s := hK
          have hMV113 : rgd bX V113 := hMV113
          have ajV113 : agr [(5, 6), (5, 7), (5, 9), (5, 10), (5, 11), (5, 12), (5, 13), (5, 14)] [39, 67, 68, 69, 70, 71, 72, 73, 74, 75, 76, 77, 78, 79, 80, 81, 82, 83, 84, 85] V84 V113 := ajV113
          have agV113 : agr [(3, 15), (5, 6), (5, 7), (5, 9), (5, 10), (5, 11), (5, 12), (5, 13), (5, 14)] [30, 31, 32, 39, 67, 68, 69, 70, 71, 72, 73, 74, 75, 76, 77, 78, 79, 80, 81, 82, 83, 84, 85] V V113 := agV84.tr ajV113 (by decide) (by decide)
          have zlZ115 : ZL Z Z115 := zlZ115
          have zoZ115 : ZL Z Z115 := ZL.tr zoZ zlZ115
          have ziZ115 := zlZ115.1
          have zjZ115 := zlZ115.2.1
          have zkZ115 := zlZ115.2.2.1
          have zmZ115 := zoZ115.1
          have znZ115 := zoZ115.2.1
          have zpZ_Z115 := zoZ.1
          have zqZ_Z115 := zoZ.2.1
          have y111 : H.size ≤ Hk105.size + (zcc Z - zcc Z115) := by rw [hHk105]; exact y111
          have y112 : tot H ≤ tot Hk105 + (zss Z - zss Z115) := by rw [hHk105]; exact y112
          refine W.tight (k := zcc Z - zcc Z115) (n := zss Z - zss Z115) (by first | exact tg9 y111 k106 zlZ115.1 zoZ.1 | omega) (by first | exact tg9 y112 k107 zlZ115.2.1 zoZ.2.1 | omega) ?_
          have hl : lv_has ls 2 [(0, .ref (ad 5)), (1, .ref (Z115.fa gf))] := by rw [zlZ115.2.2.2.2 gf hgf]; exact hl
          have t117 : MJ V113 Z115 b := t117
          refine W.know (fun kr1 kr2 => ?_)
          refine W.widen (k := zcc Z) (n := zss Z) (Nat.sub_le _ _) (Nat.sub_le _ _) ?_
          exact W.vret hx hb hr (fun t ht hW => ⟨⟨(V113, L, Z115), rfl, ⟨hMV113, agV113, rfl, zoZ115, t117⟩, ⟨by rw [ht]; exact hP, va_K.moved hW.alike hK, hD⟩, by rw [ht]; exact kr1, by rw [ht]; exact kr2⟩, hS.F ht⟩) hS.2.2 dX5_goOnWorking_55
        · skip
          have f118 : z57.toInt = 0 := b_eq rfl (by decide) c71
          refine W.know (fun kr1 kr2 => ?_)
          refine W.widen (k := zcc Z) (n := zss Z) (Nat.sub_le _ _) (Nat.sub_le _ _) ?_
          exact W.vret hx hb hr (fun t ht hW => ⟨⟨(V62, L, Z64), rfl, ⟨hMV62, agV62, rfl, zoZ64, (Imp.go t67 (by (first | exact om_b1799fcf2d63 rgz57.1 f118 | omega)))⟩, ⟨by rw [ht]; exact hP, va_K.moved hW.alike hK, hD⟩, by rw [ht]; exact kr1, by rw [ht]; exact kr2⟩, hS.F ht⟩) hS.2.2 dX5_goOnWorking_44
      · skip
        have f119 : ((V 5 9)).toInt ≠ 1 := b_neq rfl (by decide) c52
        refine lv_aload_n hx hb dX5_goOnWorking_30 rfl (lv_at hl 0 rfl) ?_
        refine lv_aload_n hx hb dX5_goOnWorking_31 rfl (lv_at hl 1 rfl) ?_
        have me120 : ME V V gf := ME.rf
        have af122 : (V 42 b).toInt ≤ (V 84 gf).toInt ∨ (bdp V b (V 84 gf).toInt.toNat).1 = true := by rw [me120.1.bd, me120.1 42 b (by decide) (by decide)]; exact ft
        have mo121 : MO V Z b gf True False True := MO.ch mo me120 rfl rfl (fun _ => Or.inl (by omega)) (fun x h => FK.k4 (by omega) (by omega) (by omega) af122 (by omega) (fun _ z => z.elim))
        refine gA_void (gA_runV (As := [.ref (Z.fa gf)]) (rest := []) (ci := 5) (q0 := 5) hx hb hml hown hg hP hD hK hS hA hnw hgk (x_endWork2 l D ks H.size ad kk V L Z (b) (gf) hMV (show b < 2 from by (first | exact om_f940a4667dd6 hb2 | omega)) (show gf < Z.nf from by (first | exact om_8c5722e49bb1 hgf | omega)) mo121 (show (gf : Int) + 1 = (V 5 6).toInt from by (first | exact om_b7eb86266639 gd | omega)) (show (V 67 gf).toInt = 4 from by (first | exact om_c88e7ce0b8a2 gk | omega))) w1458 w1460 w70 w171 w1461 rfl xgMachine hdV_yX5_endWork ⟨Nat.le_of_ble_eq_true rfl, Nat.le_of_ble_eq_true rfl⟩ rfl hl.1 rfl (Nat.le_of_ble_eq_true rfl) dX5_goOnWorking_32 ⟨z0, z0⟩) hP hD hK hS hA (fun u124 H locs w125 hP hD hK hS => ?_)
        obtain ⟨V127, L128⟩ := u124
        obtain ⟨hMV127, ajV127, axL128, t126⟩ := w125
        have axL128 : L = L128 := Eq.symm axL128
        subst axL128
        have hP : va_P D vwCl (xw ad kk V127 L Z) H := hP
        have hD : va_D A (xw ad kk V127 L Z) := hD
        have hMV127 : rgd bX V127 := hMV127
        have ajV127 : agr [(5, 6), (5, 7)] [] V V127 := ajV127
        have agV127 : agr [(3, 15), (5, 6), (5, 7), (5, 9), (5, 10), (5, 11), (5, 12), (5, 13), (5, 14)] [30, 31, 32, 39, 67, 68, 69, 70, 71, 72, 73, 74, 75, 76, 77, 78, 79, 80, 81, 82, 83, 84, 85] V V127 := agV.tr ajV127 (by decide) (by decide)
        have t126 : MJ V127 Z b := t126
        refine W.know (fun kr1 kr2 => ?_)
        refine W.widen (k := zcc Z) (n := zss Z) (Nat.sub_le _ _) (Nat.sub_le _ _) ?_
        exact W.vret hx hb hr (fun t ht hW => ⟨⟨(V127, L, Z), rfl, ⟨hMV127, agV127, rfl, zoZ, t126⟩, ⟨by rw [ht]; exact hP, va_K.moved hW.alike hK, hD⟩, by rw [ht]; exact kr1, by rw [ht]; exact kr2⟩, hS.F ht⟩) hS.2.2 dX5_goOnWorking_35
  · skip
    have f129 : ((V 68 gf)).toInt = 6 := b_eq rfl (by decide) c13
    refine lv_aload_n hx hb dX5_goOnWorking_9 rfl (lv_at hl 0 rfl) ?_
    refine lv_aload_n hx hb dX5_goOnWorking_10 rfl (lv_at hl 1 rfl) ?_
    refine W.know (fun k131 k132 => ?_)
    obtain ⟨Hk130, hHk130⟩ : ∃ z, z = H := ⟨_, rfl⟩
    have k131 : Hk130.size ≤ s.heap.size + (zcc Z - zcc Z) := by rw [hHk130]; exact k131
    have k132 : tot Hk130 ≤ tot s.heap + (zss Z - zss Z) := by rw [hHk130]; exact k132
    refine gZ_void (gA_runV (As := [.ref (Z.fa gf)]) (rest := []) (ci := 5) (q0 := 5) hx hb hml hown hg hP hD hK hS hA hnw hgk (x_callNeed l D ks H.size ad kk V L Z (b) (gf) hMV (show b < 2 from by (first | exact om_f940a4667dd6 hb2 | omega)) (show gf < Z.nf from by (first | exact om_8c5722e49bb1 hgf | omega)) mo (show (gf : Int) + 1 = (V 5 6).toInt from by (first | exact om_b7eb86266639 gd | omega)) (show (V 67 gf).toInt = 4 from by (first | exact om_c88e7ce0b8a2 gk | omega)) (show (V 68 gf).toInt = 6 from by (first | exact om_4b6cdf2bfd6b f129 | omega))) w1435 w1437 w68 w171 w1438 rfl xgMachine hdV_yX5_callNeed ⟨Nat.le_of_ble_eq_true rfl, Nat.le_of_ble_eq_true rfl⟩ rfl hl.1 rfl (Nat.le_of_ble_eq_true rfl) dX5_goOnWorking_11 ⟨z1 zoZ.1, z1 zoZ.2.1⟩) hD hS hA (fun u134 H locs w135 hP hD hK hS y136 y137 => ?_)
    obtain ⟨V138, L139, Z140⟩ := u134
    obtain ⟨hMV138, ajV138, axL139, zlZ140, t142⟩ := w135
    have axL139 : L = L139 := Eq.symm axL139
    subst axL139
    have hP : va_P D vwCl (xw ad kk V138 L Z140) H := hP
    have hD : va_D A (xw ad kk V138 L Z140) := hD
    have hK : va_K D vwCl (xty kk Z140) s := hK
    have hMV138 : rgd bX V138 := hMV138
    have ajV138 : agr [(5, 6), (5, 9), (5, 10), (5, 11), (5, 12)] [67, 68, 69, 70, 71, 72, 73, 74, 75, 76, 77, 78, 79, 80, 81, 82, 83, 84, 85] V V138 := ajV138
    have agV138 : agr [(3, 15), (5, 6), (5, 7), (5, 9), (5, 10), (5, 11), (5, 12), (5, 13), (5, 14)] [30, 31, 32, 39, 67, 68, 69, 70, 71, 72, 73, 74, 75, 76, 77, 78, 79, 80, 81, 82, 83, 84, 85] V V138 := agV.tr ajV138 (by decide) (by decide)
    have zlZ140 : ZL Z Z140 := zlZ140
    have zoZ140 : ZL Z Z140 := ZL.tr zoZ zlZ140
    have ziZ140 := zlZ140.1
    have zjZ140 := zlZ140.2.1
    have zkZ140 := zlZ140.2.2.1
    have zmZ140 := zoZ140.1
    have znZ140 := zoZ140.2.1
    have zpZ_Z140 := zoZ.1
    have zqZ_Z140 := zoZ.2.1
    have y136 : H.size ≤ Hk130.size + (zcc Z - zcc Z140) := by rw [hHk130]; exact y136
    have y137 : tot H ≤ tot Hk130 + (zss Z - zss Z140) := by rw [hHk130]; exact y137
    refine W.tight (k := zcc Z - zcc Z140) (n := zss Z - zss Z140) (by first | exact tg9 y136 k131 zlZ140.1 zoZ.1 | omega) (by first | exact tg9 y137 k132 zlZ140.2.1 zoZ.2.1 | omega) ?_
    have hl : lv_has ls 2 [(0, .ref (ad 5)), (1, .ref (Z140.fa gf))] := by rw [zlZ140.2.2.2.2 gf hgf]; exact hl
    have t142 : MJ V138 Z140 b := t142
    refine W.know (fun kr1 kr2 => ?_)
    refine W.widen (k := zcc Z) (n := zss Z) (Nat.sub_le _ _) (Nat.sub_le _ _) ?_
    exact W.vret hx hb hr (fun t ht hW => ⟨⟨(V138, L, Z140), rfl, ⟨hMV138, agV138, rfl, zoZ140, t142⟩, ⟨by rw [ht]; exact hP, va_K.moved hW.alike hK, hD⟩, by rw [ht]; exact kr1, by rw [ht]; exact kr2⟩, hS.F ht⟩) hS.2.2 dX5_goOnWorking_14
end
section
theorem w1251 : Cond.constant RX5 70 1000000 ∈ GW := gw_k tk9_5 136 (by decide +kernel) rfl
theorem w1255 : Cond.code yX5_goOnGetting cX5_goOnGetting 2 none ∈ GW := gw_k tk9_5 140 (rfl) rfl
theorem w1252 : Cond.methodLink RX5 74 yX5_goOnGetting ∈ GW := gw_k tk9_5 137 (by decide +kernel) rfl
theorem w1254 : Cond.instanceMethod yX5_goOnGetting ∈ GW := gw_k tk9_5 139 (by decide +kernel) rfl
theorem w44 : Cond.selects RX5 yX5_goOnGetting yX5_goOnGetting ∈ GW := gw_mem 44 (by decide +kernel) rfl
theorem hdV_yX5_goOnGetting : yX5_goOnGetting.cls = RX5 ∧ yX5_goOnGetting.cls ≠ "java/lang/invoke/MethodHandle" ∧ yX5_goOnGetting.cls ≠ "java/lang/invoke/VarHandle" ∧ (parseMethodDescriptor yX5_goOnGetting.desc).map (fun d => d.parameters.length) = some 1 := by decide +kernel
theorem w1331 : Cond.code yX5_goOnMaking cX5_goOnMaking 5 none ∈ GW := gw_k tk9_5 216 (rfl) rfl
theorem w1328 : Cond.methodLink RX5 78 yX5_goOnMaking ∈ GW := gw_k tk9_5 213 (by decide +kernel) rfl
theorem w1330 : Cond.instanceMethod yX5_goOnMaking ∈ GW := gw_k tk9_5 215 (by decide +kernel) rfl
theorem w53 : Cond.selects RX5 yX5_goOnMaking yX5_goOnMaking ∈ GW := gw_mem 53 (by decide +kernel) rfl
theorem hdV_yX5_goOnMaking : yX5_goOnMaking.cls = RX5 ∧ yX5_goOnMaking.cls ≠ "java/lang/invoke/MethodHandle" ∧ yX5_goOnMaking.cls ≠ "java/lang/invoke/VarHandle" ∧ (parseMethodDescriptor yX5_goOnMaking.desc).map (fun d => d.parameters.length) = some 1 := by decide +kernel
theorem w1383 : Cond.code yX5_goOnCalling cX5_goOnCalling 3 none ∈ GW := gw_k tk9_6 28 (rfl) rfl
theorem w1380 : Cond.methodLink RX5 81 yX5_goOnCalling ∈ GW := gw_k tk9_6 25 (by decide +kernel) rfl
theorem w1382 : Cond.instanceMethod yX5_goOnCalling ∈ GW := gw_k tk9_6 27 (by decide +kernel) rfl
theorem w58 : Cond.selects RX5 yX5_goOnCalling yX5_goOnCalling ∈ GW := gw_mem 58 (by decide +kernel) rfl
theorem hdV_yX5_goOnCalling : yX5_goOnCalling.cls = RX5 ∧ yX5_goOnCalling.cls ≠ "java/lang/invoke/MethodHandle" ∧ yX5_goOnCalling.cls ≠ "java/lang/invoke/VarHandle" ∧ (parseMethodDescriptor yX5_goOnCalling.desc).map (fun d => d.parameters.length) = some 1 := by decide +kernel
theorem w1414 : Cond.code yX5_goOnInside cX5_goOnInside 2 none ∈ GW := gw_k tk9_6 59 (rfl) rfl
theorem w1411 : Cond.methodLink RX5 84 yX5_goOnInside ∈ GW := gw_k tk9_6 56 (by decide +kernel) rfl
theorem w1413 : Cond.instanceMethod yX5_goOnInside ∈ GW := gw_k tk9_6 58 (by decide +kernel) rfl
theorem w63 : Cond.selects RX5 yX5_goOnInside yX5_goOnInside ∈ GW := gw_mem 63 (by decide +kernel) rfl
theorem hdV_yX5_goOnInside : yX5_goOnInside.cls = RX5 ∧ yX5_goOnInside.cls ≠ "java/lang/invoke/MethodHandle" ∧ yX5_goOnInside.cls ≠ "java/lang/invoke/VarHandle" ∧ (parseMethodDescriptor yX5_goOnInside.desc).map (fun d => d.parameters.length) = some 1 := by decide +kernel
theorem w1434 : Cond.code yX5_goOnWorking cX5_goOnWorking 2 none ∈ GW := gw_k tk9_6 79 (rfl) rfl
theorem w1431 : Cond.methodLink RX5 87 yX5_goOnWorking ∈ GW := gw_k tk9_6 76 (by decide +kernel) rfl
theorem w1433 : Cond.instanceMethod yX5_goOnWorking ∈ GW := gw_k tk9_6 78 (by decide +kernel) rfl
theorem w67 : Cond.selects RX5 yX5_goOnWorking yX5_goOnWorking ∈ GW := gw_mem 67 (by decide +kernel) rfl
theorem hdV_yX5_goOnWorking : yX5_goOnWorking.cls = RX5 ∧ yX5_goOnWorking.cls ≠ "java/lang/invoke/MethodHandle" ∧ yX5_goOnWorking.cls ≠ "java/lang/invoke/VarHandle" ∧ (parseMethodDescriptor yX5_goOnWorking.desc).map (fun d => d.parameters.length) = some 1 := by decide +kernel
theorem w1496 : Cond.code yX5_goOnClosing cX5_goOnClosing 4 none ∈ GW := gw_k tk9_6 141 (rfl) rfl
theorem w1493 : Cond.methodLink RX5 90 yX5_goOnClosing ∈ GW := gw_k tk9_6 138 (by decide +kernel) rfl
theorem w1495 : Cond.instanceMethod yX5_goOnClosing ∈ GW := gw_k tk9_6 140 (by decide +kernel) rfl
theorem w78 : Cond.selects RX5 yX5_goOnClosing yX5_goOnClosing ∈ GW := gw_mem 78 (by decide +kernel) rfl
theorem hdV_yX5_goOnClosing : yX5_goOnClosing.cls = RX5 ∧ yX5_goOnClosing.cls ≠ "java/lang/invoke/MethodHandle" ∧ yX5_goOnClosing.cls ≠ "java/lang/invoke/VarHandle" ∧ (parseMethodDescriptor yX5_goOnClosing.desc).map (fun d => d.parameters.length) = some 1 := by decide +kernel
theorem dk9_dX5_run_0_0 : dOk cX5_run [(0, .iconst 0, 1), (1, .istore_n 1, 1), (2, .iload_n 1, 1), (3, .ldc 70, 2), (5, .if_icmp .ge 110, 3), (115, .return_, 1), (8, .aload_n 0, 1), (9, .getfield 39, 3), (12, .ifCond .le 103, 3), (15, .aload_n 0, 1), (16, .getfield 13, 3), (19, .aload_n 0, 1), (20, .getfield 39, 3), (23, .iconst 1, 1), (24, .isub, 1), (25, .aaload, 1), (26, .astore_n 2, 1), (27, .aload_n 2, 1), (28, .getfield 71, 3), (31, .tableswitch 73 0 4 #[33, 41, 49, 57, 65], 33), (64, .aload_n 0, 1), (65, .aload_n 2, 1), (66, .invokevirtual 74, 3), (69, .goto 40, 3)] = true ∧ dOk cX5_run [(109, .iinc 1 1, 3), (112, .goto (-110), 3), (72, .aload_n 0, 1), (73, .aload_n 2, 1), (74, .invokevirtual 78, 3), (77, .goto 32, 3), (80, .aload_n 0, 1), (81, .aload_n 2, 1), (82, .invokevirtual 81, 3), (85, .goto 24, 3), (88, .aload_n 0, 1), (89, .aload_n 2, 1), (90, .invokevirtual 84, 3), (93, .goto 16, 3), (96, .aload_n 0, 1), (97, .aload_n 2, 1), (98, .invokevirtual 87, 3), (101, .goto 8, 3), (104, .aload_n 0, 1), (105, .aload_n 2, 1), (106, .invokevirtual 90, 3)] = true := by decide +kernel
theorem dX5_run_0 : decode cX5_run 0 = .ok (.iconst 0, 1) := dr9 dk9_dX5_run_0_0.1 0 (0, .iconst 0, 1) rfl
theorem dX5_run_1 : decode cX5_run 1 = .ok (.istore_n 1, 1) := dr9 dk9_dX5_run_0_0.1 1 (1, .istore_n 1, 1) rfl
theorem dX5_run_2 : decode cX5_run 2 = .ok (.iload_n 1, 1) := dr9 dk9_dX5_run_0_0.1 2 (2, .iload_n 1, 1) rfl
theorem dX5_run_3 : decode cX5_run 3 = .ok (.ldc 70, 2) := dr9 dk9_dX5_run_0_0.1 3 (3, .ldc 70, 2) rfl
theorem dX5_run_5 : decode cX5_run 5 = .ok (.if_icmp .ge 110, 3) := dr9 dk9_dX5_run_0_0.1 4 (5, .if_icmp .ge 110, 3) rfl
theorem dX5_run_115 : decode cX5_run 115 = .ok (.return_, 1) := dr9 dk9_dX5_run_0_0.1 5 (115, .return_, 1) rfl
theorem dX5_run_8 : decode cX5_run 8 = .ok (.aload_n 0, 1) := dr9 dk9_dX5_run_0_0.1 6 (8, .aload_n 0, 1) rfl
theorem dX5_run_9 : decode cX5_run 9 = .ok (.getfield 39, 3) := dr9 dk9_dX5_run_0_0.1 7 (9, .getfield 39, 3) rfl
theorem dX5_run_12 : decode cX5_run 12 = .ok (.ifCond .le 103, 3) := dr9 dk9_dX5_run_0_0.1 8 (12, .ifCond .le 103, 3) rfl
theorem dX5_run_15 : decode cX5_run 15 = .ok (.aload_n 0, 1) := dr9 dk9_dX5_run_0_0.1 9 (15, .aload_n 0, 1) rfl
theorem dX5_run_16 : decode cX5_run 16 = .ok (.getfield 13, 3) := dr9 dk9_dX5_run_0_0.1 10 (16, .getfield 13, 3) rfl
theorem dX5_run_19 : decode cX5_run 19 = .ok (.aload_n 0, 1) := dr9 dk9_dX5_run_0_0.1 11 (19, .aload_n 0, 1) rfl
theorem dX5_run_20 : decode cX5_run 20 = .ok (.getfield 39, 3) := dr9 dk9_dX5_run_0_0.1 12 (20, .getfield 39, 3) rfl
theorem dX5_run_23 : decode cX5_run 23 = .ok (.iconst 1, 1) := dr9 dk9_dX5_run_0_0.1 13 (23, .iconst 1, 1) rfl
theorem dX5_run_24 : decode cX5_run 24 = .ok (.isub, 1) := dr9 dk9_dX5_run_0_0.1 14 (24, .isub, 1) rfl
theorem dX5_run_25 : decode cX5_run 25 = .ok (.aaload, 1) := dr9 dk9_dX5_run_0_0.1 15 (25, .aaload, 1) rfl
theorem dX5_run_26 : decode cX5_run 26 = .ok (.astore_n 2, 1) := dr9 dk9_dX5_run_0_0.1 16 (26, .astore_n 2, 1) rfl
theorem dX5_run_27 : decode cX5_run 27 = .ok (.aload_n 2, 1) := dr9 dk9_dX5_run_0_0.1 17 (27, .aload_n 2, 1) rfl
theorem dX5_run_28 : decode cX5_run 28 = .ok (.getfield 71, 3) := dr9 dk9_dX5_run_0_0.1 18 (28, .getfield 71, 3) rfl
theorem dX5_run_31 : decode cX5_run 31 = .ok (.tableswitch 73 0 4 #[33, 41, 49, 57, 65], 33) := dr9 dk9_dX5_run_0_0.1 19 (31, .tableswitch 73 0 4 #[33, 41, 49, 57, 65], 33) rfl
theorem dX5_run_64 : decode cX5_run 64 = .ok (.aload_n 0, 1) := dr9 dk9_dX5_run_0_0.1 20 (64, .aload_n 0, 1) rfl
theorem dX5_run_65 : decode cX5_run 65 = .ok (.aload_n 2, 1) := dr9 dk9_dX5_run_0_0.1 21 (65, .aload_n 2, 1) rfl
theorem dX5_run_66 : decode cX5_run 66 = .ok (.invokevirtual 74, 3) := dr9 dk9_dX5_run_0_0.1 22 (66, .invokevirtual 74, 3) rfl
theorem dX5_run_69 : decode cX5_run 69 = .ok (.goto 40, 3) := dr9 dk9_dX5_run_0_0.1 23 (69, .goto 40, 3) rfl
theorem dX5_run_109 : decode cX5_run 109 = .ok (.iinc 1 1, 3) := dr9 dk9_dX5_run_0_0.2 0 (109, .iinc 1 1, 3) rfl
theorem dX5_run_112 : decode cX5_run 112 = .ok (.goto (-110), 3) := dr9 dk9_dX5_run_0_0.2 1 (112, .goto (-110), 3) rfl
theorem dX5_run_72 : decode cX5_run 72 = .ok (.aload_n 0, 1) := dr9 dk9_dX5_run_0_0.2 2 (72, .aload_n 0, 1) rfl
theorem dX5_run_73 : decode cX5_run 73 = .ok (.aload_n 2, 1) := dr9 dk9_dX5_run_0_0.2 3 (73, .aload_n 2, 1) rfl
theorem dX5_run_74 : decode cX5_run 74 = .ok (.invokevirtual 78, 3) := dr9 dk9_dX5_run_0_0.2 4 (74, .invokevirtual 78, 3) rfl
theorem dX5_run_77 : decode cX5_run 77 = .ok (.goto 32, 3) := dr9 dk9_dX5_run_0_0.2 5 (77, .goto 32, 3) rfl
theorem dX5_run_80 : decode cX5_run 80 = .ok (.aload_n 0, 1) := dr9 dk9_dX5_run_0_0.2 6 (80, .aload_n 0, 1) rfl
theorem dX5_run_81 : decode cX5_run 81 = .ok (.aload_n 2, 1) := dr9 dk9_dX5_run_0_0.2 7 (81, .aload_n 2, 1) rfl
theorem dX5_run_82 : decode cX5_run 82 = .ok (.invokevirtual 81, 3) := dr9 dk9_dX5_run_0_0.2 8 (82, .invokevirtual 81, 3) rfl
theorem dX5_run_85 : decode cX5_run 85 = .ok (.goto 24, 3) := dr9 dk9_dX5_run_0_0.2 9 (85, .goto 24, 3) rfl
theorem dX5_run_88 : decode cX5_run 88 = .ok (.aload_n 0, 1) := dr9 dk9_dX5_run_0_0.2 10 (88, .aload_n 0, 1) rfl
theorem dX5_run_89 : decode cX5_run 89 = .ok (.aload_n 2, 1) := dr9 dk9_dX5_run_0_0.2 11 (89, .aload_n 2, 1) rfl
theorem dX5_run_90 : decode cX5_run 90 = .ok (.invokevirtual 84, 3) := dr9 dk9_dX5_run_0_0.2 12 (90, .invokevirtual 84, 3) rfl
theorem dX5_run_93 : decode cX5_run 93 = .ok (.goto 16, 3) := dr9 dk9_dX5_run_0_0.2 13 (93, .goto 16, 3) rfl
theorem dX5_run_96 : decode cX5_run 96 = .ok (.aload_n 0, 1) := dr9 dk9_dX5_run_0_0.2 14 (96, .aload_n 0, 1) rfl
theorem dX5_run_97 : decode cX5_run 97 = .ok (.aload_n 2, 1) := dr9 dk9_dX5_run_0_0.2 15 (97, .aload_n 2, 1) rfl
theorem dX5_run_98 : decode cX5_run 98 = .ok (.invokevirtual 87, 3) := dr9 dk9_dX5_run_0_0.2 16 (98, .invokevirtual 87, 3) rfl
theorem dX5_run_101 : decode cX5_run 101 = .ok (.goto 8, 3) := dr9 dk9_dX5_run_0_0.2 17 (101, .goto 8, 3) rfl
theorem dX5_run_104 : decode cX5_run 104 = .ok (.aload_n 0, 1) := dr9 dk9_dX5_run_0_0.2 18 (104, .aload_n 0, 1) rfl
theorem dX5_run_105 : decode cX5_run 105 = .ok (.aload_n 2, 1) := dr9 dk9_dX5_run_0_0.2 19 (105, .aload_n 2, 1) rfl
theorem dX5_run_106 : decode cX5_run 106 = .ok (.invokevirtual 90, 3) := dr9 dk9_dX5_run_0_0.2 20 (106, .invokevirtual 90, 3) rfl
abbrev r_x_run (Z : XZ) : Room := { frames := 7, cells := zcc Z, slots := zss Z, locals := 159 }
abbrev q_x_run (D : va_G) (ks : KS) (ad : Nat → Nat) (kk : Nat → ClassId) (V : Vf) (L : Lf) (Z : XZ) (b : Nat) (A : Nat → Prop) : Array Value → State → Outcome → State → Prop := qZv D (fun (u : Vf × Lf × XZ) => rgd bX u.1 ∧ agr [(3, 13), (3, 14), (3, 15), (4, 5), (4, 6), (5, 6), (5, 7), (5, 8), (5, 9), (5, 10), (5, 11), (5, 12), (5, 13), (5, 14)] [24, 25, 26, 27, 28, 29, 30, 31, 32, 33, 34, 35, 36, 37, 39, 40, 67, 68, 69, 70, 71, 72, 73, 74, 75, 76, 77, 78, 79, 80, 81, 82, 83, 84, 85] V u.1 ∧ u.2.1 = L ∧ ZL Z u.2.2 ∧ (MJ u.1 u.2.2 b)) (fun u => xw ad kk u.1 u.2.1 u.2.2) (fun u => xty kk u.2.2) (fun u => zcc Z - zcc u.2.2) (fun u => zss Z - zss u.2.2) A
set_option maxHeartbeats 4000000 in
set_option maxRecDepth 100000 in
theorem x_run (l : Launch) (D : va_G) (ks : KS) (sz : Nat) (ad : Nat → Nat) (kk : Nat → ClassId) (V : Vf) (L : Lf) (Z : XZ) (b : Nat) (hMV : rgd bX V) (hb2 : b < 2) (mj : MJ V Z b)  : Met l yX5_run (Cond.code yX5_run cX5_run 3 none :: GW) (r_x_run Z) (va_Pc [.ref (ad 5)] (gp D ks (xw ad kk V L Z) (xty kk Z) sz)) (q_x_run D ks ad kk V L Z  b (va_A (xw ad kk V L Z) sz)) (zcc Z) (zss Z) (va_A (xw ad kk V L Z) sz) := by
  refine g_met (q_x_run D ks ad kk V L Z  b) (by decide) (Nat.le_of_ble_eq_true rfl) ?_
  intro p e s m below meth c A ls H locs hx hb hr hml hown hg hlocks hin hnw hgk hP hK hD hS hA hl
  have hown : s.vm.findClass RX5 = some m.cls := hown
  have hl : lv_has ls 3 [(0, .ref (ad 5))] := hl
  have hP : va_P D vwCl (xw ad kk V L Z) H := hP
  have hD : va_D A (xw ad kk V L Z) := hD
  have hK : va_K D vwCl (xty kk Z) s := hK
  have agV : agr [(3, 13), (3, 14), (3, 15), (4, 5), (4, 6), (5, 6), (5, 7), (5, 8), (5, 9), (5, 10), (5, 11), (5, 12), (5, 13), (5, 14)] [24, 25, 26, 27, 28, 29, 30, 31, 32, 33, 34, 35, 36, 37, 39, 40, 67, 68, 69, 70, 71, 72, 73, 74, 75, 76, 77, 78, 79, 80, 81, 82, 83, 84, 85] V V := agr.rf
  have zoZ : ZL Z Z := ZL.rf
  refine W.know (fun ka kb => ?_)
  refine W.tight (k := zcc Z - zcc Z) (n := zss Z - zss Z) (by omega) (by omega) ?_
  refine lv_iconst (v := 0) hx hb dX5_run_0 (by decide) ?_
  refine lv_istore_n (lv' := [(1, .int 0), (0, .ref (ad 5))]) hx hb dX5_run_1 rfl hl (by decide) rfl (fun ls hl => ?_)
  have lp4 : ∀ (fulp4 : Nat) (y1 : Int32) (V2 : Vf) (Z3 : XZ) (H : Heap) (locs : List Loc) (ls : Array Slot), 0 ≤ y1.toInt ∧ y1.toInt ≤ 1000000 → MJ V2 Z3 b → 1000000 - y1.toInt < (fulp4 : Int) → agr [(3, 13), (3, 14), (3, 15), (4, 5), (4, 6), (5, 6), (5, 7), (5, 8), (5, 9), (5, 10), (5, 11), (5, 12), (5, 13), (5, 14)] [24, 25, 26, 27, 28, 29, 30, 31, 32, 33, 34, 35, 36, 37, 39, 40, 67, 68, 69, 70, 71, 72, 73, 74, 75, 76, 77, 78, 79, 80, 81, 82, 83, 84, 85] V V2 → rgd bX V2 → ZL Z Z3 → va_K D vwCl (xty kk Z3) s → va_P D vwCl (xw ad kk V2 L Z3) H → va_D A (xw ad kk V2 L Z3) → va_S A s.heap H locs → lv_has ls 3 [(1, .int y1), (0, .ref (ad 5))] → W p l e (r_x_run Z) s m ([.ref (ad 5)] : List Value).toArray below meth c H locs (zcc Z - zcc Z3) (zss Z - zss Z3) (MQ below (q_x_run D ks ad kk V L Z  b A) ([.ref (ad 5)] : List Value).toArray s (zcc Z) (zss Z) A) (F0 m 2 ls []) := by
    intro fulp4
    induction fulp4 with
    | zero =>
      intro y1 V2 Z3 H locs ls klp4_0 xlp4_0 hn ajV2 hMV2 zoZ3 hK hP hD hS hl
      exfalso; (first | exact om_13e3f9559dcb klp4_0.2 hn | omega)
    | succ fulp4 ihlp4 =>
      intro y1 V2 Z3 H locs ls klp4_0 xlp4_0 hn ajV2 hMV2 zoZ3 hK hP hD hS hl
      have agV2 : agr [(3, 13), (3, 14), (3, 15), (4, 5), (4, 6), (5, 6), (5, 7), (5, 8), (5, 9), (5, 10), (5, 11), (5, 12), (5, 13), (5, 14)] [24, 25, 26, 27, 28, 29, 30, 31, 32, 33, 34, 35, 36, 37, 39, 40, 67, 68, 69, 70, 71, 72, 73, 74, 75, 76, 77, 78, 79, 80, 81, 82, 83, 84, 85] V V2 := agV.tr ajV2 (by decide) (by decide)
      have zmZ3 := zoZ3.1
      have znZ3 := zoZ3.2.1
      refine lv_iload_n hx hb dX5_run_2 rfl (lv_at hl 0 rfl) ?_
      refine lv_ldc (v := 1000000) hx hb hown (hg _ w1251) dX5_run_3 ?_
      refine lv_icmp_ge (tgt := 115) hx hb dX5_run_5 (by decide) (fun c5 => ?_) (fun c5 => ?_)
      · skip
        have f6 : 1000000 ≤ y1.toInt := b_le (by decide) rfl c5
        refine W.know (fun kr1 kr2 => ?_)
        refine W.widen (k := zcc Z) (n := zss Z) (Nat.sub_le _ _) (Nat.sub_le _ _) ?_
        exact W.vret hx hb hr (fun t ht hW => ⟨⟨(V2, L, Z3), rfl, ⟨hMV2, agV2, rfl, zoZ3, xlp4_0⟩, ⟨by rw [ht]; exact hP, va_K.moved hW.alike hK, hD⟩, by rw [ht]; exact kr1, by rw [ht]; exact kr2⟩, hS.F ht⟩) hS.2.2 dX5_run_115
      · skip
        have f7 : y1.toInt < 1000000 := b_nle (by decide) rfl c5
        refine lv_aload_n hx hb dX5_run_8 rfl (lv_at hl 1 rfl) ?_
        refine va_get (D := D) (ci := 5) (v := .int (V2 5 6)) (fs := (xfMachine ad V2 L Z3)) (C := RX5) (T := TX5) (N := 15) hx hb hg inX5 hown hK hP 5 xgMachine rfl 6 (by decide) (hg _ w673) (fun _ h9 => h9) rfl dX5_run_9 ?_
        have r8 : 0 ≤ ((V2 5 6)).toInt ∧ ((V2 5 6)).toInt ≤ 400 := hMV2 5 6
        refine lv_if_le (tgt := 115) hx hb dX5_run_12 (by decide) (fun c9 => ?_) (fun c9 => ?_)
        · skip
          have f10 : ((V2 5 6)).toInt ≤ 0 := b_le rfl (by decide) c9
          refine W.know (fun kr1 kr2 => ?_)
          refine W.widen (k := zcc Z) (n := zss Z) (Nat.sub_le _ _) (Nat.sub_le _ _) ?_
          exact W.vret hx hb hr (fun t ht hW => ⟨⟨(V2, L, Z3), rfl, ⟨hMV2, agV2, rfl, zoZ3, xlp4_0⟩, ⟨by rw [ht]; exact hP, va_K.moved hW.alike hK, hD⟩, by rw [ht]; exact kr1, by rw [ht]; exact kr2⟩, hS.F ht⟩) hS.2.2 dX5_run_115
        · skip
          have f11 : 0 < ((V2 5 6)).toInt := b_nle rfl (by decide) c9
          have hdn := MJ.dn xlp4_0 (by (first | exact om_610a4af05d44 f11 | omega))
          refine lv_aload_n hx hb dX5_run_15 rfl (lv_at hl 1 rfl) ?_
          refine va_get (D := D) (ci := 5) (v := .ref (ad 35)) (fs := (xfMachine ad V2 L Z3)) (C := RX5) (T := TX5) (N := 15) hx hb hg inX5 hown hK hP 5 xgMachine rfl 2 (by decide) (hg _ w669) (fun _ h9 => h9) rfl dX5_run_16 ?_
          refine lv_aload_n hx hb dX5_run_19 rfl (lv_at hl 1 rfl) ?_
          refine va_get (D := D) (ci := 5) (v := .int (V2 5 6)) (fs := (xfMachine ad V2 L Z3)) (C := RX5) (T := TX5) (N := 15) hx hb hg inX5 hown hK hP 5 xgMachine rfl 6 (by decide) (hg _ w673) (fun _ h9 => h9) rfl dX5_run_20 ?_
          refine lv_iconst (v := 1) hx hb dX5_run_23 (by decide) ?_
          refine lv_isub hx hb dX5_run_24 ?_
          refine lv_topi (fun z12 ez12 => ?_)
          have hz12 : z12.toInt = ((V2 5 6)).toInt - 1 := i_sub ez12 rfl (by decide) (by (first | exact om_3d6fa717bec1 r8.2 f11 | omega))
          refine va_aldq (D := D) (i := z12) hx hb hK hP 35 28 rfl rfl (i_in (a := z12.toInt) rfl (by (first | exact om_138cba0bf25b r8.2 f11 hz12 | omega))) dX5_run_25 ?_
          have kc13 := i_clamp (x := z12) rfl (by (first | exact om_9271d0948665 f11 hz12 | omega))
          refine g_topv (v := .ref (Z3.fa (Int32.toNatClampNeg z12))) (by exact congrArg va_rf (if_pos (by omega))) ?_
          have il14 : (Int32.toNatClampNeg z12) < Z3.nf := by (first | exact om_ea4c74f9597c hdn.1 hz12 kc13 | omega)
          refine lv_astore_n (lv' := [(2, .ref (Z3.fa (Int32.toNatClampNeg z12))), (1, .int y1), (0, .ref (ad 5))]) hx hb dX5_run_26 rfl hl (by decide) rfl (fun ls hl => ?_)
          refine lv_aload_n hx hb dX5_run_27 rfl (lv_at hl 0 rfl) ?_
          refine va_getN (D := D) (ci := 4) (v := .int (V2 67 (Int32.toNatClampNeg z12))) (fs := (xfFrame V2 (Int32.toNatClampNeg z12))) (C := RX4) (T := TX4) (N := 19) hx hb hg inX4 hown hK hP (336 + (Int32.toNatClampNeg z12)) (xgFrame il14) rfl 0 (by decide) (hnw.use 1189 n1189 rfl) (fun _ h9 => h9) rfl dX5_run_28 ?_
          by_cases q15 : (V2 67 (Int32.toNatClampNeg z12)) = 0
          · refine g_top (v := 0) q15 ?_
            have fq15 : ((V2 67 (Int32.toNatClampNeg z12))).toInt = 0 := b_eq rfl (by decide) q15
            refine lv_tableIn (x := 0) (off := 33) (tgt := 64) hx hb dX5_run_31 (by decide) (by decide) (by decide) (by decide) ?_
            refine lv_aload_n hx hb dX5_run_64 rfl (lv_at hl 2 rfl) ?_
            refine lv_aload_n hx hb dX5_run_65 rfl (lv_at hl 0 rfl) ?_
            refine W.know (fun k17 k18 => ?_)
            obtain ⟨Hk16, hHk16⟩ : ∃ z, z = H := ⟨_, rfl⟩
            have k17 : Hk16.size ≤ s.heap.size + (zcc Z - zcc Z3) := by rw [hHk16]; exact k17
            have k18 : tot Hk16 ≤ tot s.heap + (zss Z - zss Z3) := by rw [hHk16]; exact k18
            refine gZ_void (gA_runV (As := [.ref (Z3.fa (Int32.toNatClampNeg z12))]) (rest := []) (ci := 5) (q0 := 5) hx hb hml hown hg hP hD hK hS hA hnw hgk (x_goOnGetting l D ks H.size ad kk V2 L Z3 (b) ((Int32.toNatClampNeg z12)) hMV2 (show b < 2 from by (first | exact om_f940a4667dd6 hb2 | omega)) (show (Int32.toNatClampNeg z12) < Z3.nf from by (first | exact om_8c5722e49bb1 il14 | omega)) (MJ.op (d := (Int32.toNatClampNeg z12)) xlp4_0 (by omega)) (show ((Int32.toNatClampNeg z12) : Int) + 1 = (V2 5 6).toInt from by (first | exact om_c968828d0a40 hz12 kc13 | omega)) (show (V2 67 (Int32.toNatClampNeg z12)).toInt = 0 from by (first | exact om_b66ba74381d5 fq15 | omega))) w1252 w1254 w44 w171 w1255 rfl xgMachine hdV_yX5_goOnGetting ⟨Nat.le_of_ble_eq_true rfl, Nat.le_of_ble_eq_true rfl⟩ rfl hl.1 rfl (Nat.le_of_ble_eq_true rfl) dX5_run_66 ⟨z1 zoZ3.1, z1 zoZ3.2.1⟩) hD hS hA (fun u20 H locs w21 hP hD hK hS y22 y23 => ?_)
            obtain ⟨V24, L25, Z26⟩ := u20
            obtain ⟨hMV24, ajV24, axL25, zlZ26, t28⟩ := w21
            have axL25 : L = L25 := Eq.symm axL25
            subst axL25
            have hP : va_P D vwCl (xw ad kk V24 L Z26) H := hP
            have hD : va_D A (xw ad kk V24 L Z26) := hD
            have hK : va_K D vwCl (xty kk Z26) s := hK
            have hMV24 : rgd bX V24 := hMV24
            have ajV24 : agr [(3, 13), (5, 6), (5, 8), (5, 9), (5, 10), (5, 11), (5, 12), (5, 13), (5, 14)] [25, 26, 27, 28, 30, 67, 68, 69, 70, 71, 72, 73, 74, 75, 76, 77, 78, 79, 80, 81, 82, 83, 84, 85] V2 V24 := ajV24
            have agV24 : agr [(3, 13), (3, 14), (3, 15), (4, 5), (4, 6), (5, 6), (5, 7), (5, 8), (5, 9), (5, 10), (5, 11), (5, 12), (5, 13), (5, 14)] [24, 25, 26, 27, 28, 29, 30, 31, 32, 33, 34, 35, 36, 37, 39, 40, 67, 68, 69, 70, 71, 72, 73, 74, 75, 76, 77, 78, 79, 80, 81, 82, 83, 84, 85] V V24 := agV2.tr ajV24 (by decide) (by decide)
            have zlZ26 : ZL Z3 Z26 := zlZ26
            have zoZ26 : ZL Z Z26 := ZL.tr zoZ3 zlZ26
            have ziZ26 := zlZ26.1
            have zjZ26 := zlZ26.2.1
            have zkZ26 := zlZ26.2.2.1
            have zmZ26 := zoZ26.1
            have znZ26 := zoZ26.2.1
            have zpZ3_Z26 := zoZ3.1
            have zqZ3_Z26 := zoZ3.2.1
            have y22 : H.size ≤ Hk16.size + (zcc Z3 - zcc Z26) := by rw [hHk16]; exact y22
            have y23 : tot H ≤ tot Hk16 + (zss Z3 - zss Z26) := by rw [hHk16]; exact y23
            refine W.tight (k := zcc Z - zcc Z26) (n := zss Z - zss Z26) (by first | exact tg9 y22 k17 zlZ26.1 zoZ3.1 | omega) (by first | exact tg9 y23 k18 zlZ26.2.1 zoZ3.2.1 | omega) ?_
            have hl : lv_has ls 3 [(2, .ref (Z26.fa (Int32.toNatClampNeg z12))), (1, .int y1), (0, .ref (ad 5))] := by rw [zlZ26.2.2.2.2 (Int32.toNatClampNeg z12) il14]; exact hl
            have t28 : MJ V24 Z26 b := t28
            refine lv_goto (tgt := 109) hx hb dX5_run_69 (by decide) ?_
            obtain ⟨z29, ez29⟩ : ∃ y : Int32, y = y1 + 1 := ⟨_, rfl⟩
            have hz29 : z29.toInt = y1.toInt + 1 := i_add ez29 rfl (by decide) (by (first | exact om_7cfca28772a4 klp4_0.1 f7 | omega))
            refine lv_iinc (v := z29) (lv' := [(1, .int z29), (2, .ref (Z26.fa (Int32.toNatClampNeg z12))), (0, .ref (ad 5))]) hx hb dX5_run_109 hl (k := 1) rfl (by rw [ez29]; rfl) (by decide) rfl (fun ls hl => ?_)
            refine lv_goto (tgt := 2) hx hb dX5_run_112 (by decide) ?_
            exact ihlp4 z29 V24 Z26 H locs ls (by (first | exact om_6036b630f734 klp4_0.1 f7 hz29 | omega)) t28 (by (first | exact om_4c597ccc4a45 hn hz29 | omega)) (agr.tr (agr.tr agr.rf ajV2 (by decide) (by decide)) ajV24 (by decide) (by decide)) hMV24 zoZ26 hK hP hD hS (lv_sub hl [0, 2] rfl)
          have gq15 : ((V2 67 (Int32.toNatClampNeg z12))).toInt ≠ 0 := b_neq rfl (by decide) q15
          by_cases q30 : (V2 67 (Int32.toNatClampNeg z12)) = 1
          · refine g_top (v := 1) q30 ?_
            have fq30 : ((V2 67 (Int32.toNatClampNeg z12))).toInt = 1 := b_eq rfl (by decide) q30
            refine lv_tableIn (x := 1) (off := 41) (tgt := 72) hx hb dX5_run_31 (by decide) (by decide) (by decide) (by decide) ?_
            refine lv_aload_n hx hb dX5_run_72 rfl (lv_at hl 2 rfl) ?_
            refine lv_aload_n hx hb dX5_run_73 rfl (lv_at hl 0 rfl) ?_
            refine W.know (fun k32 k33 => ?_)
            obtain ⟨Hk31, hHk31⟩ : ∃ z, z = H := ⟨_, rfl⟩
            have k32 : Hk31.size ≤ s.heap.size + (zcc Z - zcc Z3) := by rw [hHk31]; exact k32
            have k33 : tot Hk31 ≤ tot s.heap + (zss Z - zss Z3) := by rw [hHk31]; exact k33
            refine gZ_void (gA_runV (As := [.ref (Z3.fa (Int32.toNatClampNeg z12))]) (rest := []) (ci := 5) (q0 := 5) hx hb hml hown hg hP hD hK hS hA hnw hgk (x_goOnMaking l D ks H.size ad kk V2 L Z3 (b) ((Int32.toNatClampNeg z12)) hMV2 (show b < 2 from by (first | exact om_f940a4667dd6 hb2 | omega)) (show (Int32.toNatClampNeg z12) < Z3.nf from by (first | exact om_8c5722e49bb1 il14 | omega)) (MJ.op (d := (Int32.toNatClampNeg z12)) xlp4_0 (by omega)) (show ((Int32.toNatClampNeg z12) : Int) + 1 = (V2 5 6).toInt from by (first | exact om_c968828d0a40 hz12 kc13 | omega)) (show (V2 67 (Int32.toNatClampNeg z12)).toInt = 1 from by (first | exact om_710535a98d88 fq30 | omega))) w1328 w1330 w53 w171 w1331 rfl xgMachine hdV_yX5_goOnMaking ⟨Nat.le_of_ble_eq_true rfl, Nat.le_of_ble_eq_true rfl⟩ rfl hl.1 rfl (Nat.le_of_ble_eq_true rfl) dX5_run_74 ⟨z1 zoZ3.1, z1 zoZ3.2.1⟩) hD hS hA (fun u35 H locs w36 hP hD hK hS y37 y38 => ?_)
            obtain ⟨V39, L40, Z41⟩ := u35
            obtain ⟨hMV39, ajV39, axL40, zlZ41, t43⟩ := w36
            have axL40 : L = L40 := Eq.symm axL40
            subst axL40
            have hP : va_P D vwCl (xw ad kk V39 L Z41) H := hP
            have hD : va_D A (xw ad kk V39 L Z41) := hD
            have hK : va_K D vwCl (xty kk Z41) s := hK
            have hMV39 : rgd bX V39 := hMV39
            have ajV39 : agr [(3, 13), (3, 14), (3, 15), (5, 6), (5, 8), (5, 9), (5, 10), (5, 11), (5, 12), (5, 13), (5, 14)] [24, 25, 26, 27, 28, 29, 30, 31, 32, 40, 67, 68, 69, 70, 71, 72, 73, 74, 75, 76, 77, 78, 79, 80, 81, 82, 83, 84, 85] V2 V39 := ajV39
            have agV39 : agr [(3, 13), (3, 14), (3, 15), (4, 5), (4, 6), (5, 6), (5, 7), (5, 8), (5, 9), (5, 10), (5, 11), (5, 12), (5, 13), (5, 14)] [24, 25, 26, 27, 28, 29, 30, 31, 32, 33, 34, 35, 36, 37, 39, 40, 67, 68, 69, 70, 71, 72, 73, 74, 75, 76, 77, 78, 79, 80, 81, 82, 83, 84, 85] V V39 := agV2.tr ajV39 (by decide) (by decide)
            have zlZ41 : ZL Z3 Z41 := zlZ41
            have zoZ41 : ZL Z Z41 := ZL.tr zoZ3 zlZ41
            have ziZ41 := zlZ41.1
            have zjZ41 := zlZ41.2.1
            have zkZ41 := zlZ41.2.2.1
            have zmZ41 := zoZ41.1
            have znZ41 := zoZ41.2.1
            have zpZ3_Z41 := zoZ3.1
            have zqZ3_Z41 := zoZ3.2.1
            have y37 : H.size ≤ Hk31.size + (zcc Z3 - zcc Z41) := by rw [hHk31]; exact y37
            have y38 : tot H ≤ tot Hk31 + (zss Z3 - zss Z41) := by rw [hHk31]; exact y38
            refine W.tight (k := zcc Z - zcc Z41) (n := zss Z - zss Z41) (by first | exact tg9 y37 k32 zlZ41.1 zoZ3.1 | omega) (by first | exact tg9 y38 k33 zlZ41.2.1 zoZ3.2.1 | omega) ?_
            have hl : lv_has ls 3 [(2, .ref (Z41.fa (Int32.toNatClampNeg z12))), (1, .int y1), (0, .ref (ad 5))] := by rw [zlZ41.2.2.2.2 (Int32.toNatClampNeg z12) il14]; exact hl
            have t43 : MJ V39 Z41 b := t43
            refine lv_goto (tgt := 109) hx hb dX5_run_77 (by decide) ?_
            obtain ⟨z44, ez44⟩ : ∃ y : Int32, y = y1 + 1 := ⟨_, rfl⟩
            have hz44 : z44.toInt = y1.toInt + 1 := i_add ez44 rfl (by decide) (by (first | exact om_7cfca28772a4 klp4_0.1 f7 | omega))
            refine lv_iinc (v := z44) (lv' := [(1, .int z44), (2, .ref (Z41.fa (Int32.toNatClampNeg z12))), (0, .ref (ad 5))]) hx hb dX5_run_109 hl (k := 1) rfl (by rw [ez44]; rfl) (by decide) rfl (fun ls hl => ?_)
            refine lv_goto (tgt := 2) hx hb dX5_run_112 (by decide) ?_
            exact ihlp4 z44 V39 Z41 H locs ls (by (first | exact om_6036b630f734 klp4_0.1 f7 hz44 | omega)) t43 (by (first | exact om_4c597ccc4a45 hn hz44 | omega)) (agr.tr (agr.tr agr.rf ajV2 (by decide) (by decide)) ajV39 (by decide) (by decide)) hMV39 zoZ41 hK hP hD hS (lv_sub hl [0, 2] rfl)
          have gq30 : ((V2 67 (Int32.toNatClampNeg z12))).toInt ≠ 1 := b_neq rfl (by decide) q30
          by_cases q45 : (V2 67 (Int32.toNatClampNeg z12)) = 2
          · refine g_top (v := 2) q45 ?_
            have fq45 : ((V2 67 (Int32.toNatClampNeg z12))).toInt = 2 := b_eq rfl (by decide) q45
            refine lv_tableIn (x := 2) (off := 49) (tgt := 80) hx hb dX5_run_31 (by decide) (by decide) (by decide) (by decide) ?_
            refine lv_aload_n hx hb dX5_run_80 rfl (lv_at hl 2 rfl) ?_
            refine lv_aload_n hx hb dX5_run_81 rfl (lv_at hl 0 rfl) ?_
            refine W.know (fun k47 k48 => ?_)
            obtain ⟨Hk46, hHk46⟩ : ∃ z, z = H := ⟨_, rfl⟩
            have k47 : Hk46.size ≤ s.heap.size + (zcc Z - zcc Z3) := by rw [hHk46]; exact k47
            have k48 : tot Hk46 ≤ tot s.heap + (zss Z - zss Z3) := by rw [hHk46]; exact k48
            refine gZ_void (gA_runV (As := [.ref (Z3.fa (Int32.toNatClampNeg z12))]) (rest := []) (ci := 5) (q0 := 5) hx hb hml hown hg hP hD hK hS hA hnw hgk (x_goOnCalling l D ks H.size ad kk V2 L Z3 (b) ((Int32.toNatClampNeg z12)) hMV2 (show b < 2 from by (first | exact om_f940a4667dd6 hb2 | omega)) (show (Int32.toNatClampNeg z12) < Z3.nf from by (first | exact om_8c5722e49bb1 il14 | omega)) (MJ.op (d := (Int32.toNatClampNeg z12)) xlp4_0 (by omega)) (show ((Int32.toNatClampNeg z12) : Int) + 1 = (V2 5 6).toInt from by (first | exact om_c968828d0a40 hz12 kc13 | omega)) (show (V2 67 (Int32.toNatClampNeg z12)).toInt = 2 from by (first | exact om_6aa5e6f8c558 fq45 | omega))) w1380 w1382 w58 w171 w1383 rfl xgMachine hdV_yX5_goOnCalling ⟨Nat.le_of_ble_eq_true rfl, Nat.le_of_ble_eq_true rfl⟩ rfl hl.1 rfl (Nat.le_of_ble_eq_true rfl) dX5_run_82 ⟨z1 zoZ3.1, z1 zoZ3.2.1⟩) hD hS hA (fun u50 H locs w51 hP hD hK hS y52 y53 => ?_)
            obtain ⟨V54, L55, Z56⟩ := u50
            obtain ⟨hMV54, ajV54, axL55, zlZ56, t58⟩ := w51
            have axL55 : L = L55 := Eq.symm axL55
            subst axL55
            have hP : va_P D vwCl (xw ad kk V54 L Z56) H := hP
            have hD : va_D A (xw ad kk V54 L Z56) := hD
            have hK : va_K D vwCl (xty kk Z56) s := hK
            have hMV54 : rgd bX V54 := hMV54
            have ajV54 : agr [(4, 5), (5, 6), (5, 9), (5, 11), (5, 12), (5, 13), (5, 14)] [33, 34, 35, 67, 68, 69, 70, 71, 72, 73, 74, 75, 76, 77, 78, 79, 80, 81, 82, 83, 84, 85] V2 V54 := ajV54
            have agV54 : agr [(3, 13), (3, 14), (3, 15), (4, 5), (4, 6), (5, 6), (5, 7), (5, 8), (5, 9), (5, 10), (5, 11), (5, 12), (5, 13), (5, 14)] [24, 25, 26, 27, 28, 29, 30, 31, 32, 33, 34, 35, 36, 37, 39, 40, 67, 68, 69, 70, 71, 72, 73, 74, 75, 76, 77, 78, 79, 80, 81, 82, 83, 84, 85] V V54 := agV2.tr ajV54 (by decide) (by decide)
            have zlZ56 : ZL Z3 Z56 := zlZ56
            have zoZ56 : ZL Z Z56 := ZL.tr zoZ3 zlZ56
            have ziZ56 := zlZ56.1
            have zjZ56 := zlZ56.2.1
            have zkZ56 := zlZ56.2.2.1
            have zmZ56 := zoZ56.1
            have znZ56 := zoZ56.2.1
            have zpZ3_Z56 := zoZ3.1
            have zqZ3_Z56 := zoZ3.2.1
            have y52 : H.size ≤ Hk46.size + (zcc Z3 - zcc Z56) := by rw [hHk46]; exact y52
            have y53 : tot H ≤ tot Hk46 + (zss Z3 - zss Z56) := by rw [hHk46]; exact y53
            refine W.tight (k := zcc Z - zcc Z56) (n := zss Z - zss Z56) (by first | exact tg9 y52 k47 zlZ56.1 zoZ3.1 | omega) (by first | exact tg9 y53 k48 zlZ56.2.1 zoZ3.2.1 | omega) ?_
            have hl : lv_has ls 3 [(2, .ref (Z56.fa (Int32.toNatClampNeg z12))), (1, .int y1), (0, .ref (ad 5))] := by rw [zlZ56.2.2.2.2 (Int32.toNatClampNeg z12) il14]; exact hl
            have t58 : MJ V54 Z56 b := t58
            refine lv_goto (tgt := 109) hx hb dX5_run_85 (by decide) ?_
            obtain ⟨z59, ez59⟩ : ∃ y : Int32, y = y1 + 1 := ⟨_, rfl⟩
            have hz59 : z59.toInt = y1.toInt + 1 := i_add ez59 rfl (by decide) (by (first | exact om_7cfca28772a4 klp4_0.1 f7 | omega))
            refine lv_iinc (v := z59) (lv' := [(1, .int z59), (2, .ref (Z56.fa (Int32.toNatClampNeg z12))), (0, .ref (ad 5))]) hx hb dX5_run_109 hl (k := 1) rfl (by rw [ez59]; rfl) (by decide) rfl (fun ls hl => ?_)
            refine lv_goto (tgt := 2) hx hb dX5_run_112 (by decide) ?_
            exact ihlp4 z59 V54 Z56 H locs ls (by (first | exact om_6036b630f734 klp4_0.1 f7 hz59 | omega)) t58 (by (first | exact om_4c597ccc4a45 hn hz59 | omega)) (agr.tr (agr.tr agr.rf ajV2 (by decide) (by decide)) ajV54 (by decide) (by decide)) hMV54 zoZ56 hK hP hD hS (lv_sub hl [0, 2] rfl)
          have gq45 : ((V2 67 (Int32.toNatClampNeg z12))).toInt ≠ 2 := b_neq rfl (by decide) q45
          by_cases q60 : (V2 67 (Int32.toNatClampNeg z12)) = 3
          · refine g_top (v := 3) q60 ?_
            have fq60 : ((V2 67 (Int32.toNatClampNeg z12))).toInt = 3 := b_eq rfl (by decide) q60
            refine lv_tableIn (x := 3) (off := 57) (tgt := 88) hx hb dX5_run_31 (by decide) (by decide) (by decide) (by decide) ?_
            refine lv_aload_n hx hb dX5_run_88 rfl (lv_at hl 2 rfl) ?_
            refine lv_aload_n hx hb dX5_run_89 rfl (lv_at hl 0 rfl) ?_
            refine W.know (fun k62 k63 => ?_)
            obtain ⟨Hk61, hHk61⟩ : ∃ z, z = H := ⟨_, rfl⟩
            have k62 : Hk61.size ≤ s.heap.size + (zcc Z - zcc Z3) := by rw [hHk61]; exact k62
            have k63 : tot Hk61 ≤ tot s.heap + (zss Z - zss Z3) := by rw [hHk61]; exact k63
            refine gZ_void (gA_runV (As := [.ref (Z3.fa (Int32.toNatClampNeg z12))]) (rest := []) (ci := 5) (q0 := 5) hx hb hml hown hg hP hD hK hS hA hnw hgk (x_goOnInside l D ks H.size ad kk V2 L Z3 (b) ((Int32.toNatClampNeg z12)) hMV2 (show b < 2 from by (first | exact om_f940a4667dd6 hb2 | omega)) (show (Int32.toNatClampNeg z12) < Z3.nf from by (first | exact om_8c5722e49bb1 il14 | omega)) (MJ.op (d := (Int32.toNatClampNeg z12)) xlp4_0 (by omega)) (show ((Int32.toNatClampNeg z12) : Int) + 1 = (V2 5 6).toInt from by (first | exact om_c968828d0a40 hz12 kc13 | omega)) (show (V2 67 (Int32.toNatClampNeg z12)).toInt = 3 from by (first | exact om_395e3da5ee0d fq60 | omega))) w1411 w1413 w63 w171 w1414 rfl xgMachine hdV_yX5_goOnInside ⟨Nat.le_of_ble_eq_true rfl, Nat.le_of_ble_eq_true rfl⟩ rfl hl.1 rfl (Nat.le_of_ble_eq_true rfl) dX5_run_90 ⟨z1 zoZ3.1, z1 zoZ3.2.1⟩) hD hS hA (fun u65 H locs w66 hP hD hK hS y67 y68 => ?_)
            obtain ⟨V69, L70, Z71⟩ := u65
            obtain ⟨hMV69, ajV69, axL70, zlZ71, t73⟩ := w66
            have axL70 : L = L70 := Eq.symm axL70
            subst axL70
            have hP : va_P D vwCl (xw ad kk V69 L Z71) H := hP
            have hD : va_D A (xw ad kk V69 L Z71) := hD
            have hK : va_K D vwCl (xty kk Z71) s := hK
            have hMV69 : rgd bX V69 := hMV69
            have ajV69 : agr [(4, 5), (5, 6), (5, 9), (5, 10), (5, 11), (5, 12)] [33, 34, 35, 67, 68, 69, 70, 71, 72, 73, 74, 75, 76, 77, 78, 79, 80, 81, 82, 83, 84, 85] V2 V69 := ajV69
            have agV69 : agr [(3, 13), (3, 14), (3, 15), (4, 5), (4, 6), (5, 6), (5, 7), (5, 8), (5, 9), (5, 10), (5, 11), (5, 12), (5, 13), (5, 14)] [24, 25, 26, 27, 28, 29, 30, 31, 32, 33, 34, 35, 36, 37, 39, 40, 67, 68, 69, 70, 71, 72, 73, 74, 75, 76, 77, 78, 79, 80, 81, 82, 83, 84, 85] V V69 := agV2.tr ajV69 (by decide) (by decide)
            have zlZ71 : ZL Z3 Z71 := zlZ71
            have zoZ71 : ZL Z Z71 := ZL.tr zoZ3 zlZ71
            have ziZ71 := zlZ71.1
            have zjZ71 := zlZ71.2.1
            have zkZ71 := zlZ71.2.2.1
            have zmZ71 := zoZ71.1
            have znZ71 := zoZ71.2.1
            have zpZ3_Z71 := zoZ3.1
            have zqZ3_Z71 := zoZ3.2.1
            have y67 : H.size ≤ Hk61.size + (zcc Z3 - zcc Z71) := by rw [hHk61]; exact y67
            have y68 : tot H ≤ tot Hk61 + (zss Z3 - zss Z71) := by rw [hHk61]; exact y68
            refine W.tight (k := zcc Z - zcc Z71) (n := zss Z - zss Z71) (by first | exact tg9 y67 k62 zlZ71.1 zoZ3.1 | omega) (by first | exact tg9 y68 k63 zlZ71.2.1 zoZ3.2.1 | omega) ?_
            have hl : lv_has ls 3 [(2, .ref (Z71.fa (Int32.toNatClampNeg z12))), (1, .int y1), (0, .ref (ad 5))] := by rw [zlZ71.2.2.2.2 (Int32.toNatClampNeg z12) il14]; exact hl
            have t73 : MJ V69 Z71 b := t73
            refine lv_goto (tgt := 109) hx hb dX5_run_93 (by decide) ?_
            obtain ⟨z74, ez74⟩ : ∃ y : Int32, y = y1 + 1 := ⟨_, rfl⟩
            have hz74 : z74.toInt = y1.toInt + 1 := i_add ez74 rfl (by decide) (by (first | exact om_7cfca28772a4 klp4_0.1 f7 | omega))
            refine lv_iinc (v := z74) (lv' := [(1, .int z74), (2, .ref (Z71.fa (Int32.toNatClampNeg z12))), (0, .ref (ad 5))]) hx hb dX5_run_109 hl (k := 1) rfl (by rw [ez74]; rfl) (by decide) rfl (fun ls hl => ?_)
            refine lv_goto (tgt := 2) hx hb dX5_run_112 (by decide) ?_
            exact ihlp4 z74 V69 Z71 H locs ls (by (first | exact om_6036b630f734 klp4_0.1 f7 hz74 | omega)) t73 (by (first | exact om_4c597ccc4a45 hn hz74 | omega)) (agr.tr (agr.tr agr.rf ajV2 (by decide) (by decide)) ajV69 (by decide) (by decide)) hMV69 zoZ71 hK hP hD hS (lv_sub hl [0, 2] rfl)
          have gq60 : ((V2 67 (Int32.toNatClampNeg z12))).toInt ≠ 3 := b_neq rfl (by decide) q60
          by_cases q75 : (V2 67 (Int32.toNatClampNeg z12)) = 4
          · refine g_top (v := 4) q75 ?_
            have fq75 : ((V2 67 (Int32.toNatClampNeg z12))).toInt = 4 := b_eq rfl (by decide) q75
            refine lv_tableIn (x := 4) (off := 65) (tgt := 96) hx hb dX5_run_31 (by decide) (by decide) (by decide) (by decide) ?_
            refine lv_aload_n hx hb dX5_run_96 rfl (lv_at hl 2 rfl) ?_
            refine lv_aload_n hx hb dX5_run_97 rfl (lv_at hl 0 rfl) ?_
            refine W.know (fun k77 k78 => ?_)
            obtain ⟨Hk76, hHk76⟩ : ∃ z, z = H := ⟨_, rfl⟩
            have k77 : Hk76.size ≤ s.heap.size + (zcc Z - zcc Z3) := by rw [hHk76]; exact k77
            have k78 : tot Hk76 ≤ tot s.heap + (zss Z - zss Z3) := by rw [hHk76]; exact k78
            refine gZ_void (gA_runV (As := [.ref (Z3.fa (Int32.toNatClampNeg z12))]) (rest := []) (ci := 5) (q0 := 5) hx hb hml hown hg hP hD hK hS hA hnw hgk (x_goOnWorking l D ks H.size ad kk V2 L Z3 (b) ((Int32.toNatClampNeg z12)) hMV2 (show b < 2 from by (first | exact om_f940a4667dd6 hb2 | omega)) (show (Int32.toNatClampNeg z12) < Z3.nf from by (first | exact om_8c5722e49bb1 il14 | omega)) (MJ.op (d := (Int32.toNatClampNeg z12)) xlp4_0 (by omega)) (show ((Int32.toNatClampNeg z12) : Int) + 1 = (V2 5 6).toInt from by (first | exact om_c968828d0a40 hz12 kc13 | omega)) (show (V2 67 (Int32.toNatClampNeg z12)).toInt = 4 from by (first | exact om_c88e7ce0b8a2 fq75 | omega))) w1431 w1433 w67 w171 w1434 rfl xgMachine hdV_yX5_goOnWorking ⟨Nat.le_of_ble_eq_true rfl, Nat.le_of_ble_eq_true rfl⟩ rfl hl.1 rfl (Nat.le_of_ble_eq_true rfl) dX5_run_98 ⟨z1 zoZ3.1, z1 zoZ3.2.1⟩) hD hS hA (fun u80 H locs w81 hP hD hK hS y82 y83 => ?_)
            obtain ⟨V84, L85, Z86⟩ := u80
            obtain ⟨hMV84, ajV84, axL85, zlZ86, t88⟩ := w81
            have axL85 : L = L85 := Eq.symm axL85
            subst axL85
            have hP : va_P D vwCl (xw ad kk V84 L Z86) H := hP
            have hD : va_D A (xw ad kk V84 L Z86) := hD
            have hK : va_K D vwCl (xty kk Z86) s := hK
            have hMV84 : rgd bX V84 := hMV84
            have ajV84 : agr [(3, 15), (5, 6), (5, 7), (5, 9), (5, 10), (5, 11), (5, 12), (5, 13), (5, 14)] [30, 31, 32, 39, 67, 68, 69, 70, 71, 72, 73, 74, 75, 76, 77, 78, 79, 80, 81, 82, 83, 84, 85] V2 V84 := ajV84
            have agV84 : agr [(3, 13), (3, 14), (3, 15), (4, 5), (4, 6), (5, 6), (5, 7), (5, 8), (5, 9), (5, 10), (5, 11), (5, 12), (5, 13), (5, 14)] [24, 25, 26, 27, 28, 29, 30, 31, 32, 33, 34, 35, 36, 37, 39, 40, 67, 68, 69, 70, 71, 72, 73, 74, 75, 76, 77, 78, 79, 80, 81, 82, 83, 84, 85] V V84 := agV2.tr ajV84 (by decide) (by decide)
            have zlZ86 : ZL Z3 Z86 := zlZ86
            have zoZ86 : ZL Z Z86 := ZL.tr zoZ3 zlZ86
            have ziZ86 := zlZ86.1
            have zjZ86 := zlZ86.2.1
            have zkZ86 := zlZ86.2.2.1
            have zmZ86 := zoZ86.1
            have znZ86 := zoZ86.2.1
            have zpZ3_Z86 := zoZ3.1
            have zqZ3_Z86 := zoZ3.2.1
            have y82 : H.size ≤ Hk76.size + (zcc Z3 - zcc Z86) := by rw [hHk76]; exact y82
            have y83 : tot H ≤ tot Hk76 + (zss Z3 - zss Z86) := by rw [hHk76]; exact y83
            refine W.tight (k := zcc Z - zcc Z86) (n := zss Z - zss Z86) (by first | exact tg9 y82 k77 zlZ86.1 zoZ3.1 | omega) (by first | exact tg9 y83 k78 zlZ86.2.1 zoZ3.2.1 | omega) ?_
            have hl : lv_has ls 3 [(2, .ref (Z86.fa (Int32.toNatClampNeg z12))), (1, .int y1), (0, .ref (ad 5))] := by rw [zlZ86.2.2.2.2 (Int32.toNatClampNeg z12) il14]; exact hl
            have t88 : MJ V84 Z86 b := t88
            refine lv_goto (tgt := 109) hx hb dX5_run_101 (by decide) ?_
            obtain ⟨z89, ez89⟩ : ∃ y : Int32, y = y1 + 1 := ⟨_, rfl⟩
            have hz89 : z89.toInt = y1.toInt + 1 := i_add ez89 rfl (by decide) (by (first | exact om_7cfca28772a4 klp4_0.1 f7 | omega))
            refine lv_iinc (v := z89) (lv' := [(1, .int z89), (2, .ref (Z86.fa (Int32.toNatClampNeg z12))), (0, .ref (ad 5))]) hx hb dX5_run_109 hl (k := 1) rfl (by rw [ez89]; rfl) (by decide) rfl (fun ls hl => ?_)
            refine lv_goto (tgt := 2) hx hb dX5_run_112 (by decide) ?_
            exact ihlp4 z89 V84 Z86 H locs ls (by (first | exact om_6036b630f734 klp4_0.1 f7 hz89 | omega)) t88 (by (first | exact om_4c597ccc4a45 hn hz89 | omega)) (agr.tr (agr.tr agr.rf ajV2 (by decide) (by decide)) ajV84 (by decide) (by decide)) hMV84 zoZ86 hK hP hD hS (lv_sub hl [0, 2] rfl)
          have gq75 : ((V2 67 (Int32.toNatClampNeg z12))).toInt ≠ 4 := b_neq rfl (by decide) q75
          refine lv_tableOut (x := (V2 67 (Int32.toNatClampNeg z12))) (tgt := 104) hx hb dX5_run_31 (by omega) (by decide) ?_
          refine lv_aload_n hx hb dX5_run_104 rfl (lv_at hl 2 rfl) ?_
          refine lv_aload_n hx hb dX5_run_105 rfl (lv_at hl 0 rfl) ?_
          refine W.know (fun k91 k92 => ?_)
          obtain ⟨Hk90, hHk90⟩ : ∃ z, z = H := ⟨_, rfl⟩
          have k91 : Hk90.size ≤ s.heap.size + (zcc Z - zcc Z3) := by rw [hHk90]; exact k91
          have k92 : tot Hk90 ≤ tot s.heap + (zss Z - zss Z3) := by rw [hHk90]; exact k92
          refine gZ_void (gA_runV (As := [.ref (Z3.fa (Int32.toNatClampNeg z12))]) (rest := []) (ci := 5) (q0 := 5) hx hb hml hown hg hP hD hK hS hA hnw hgk (x_goOnClosing l D ks H.size ad kk V2 L Z3 (b) ((Int32.toNatClampNeg z12)) hMV2 (show b < 2 from by (first | exact om_f940a4667dd6 hb2 | omega)) (show (Int32.toNatClampNeg z12) < Z3.nf from by (first | exact om_8c5722e49bb1 il14 | omega)) (MJ.op (d := (Int32.toNatClampNeg z12)) xlp4_0 (by omega)) (show ((Int32.toNatClampNeg z12) : Int) + 1 = (V2 5 6).toInt from by (first | exact om_c968828d0a40 hz12 kc13 | omega)) (show (V2 67 (Int32.toNatClampNeg z12)).toInt ≠ 0 ∧ (V2 67 (Int32.toNatClampNeg z12)).toInt ≠ 1 ∧ (V2 67 (Int32.toNatClampNeg z12)).toInt ≠ 2 ∧ (V2 67 (Int32.toNatClampNeg z12)).toInt ≠ 3 ∧ (V2 67 (Int32.toNatClampNeg z12)).toInt ≠ 4 from by omega)) w1493 w1495 w78 w171 w1496 rfl xgMachine hdV_yX5_goOnClosing ⟨Nat.le_of_ble_eq_true rfl, Nat.le_of_ble_eq_true rfl⟩ rfl hl.1 rfl (Nat.le_of_ble_eq_true rfl) dX5_run_106 ⟨z1 zoZ3.1, z1 zoZ3.2.1⟩) hD hS hA (fun u94 H locs w95 hP hD hK hS y96 y97 => ?_)
          obtain ⟨V98, L99, Z100⟩ := u94
          obtain ⟨hMV98, ajV98, axL99, zlZ100, t102⟩ := w95
          have axL99 : L = L99 := Eq.symm axL99
          subst axL99
          have hP : va_P D vwCl (xw ad kk V98 L Z100) H := hP
          have hD : va_D A (xw ad kk V98 L Z100) := hD
          have hK : va_K D vwCl (xty kk Z100) s := hK
          have hMV98 : rgd bX V98 := hMV98
          have ajV98 : agr [(4, 6), (5, 6), (5, 9), (5, 10)] [25, 28, 36, 37, 67, 68, 69, 70, 71, 72, 73, 74, 75, 76, 77, 78, 79, 80, 81, 82, 83, 84, 85] V2 V98 := ajV98
          have agV98 : agr [(3, 13), (3, 14), (3, 15), (4, 5), (4, 6), (5, 6), (5, 7), (5, 8), (5, 9), (5, 10), (5, 11), (5, 12), (5, 13), (5, 14)] [24, 25, 26, 27, 28, 29, 30, 31, 32, 33, 34, 35, 36, 37, 39, 40, 67, 68, 69, 70, 71, 72, 73, 74, 75, 76, 77, 78, 79, 80, 81, 82, 83, 84, 85] V V98 := agV2.tr ajV98 (by decide) (by decide)
          have zlZ100 : ZL Z3 Z100 := zlZ100
          have zoZ100 : ZL Z Z100 := ZL.tr zoZ3 zlZ100
          have ziZ100 := zlZ100.1
          have zjZ100 := zlZ100.2.1
          have zkZ100 := zlZ100.2.2.1
          have zmZ100 := zoZ100.1
          have znZ100 := zoZ100.2.1
          have zpZ3_Z100 := zoZ3.1
          have zqZ3_Z100 := zoZ3.2.1
          have y96 : H.size ≤ Hk90.size + (zcc Z3 - zcc Z100) := by rw [hHk90]; exact y96
          have y97 : tot H ≤ tot Hk90 + (zss Z3 - zss Z100) := by rw [hHk90]; exact y97
          refine W.tight (k := zcc Z - zcc Z100) (n := zss Z - zss Z100) (by first | exact tg9 y96 k91 zlZ100.1 zoZ3.1 | omega) (by first | exact tg9 y97 k92 zlZ100.2.1 zoZ3.2.1 | omega) ?_
          have hl : lv_has ls 3 [(2, .ref (Z100.fa (Int32.toNatClampNeg z12))), (1, .int y1), (0, .ref (ad 5))] := by rw [zlZ100.2.2.2.2 (Int32.toNatClampNeg z12) il14]; exact hl
          have t102 : MJ V98 Z100 b := t102
          obtain ⟨z103, ez103⟩ : ∃ y : Int32, y = y1 + 1 := ⟨_, rfl⟩
          have hz103 : z103.toInt = y1.toInt + 1 := i_add ez103 rfl (by decide) (by (first | exact om_7cfca28772a4 klp4_0.1 f7 | omega))
          refine lv_iinc (v := z103) (lv' := [(1, .int z103), (2, .ref (Z100.fa (Int32.toNatClampNeg z12))), (0, .ref (ad 5))]) hx hb dX5_run_109 hl (k := 1) rfl (by rw [ez103]; rfl) (by decide) rfl (fun ls hl => ?_)
          refine lv_goto (tgt := 2) hx hb dX5_run_112 (by decide) ?_
          exact ihlp4 z103 V98 Z100 H locs ls (by (first | exact om_6036b630f734 klp4_0.1 f7 hz103 | omega)) t102 (by (first | exact om_4c597ccc4a45 hn hz103 | omega)) (agr.tr (agr.tr agr.rf ajV2 (by decide) (by decide)) ajV98 (by decide) (by decide)) hMV98 zoZ100 hK hP hD hS (lv_sub hl [0, 2] rfl)
  have r104 : Int32.toInt 0 = 0 := by decide
  exact lp4 ((1000000 - (Int32.toInt 0) + 1 : Int).toNat) 0 V Z H locs ls (by decide) mj (by (first | exact om_4cc8af65a62d | omega)) agr.rf hMV zoZ hK hP hD hS (lv_sub hl [0, 1] rfl)
end
section
/-! what holds of the class between the calls -/
def HI (V : Vf) (Z : XZ) (b : Nat) : Prop := SL V Z ∧ Z.nf ≤ 400 ∧ (∀ o : Nat, (o : Int) < (V 3 13).toInt → (V 26 o).toInt < (V 43 (5 * b + 2)).toInt) ∧ ((0 ≤ (V 3 13).toInt ∧ (V 3 13).toInt ≤ 300) ∧ 0 ≤ (V 3 15).toInt) ∧ ((V 3 15).toInt + 203 * (300 - (V 3 13).toInt) ≤ (V 44 0).toInt ∧ (V 44 0).toInt ≤ 250000) ∧ TX V b ∧ CD V b ∧ (V 5 5).toInt = (b : Int) ∧ LN Z.ln ∧ PT V
theorem MI.hi {V : Vf} {Z : XZ} {b : Nat} {g : Nat → Nat} {n r : Nat} {w v u : Prop} (h : MI V Z b g n r w v u) : HI V Z b := ⟨h.sl, h.nf, h.oc, ⟨h.o0.1, h.o0.2.1⟩, by have := h.pot; have := h.o0; omega, h.tx, h.cd, h.mb, h.ln, h.pt⟩
theorem MJ.hi {V : Vf} {Z : XZ} {b : Nat} (h : MJ V Z b) : HI V Z b := by
  obtain ⟨g, r, h⟩ := h
  exact h.hi
theorem HI.mi {V : Vf} {Z : XZ} {b : Nat} (h : HI V Z b) (hs : 0 < (V 43 (5 * b + 2)).toInt) (h8 : (V 5 8).toInt = 0) (w v u : Prop) : MI V Z b (fun _ => 0) 0 0 w v u :=
  ⟨h.1, h.2.1, Nat.zero_le _, hs, h.2.2.1, fun i hi => absurd hi (by omega), fun i j _ hj => absurd hj (Nat.not_lt_zero _), fun i hi => absurd hi (Nat.not_lt_zero _), ⟨h.2.2.2.1.1, h.2.2.2.1.2, by omega⟩, by have := h.2.2.2.2.1; have e : sm (fun _ => 0) 0 = 0 := rfl; omega, h.2.2.2.2.2.1, h.2.2.2.2.2.2.1, h.2.2.2.2.2.2.2.1, h.2.2.2.2.2.2.2.2.1, h.2.2.2.2.2.2.2.2.2⟩
theorem HI.me {V W : Vf} {Z : XZ} {b : Nat} (h : HI V Z b) (hB : BE V W) (e13 : W 3 13 = V 3 13) (e15 : W 3 15 = V 3 15) (e5 : W 5 5 = V 5 5) (e26 : ∀ k, W 26 k = V 26 k) (e30 : ∀ k, W 30 k = V 30 k) (e32 : ∀ k, W 32 k = V 32 k) (e25 : ∀ k, W 25 k = V 25 k) : HI W Z b := by
  have e43 := hB 43 (5 * b + 2) (by decide) (by decide)
  refine ⟨?_, h.2.1, ?_, by rw [e13, e15]; exact h.2.2.2.1, by rw [e13, e15, hB 44 0 (by decide) (by decide)]; exact h.2.2.2.2.1, h.2.2.2.2.2.1.be hB, h.2.2.2.2.2.2.1.be hB, by rw [e5]; exact h.2.2.2.2.2.2.2.1, h.2.2.2.2.2.2.2.2.1, ?_⟩
  · unfold SL
    rw [e15, e13]
    exact ⟨h.1.1, h.1.2.1, fun o k a1 a2 => by rw [e30]; exact h.1.2.2.1 o k a1 a2, fun i a1 => by rw [e32]; exact h.1.2.2.2 i a1⟩
  · intro o ho
    rw [e13] at ho
    rw [e26, e43]
    exact h.2.2.1 o ho
  · intro k hk
    rw [e25, e13]
    refine ⟨(h.2.2.2.2.2.2.2.2.2 k hk).1, fun o h1 => ?_⟩
    rw [e26]
    exact (h.2.2.2.2.2.2.2.2.2 k hk).2 o h1
theorem HI.mt {V : Vf} {Z : XZ} {b : Nat} (h : HI V Z b) (hs : 0 < (V 43 (5 * b + 2)).toInt) (h8 : (V 5 8).toInt = 0) (h6 : (V 5 6).toInt = 0) : MT V Z b := ⟨_, _, by rw [show (V 5 6).toInt.toNat = 0 from by omega]; exact h.mi hs h8 True True True⟩
theorem HI.mtr {V : Vf} {Z : XZ} {b : Nat} (h : HI V Z b) (hs : 0 < (V 43 (5 * b + 2)).toInt) (h8 : (V 5 8).toInt = 0) (h6 : (V 5 6).toInt = 0) : MTr V Z b := ⟨_, _, by rw [show (V 5 6).toInt.toNat = 0 from by omega]; exact h.mi hs h8 True False True⟩
def hrl (fs : List (Nat × Nat)) (cs : List Nat) : Bool := fs.all (fun y => decide (y.1 ≤ 6) && !([(3, 13), (3, 15), (5, 5)].contains y)) && cs.all (fun c => decide (7 ≤ c) && (decide (c ≤ 40) || decide (67 ≤ c)) && !([25, 26, 30, 32].contains c))
theorem hrl_no {fs : List (Nat × Nat)} {cs : List Nat} (q : hrl fs cs = true) {c k : Nat} (h : (41 ≤ c ∧ c ≤ 66) ∨ (c = 25 ∨ c = 26 ∨ c = 30 ∨ c = 32) ∨ (c, k) = (3, 13) ∨ (c, k) = (3, 15) ∨ (c, k) = (5, 5)) : wrL fs cs c k = false := by
  unfold hrl at q
  rw [Bool.and_eq_true, List.all_eq_true, List.all_eq_true] at q
  unfold wrL
  rw [Bool.or_eq_false_iff]
  refine ⟨?_, ?_⟩
  · rw [← Bool.not_eq_true]
    intro z
    have y := q.1 _ (List.contains_iff_mem.mp z)
    rw [Bool.and_eq_true] at y
    have y1 : c ≤ 6 := of_decide_eq_true y.1
    have y2 := y.2
    rcases h with h | h | h | h | h
    · omega
    · omega
    all_goals (rw [h] at y2; exact absurd y2 (by decide))
  · rw [← Bool.not_eq_true]
    intro z
    have y := q.2 _ (List.contains_iff_mem.mp z)
    rw [Bool.and_eq_true, Bool.and_eq_true, Bool.or_eq_true] at y
    have y1 : c ≤ 40 ∨ 67 ≤ c := y.1.2.elim (fun a => Or.inl (of_decide_eq_true a)) (fun a => Or.inr (of_decide_eq_true a))
    have y0 : 7 ≤ c := of_decide_eq_true y.1.1
    have y2 := y.2
    rcases h with h | h | h | h | h
    · omega
    · rcases h with h | h | h | h <;> (rw [h] at y2; exact absurd y2 (by decide))
    all_goals (have := congrArg Prod.fst h; simp only at this; omega)
theorem HI.ag {fs : List (Nat × Nat)} {cs : List Nat} {V W : Vf} {Z : XZ} {b : Nat} (h : HI V Z b) (a : agr fs cs V W) (q : hrl fs cs = true) : HI W Z b :=
  h.me (fun c k h1 h2 => a c k (hrl_no q (Or.inl ⟨h1, h2⟩))) (a _ _ (hrl_no q (by simp))) (a _ _ (hrl_no q (by simp))) (a _ _ (hrl_no q (by simp))) (fun k => a _ _ (hrl_no q (by simp))) (fun k => a _ _ (hrl_no q (by simp))) (fun k => a _ _ (hrl_no q (by simp))) (fun k => a _ _ (hrl_no q (by simp)))

theorem w1166 : Cond.methodLink RX11 188 yX7_noteCause ∈ GW := gw_k tk9_5 51 (by decide +kernel) rfl
theorem w1170 : Cond.methodLink RX11 192 yX5_restart ∈ GW := gw_k tk9_5 55 (by decide +kernel) rfl
theorem w1174 : Cond.code yX11_ends cX11_ends 3 (some .int) ∈ GW := gw_k tk9_5 59 (rfl) rfl
theorem w1171 : Cond.methodLink RX11 195 yX11_ends ∈ GW := gw_k tk9_5 56 (by decide +kernel) rfl
theorem w156 : Cond.initialized RX11 ∈ GW := gw_k tk9_1 1 (by decide +kernel) rfl
theorem w1173 : Cond.instanceMethod yX11_ends ∈ GW := gw_k tk9_5 58 (by decide +kernel) rfl
theorem w42 : Cond.selects RX11 yX11_ends yX11_ends ∈ GW := gw_mem 42 (by decide +kernel) rfl
theorem hdV_yX11_ends : yX11_ends.cls = RX11 ∧ yX11_ends.cls ≠ "java/lang/invoke/MethodHandle" ∧ yX11_ends.cls ≠ "java/lang/invoke/VarHandle" ∧ (parseMethodDescriptor yX11_ends.desc).map (fun d => d.parameters.length) = some 2 := by decide +kernel
theorem w1175 : Cond.methodLink RX11 159 yX0_isThere ∈ GW := gw_k tk9_5 60 (by decide +kernel) rfl
theorem w1176 : Cond.methodLink RX11 198 yX5_pushRoot ∈ GW := gw_k tk9_5 61 (by decide +kernel) rfl
theorem w1250 : Cond.code yX5_run cX5_run 3 none ∈ GW := gw_k tk9_5 135 (rfl) rfl
theorem w1247 : Cond.methodLink RX11 202 yX5_run ∈ GW := gw_k tk9_5 132 (by decide +kernel) rfl
theorem w1248 : Cond.instanceMethod yX5_run ∈ GW := gw_k tk9_5 133 (by decide +kernel) rfl
theorem w1249 : Cond.selects RX5 yX5_run yX5_run ∈ GW := gw_k tk9_5 134 (by decide +kernel) rfl
theorem hdV_yX5_run : yX5_run.cls = RX5 ∧ yX5_run.cls ≠ "java/lang/invoke/MethodHandle" ∧ yX5_run.cls ≠ "java/lang/invoke/VarHandle" ∧ (parseMethodDescriptor yX5_run.desc).map (fun d => d.parameters.length) = some 0 := by decide +kernel
theorem w1504 : Cond.code yX5_howItEnded cX5_howItEnded 1 (some .int) ∈ GW := gw_k tk9_6 149 (rfl) rfl
theorem w1501 : Cond.methodLink RX11 205 yX5_howItEnded ∈ GW := gw_k tk9_6 146 (by decide +kernel) rfl
theorem w1502 : Cond.instanceMethod yX5_howItEnded ∈ GW := gw_k tk9_6 147 (by decide +kernel) rfl
theorem w1503 : Cond.selects RX5 yX5_howItEnded yX5_howItEnded ∈ GW := gw_k tk9_6 148 (by decide +kernel) rfl
theorem hdV_yX5_howItEnded : yX5_howItEnded.cls = RX5 ∧ yX5_howItEnded.cls ≠ "java/lang/invoke/MethodHandle" ∧ yX5_howItEnded.cls ≠ "java/lang/invoke/VarHandle" ∧ (parseMethodDescriptor yX5_howItEnded.desc).map (fun d => d.parameters.length) = some 0 := by decide +kernel
theorem w1509 : Cond.code yX5_answerOr cX5_answerOr 2 (some .int) ∈ GW := gw_k tk9_6 154 (rfl) rfl
theorem w1506 : Cond.methodLink RX11 209 yX5_answerOr ∈ GW := gw_k tk9_6 151 (by decide +kernel) rfl
theorem w1507 : Cond.instanceMethod yX5_answerOr ∈ GW := gw_k tk9_6 152 (by decide +kernel) rfl
theorem w1508 : Cond.selects RX5 yX5_answerOr yX5_answerOr ∈ GW := gw_k tk9_6 153 (by decide +kernel) rfl
theorem hdV_yX5_answerOr : yX5_answerOr.cls = RX5 ∧ yX5_answerOr.cls ≠ "java/lang/invoke/MethodHandle" ∧ yX5_answerOr.cls ≠ "java/lang/invoke/VarHandle" ∧ (parseMethodDescriptor yX5_answerOr.desc).map (fun d => d.parameters.length) = some 1 := by decide +kernel
theorem w1517 : Cond.code yX7_forgetThings cX7_forgetThings 1 none ∈ GW := gw_k tk9_6 162 (rfl) rfl
theorem w1514 : Cond.methodLink RX11 212 yX7_forgetThings ∈ GW := gw_k tk9_6 159 (by decide +kernel) rfl
theorem w1515 : Cond.instanceMethod yX7_forgetThings ∈ GW := gw_k tk9_6 160 (by decide +kernel) rfl
theorem w1516 : Cond.selects RX7 yX7_forgetThings yX7_forgetThings ∈ GW := gw_k tk9_6 161 (by decide +kernel) rfl
theorem hdV_yX7_forgetThings : yX7_forgetThings.cls = RX7 ∧ yX7_forgetThings.cls ≠ "java/lang/invoke/MethodHandle" ∧ yX7_forgetThings.cls ≠ "java/lang/invoke/VarHandle" ∧ (parseMethodDescriptor yX7_forgetThings.desc).map (fun d => d.parameters.length) = some 0 := by decide +kernel
theorem w1518 : Cond.methodLink RX11 215 yX8_isMade ∈ GW := gw_k tk9_6 163 (by decide +kernel) rfl
theorem n445 : lw_tbl[445]? = some (Cond.fieldLinkNest RX11 221 "WiringHouse$Notes" "listening" "Z" "WiringHouse") := la9 (n := 155) (i := 290) lz9 (la9 (n := 240) (i := 50) ln9_1 (lb9 (i := 50) (by decide +kernel)))
theorem w1519 : Cond.methodLink RX11 224 yX5_pushCall ∈ GW := gw_k tk9_6 164 (by decide +kernel) rfl
theorem dk9_dX11_get_0_0 : dOk cX11_get [(0, .aload_n 0, 1), (1, .getfield 42, 3), (4, .iconst 0, 1), (5, .iconst 0, 1), (6, .invokevirtual 188, 3), (9, .aload_n 0, 1), (10, .getfield 61, 3), (13, .invokevirtual 192, 3), (16, .aload_n 0, 1), (17, .getfield 89, 3), (20, .ifCond .ne 10, 3), (30, .aload_n 0, 1), (31, .getfield 35, 3), (34, .iload_n 1, 1), (35, .invokevirtual 182, 3), (38, .ifCond .ne 10, 3), (48, .aload_n 0, 1), (49, .getfield 49, 3), (52, .iload_n 2, 1), (53, .invokevirtual 136, 3), (56, .ifCond .eq 14, 3), (70, .aload_n 0, 1), (71, .iconst 4, 1), (72, .iconst (-1), 1)] = true ∧ dOk cX11_get [(73, .invokevirtual 195, 3), (76, .ireturn, 1), (59, .aload_n 0, 1), (60, .getfield 49, 3), (63, .iload_n 2, 1), (64, .invokevirtual 159, 3), (67, .ifCond .ne 10, 3), (77, .aload_n 0, 1), (78, .getfield 61, 3), (81, .iload_n 2, 1), (82, .iload_n 1, 1), (83, .iconst 0, 1), (84, .invokevirtual 198, 3), (87, .aload_n 0, 1), (88, .getfield 61, 3), (91, .invokevirtual 202, 3), (94, .aload_n 0, 1), (95, .aload_n 0, 1), (96, .getfield 61, 3), (99, .invokevirtual 205, 3), (102, .aload_n 0, 1), (103, .getfield 61, 3), (106, .iconst (-1), 1), (107, .invokevirtual 209, 3)] = true ∧ dOk cX11_get [(110, .invokevirtual 195, 3), (113, .ireturn, 1), (41, .aload_n 0, 1), (42, .iconst 3, 1), (43, .iconst (-1), 1), (44, .invokevirtual 195, 3), (47, .ireturn, 1), (23, .aload_n 0, 1), (24, .iconst 4, 1), (25, .iconst (-1), 1), (26, .invokevirtual 195, 3), (29, .ireturn, 1)] = true := by decide +kernel
theorem dX11_get_0 : decode cX11_get 0 = .ok (.aload_n 0, 1) := dr9 dk9_dX11_get_0_0.1 0 (0, .aload_n 0, 1) rfl
theorem dX11_get_1 : decode cX11_get 1 = .ok (.getfield 42, 3) := dr9 dk9_dX11_get_0_0.1 1 (1, .getfield 42, 3) rfl
theorem dX11_get_4 : decode cX11_get 4 = .ok (.iconst 0, 1) := dr9 dk9_dX11_get_0_0.1 2 (4, .iconst 0, 1) rfl
theorem dX11_get_5 : decode cX11_get 5 = .ok (.iconst 0, 1) := dr9 dk9_dX11_get_0_0.1 3 (5, .iconst 0, 1) rfl
theorem dX11_get_6 : decode cX11_get 6 = .ok (.invokevirtual 188, 3) := dr9 dk9_dX11_get_0_0.1 4 (6, .invokevirtual 188, 3) rfl
theorem dX11_get_9 : decode cX11_get 9 = .ok (.aload_n 0, 1) := dr9 dk9_dX11_get_0_0.1 5 (9, .aload_n 0, 1) rfl
theorem dX11_get_10 : decode cX11_get 10 = .ok (.getfield 61, 3) := dr9 dk9_dX11_get_0_0.1 6 (10, .getfield 61, 3) rfl
theorem dX11_get_13 : decode cX11_get 13 = .ok (.invokevirtual 192, 3) := dr9 dk9_dX11_get_0_0.1 7 (13, .invokevirtual 192, 3) rfl
theorem dX11_get_16 : decode cX11_get 16 = .ok (.aload_n 0, 1) := dr9 dk9_dX11_get_0_0.1 8 (16, .aload_n 0, 1) rfl
theorem dX11_get_17 : decode cX11_get 17 = .ok (.getfield 89, 3) := dr9 dk9_dX11_get_0_0.1 9 (17, .getfield 89, 3) rfl
theorem dX11_get_20 : decode cX11_get 20 = .ok (.ifCond .ne 10, 3) := dr9 dk9_dX11_get_0_0.1 10 (20, .ifCond .ne 10, 3) rfl
theorem dX11_get_30 : decode cX11_get 30 = .ok (.aload_n 0, 1) := dr9 dk9_dX11_get_0_0.1 11 (30, .aload_n 0, 1) rfl
theorem dX11_get_31 : decode cX11_get 31 = .ok (.getfield 35, 3) := dr9 dk9_dX11_get_0_0.1 12 (31, .getfield 35, 3) rfl
theorem dX11_get_34 : decode cX11_get 34 = .ok (.iload_n 1, 1) := dr9 dk9_dX11_get_0_0.1 13 (34, .iload_n 1, 1) rfl
theorem dX11_get_35 : decode cX11_get 35 = .ok (.invokevirtual 182, 3) := dr9 dk9_dX11_get_0_0.1 14 (35, .invokevirtual 182, 3) rfl
theorem dX11_get_38 : decode cX11_get 38 = .ok (.ifCond .ne 10, 3) := dr9 dk9_dX11_get_0_0.1 15 (38, .ifCond .ne 10, 3) rfl
theorem dX11_get_48 : decode cX11_get 48 = .ok (.aload_n 0, 1) := dr9 dk9_dX11_get_0_0.1 16 (48, .aload_n 0, 1) rfl
theorem dX11_get_49 : decode cX11_get 49 = .ok (.getfield 49, 3) := dr9 dk9_dX11_get_0_0.1 17 (49, .getfield 49, 3) rfl
theorem dX11_get_52 : decode cX11_get 52 = .ok (.iload_n 2, 1) := dr9 dk9_dX11_get_0_0.1 18 (52, .iload_n 2, 1) rfl
theorem dX11_get_53 : decode cX11_get 53 = .ok (.invokevirtual 136, 3) := dr9 dk9_dX11_get_0_0.1 19 (53, .invokevirtual 136, 3) rfl
theorem dX11_get_56 : decode cX11_get 56 = .ok (.ifCond .eq 14, 3) := dr9 dk9_dX11_get_0_0.1 20 (56, .ifCond .eq 14, 3) rfl
theorem dX11_get_70 : decode cX11_get 70 = .ok (.aload_n 0, 1) := dr9 dk9_dX11_get_0_0.1 21 (70, .aload_n 0, 1) rfl
theorem dX11_get_71 : decode cX11_get 71 = .ok (.iconst 4, 1) := dr9 dk9_dX11_get_0_0.1 22 (71, .iconst 4, 1) rfl
theorem dX11_get_72 : decode cX11_get 72 = .ok (.iconst (-1), 1) := dr9 dk9_dX11_get_0_0.1 23 (72, .iconst (-1), 1) rfl
theorem dX11_get_73 : decode cX11_get 73 = .ok (.invokevirtual 195, 3) := dr9 dk9_dX11_get_0_0.2.1 0 (73, .invokevirtual 195, 3) rfl
theorem dX11_get_76 : decode cX11_get 76 = .ok (.ireturn, 1) := dr9 dk9_dX11_get_0_0.2.1 1 (76, .ireturn, 1) rfl
theorem dX11_get_59 : decode cX11_get 59 = .ok (.aload_n 0, 1) := dr9 dk9_dX11_get_0_0.2.1 2 (59, .aload_n 0, 1) rfl
theorem dX11_get_60 : decode cX11_get 60 = .ok (.getfield 49, 3) := dr9 dk9_dX11_get_0_0.2.1 3 (60, .getfield 49, 3) rfl
theorem dX11_get_63 : decode cX11_get 63 = .ok (.iload_n 2, 1) := dr9 dk9_dX11_get_0_0.2.1 4 (63, .iload_n 2, 1) rfl
theorem dX11_get_64 : decode cX11_get 64 = .ok (.invokevirtual 159, 3) := dr9 dk9_dX11_get_0_0.2.1 5 (64, .invokevirtual 159, 3) rfl
theorem dX11_get_67 : decode cX11_get 67 = .ok (.ifCond .ne 10, 3) := dr9 dk9_dX11_get_0_0.2.1 6 (67, .ifCond .ne 10, 3) rfl
theorem dX11_get_77 : decode cX11_get 77 = .ok (.aload_n 0, 1) := dr9 dk9_dX11_get_0_0.2.1 7 (77, .aload_n 0, 1) rfl
theorem dX11_get_78 : decode cX11_get 78 = .ok (.getfield 61, 3) := dr9 dk9_dX11_get_0_0.2.1 8 (78, .getfield 61, 3) rfl
theorem dX11_get_81 : decode cX11_get 81 = .ok (.iload_n 2, 1) := dr9 dk9_dX11_get_0_0.2.1 9 (81, .iload_n 2, 1) rfl
theorem dX11_get_82 : decode cX11_get 82 = .ok (.iload_n 1, 1) := dr9 dk9_dX11_get_0_0.2.1 10 (82, .iload_n 1, 1) rfl
theorem dX11_get_83 : decode cX11_get 83 = .ok (.iconst 0, 1) := dr9 dk9_dX11_get_0_0.2.1 11 (83, .iconst 0, 1) rfl
theorem dX11_get_84 : decode cX11_get 84 = .ok (.invokevirtual 198, 3) := dr9 dk9_dX11_get_0_0.2.1 12 (84, .invokevirtual 198, 3) rfl
theorem dX11_get_87 : decode cX11_get 87 = .ok (.aload_n 0, 1) := dr9 dk9_dX11_get_0_0.2.1 13 (87, .aload_n 0, 1) rfl
theorem dX11_get_88 : decode cX11_get 88 = .ok (.getfield 61, 3) := dr9 dk9_dX11_get_0_0.2.1 14 (88, .getfield 61, 3) rfl
theorem dX11_get_91 : decode cX11_get 91 = .ok (.invokevirtual 202, 3) := dr9 dk9_dX11_get_0_0.2.1 15 (91, .invokevirtual 202, 3) rfl
theorem dX11_get_94 : decode cX11_get 94 = .ok (.aload_n 0, 1) := dr9 dk9_dX11_get_0_0.2.1 16 (94, .aload_n 0, 1) rfl
theorem dX11_get_95 : decode cX11_get 95 = .ok (.aload_n 0, 1) := dr9 dk9_dX11_get_0_0.2.1 17 (95, .aload_n 0, 1) rfl
theorem dX11_get_96 : decode cX11_get 96 = .ok (.getfield 61, 3) := dr9 dk9_dX11_get_0_0.2.1 18 (96, .getfield 61, 3) rfl
theorem dX11_get_99 : decode cX11_get 99 = .ok (.invokevirtual 205, 3) := dr9 dk9_dX11_get_0_0.2.1 19 (99, .invokevirtual 205, 3) rfl
theorem dX11_get_102 : decode cX11_get 102 = .ok (.aload_n 0, 1) := dr9 dk9_dX11_get_0_0.2.1 20 (102, .aload_n 0, 1) rfl
theorem dX11_get_103 : decode cX11_get 103 = .ok (.getfield 61, 3) := dr9 dk9_dX11_get_0_0.2.1 21 (103, .getfield 61, 3) rfl
theorem dX11_get_106 : decode cX11_get 106 = .ok (.iconst (-1), 1) := dr9 dk9_dX11_get_0_0.2.1 22 (106, .iconst (-1), 1) rfl
theorem dX11_get_107 : decode cX11_get 107 = .ok (.invokevirtual 209, 3) := dr9 dk9_dX11_get_0_0.2.1 23 (107, .invokevirtual 209, 3) rfl
theorem dX11_get_110 : decode cX11_get 110 = .ok (.invokevirtual 195, 3) := dr9 dk9_dX11_get_0_0.2.2 0 (110, .invokevirtual 195, 3) rfl
theorem dX11_get_113 : decode cX11_get 113 = .ok (.ireturn, 1) := dr9 dk9_dX11_get_0_0.2.2 1 (113, .ireturn, 1) rfl
theorem dX11_get_41 : decode cX11_get 41 = .ok (.aload_n 0, 1) := dr9 dk9_dX11_get_0_0.2.2 2 (41, .aload_n 0, 1) rfl
theorem dX11_get_42 : decode cX11_get 42 = .ok (.iconst 3, 1) := dr9 dk9_dX11_get_0_0.2.2 3 (42, .iconst 3, 1) rfl
theorem dX11_get_43 : decode cX11_get 43 = .ok (.iconst (-1), 1) := dr9 dk9_dX11_get_0_0.2.2 4 (43, .iconst (-1), 1) rfl
theorem dX11_get_44 : decode cX11_get 44 = .ok (.invokevirtual 195, 3) := dr9 dk9_dX11_get_0_0.2.2 5 (44, .invokevirtual 195, 3) rfl
theorem dX11_get_47 : decode cX11_get 47 = .ok (.ireturn, 1) := dr9 dk9_dX11_get_0_0.2.2 6 (47, .ireturn, 1) rfl
theorem dX11_get_23 : decode cX11_get 23 = .ok (.aload_n 0, 1) := dr9 dk9_dX11_get_0_0.2.2 7 (23, .aload_n 0, 1) rfl
theorem dX11_get_24 : decode cX11_get 24 = .ok (.iconst 4, 1) := dr9 dk9_dX11_get_0_0.2.2 8 (24, .iconst 4, 1) rfl
theorem dX11_get_25 : decode cX11_get 25 = .ok (.iconst (-1), 1) := dr9 dk9_dX11_get_0_0.2.2 9 (25, .iconst (-1), 1) rfl
theorem dX11_get_26 : decode cX11_get 26 = .ok (.invokevirtual 195, 3) := dr9 dk9_dX11_get_0_0.2.2 10 (26, .invokevirtual 195, 3) rfl
theorem dX11_get_29 : decode cX11_get 29 = .ok (.ireturn, 1) := dr9 dk9_dX11_get_0_0.2.2 11 (29, .ireturn, 1) rfl
theorem dk9_dX11_call_0_0 : dOk cX11_call [(0, .aload_n 0, 1), (1, .getfield 42, 3), (4, .iconst 0, 1), (5, .iconst 0, 1), (6, .invokevirtual 188, 3), (9, .aload_n 0, 1), (10, .getfield 42, 3), (13, .invokevirtual 212, 3), (16, .aload_n 0, 1), (17, .getfield 61, 3), (20, .invokevirtual 192, 3), (23, .aload_n 0, 1), (24, .getfield 35, 3), (27, .iload_n 1, 1), (28, .invokevirtual 182, 3), (31, .ifCond .ne 10, 3), (41, .aload_n 0, 1), (42, .getfield 35, 3), (45, .iload_n 2, 1), (46, .invokevirtual 215, 3), (49, .ifCond .eq 21, 3), (70, .aload_n 0, 1), (71, .iconst 4, 1), (72, .iconst 0, 1)] = true ∧ dOk cX11_call [(73, .invokevirtual 195, 3), (76, .ireturn, 1), (52, .iload_n 3, 1), (53, .ifCond .lt 17, 3), (56, .iload_n 3, 1), (57, .aload_n 0, 1), (58, .getfield 49, 3), (61, .getfield 218, 3), (64, .getfield 117, 3), (67, .if_icmp .lt 10, 3), (77, .aload_n 0, 1), (78, .getfield 42, 3), (81, .iconst 1, 1), (82, .putfield 221, 3), (85, .aload_n 0, 1), (86, .getfield 61, 3), (89, .iload_n 2, 1), (90, .iload_n 1, 1), (91, .iload_n 3, 1), (92, .iload 4, 2), (94, .iconst 1, 1), (95, .invokevirtual 224, 3), (98, .aload_n 0, 1), (99, .getfield 61, 3)] = true ∧ dOk cX11_call [(102, .invokevirtual 202, 3), (105, .aload_n 0, 1), (106, .getfield 42, 3), (109, .iconst 0, 1), (110, .putfield 221, 3), (113, .aload_n 0, 1), (114, .aload_n 0, 1), (115, .getfield 61, 3), (118, .invokevirtual 205, 3), (121, .aload_n 0, 1), (122, .getfield 61, 3), (125, .iconst 0, 1), (126, .invokevirtual 209, 3), (129, .invokevirtual 195, 3), (132, .ireturn, 1), (34, .aload_n 0, 1), (35, .iconst 3, 1), (36, .iconst 0, 1), (37, .invokevirtual 195, 3), (40, .ireturn, 1)] = true := by decide +kernel
theorem dX11_call_0 : decode cX11_call 0 = .ok (.aload_n 0, 1) := dr9 dk9_dX11_call_0_0.1 0 (0, .aload_n 0, 1) rfl
theorem dX11_call_1 : decode cX11_call 1 = .ok (.getfield 42, 3) := dr9 dk9_dX11_call_0_0.1 1 (1, .getfield 42, 3) rfl
theorem dX11_call_4 : decode cX11_call 4 = .ok (.iconst 0, 1) := dr9 dk9_dX11_call_0_0.1 2 (4, .iconst 0, 1) rfl
theorem dX11_call_5 : decode cX11_call 5 = .ok (.iconst 0, 1) := dr9 dk9_dX11_call_0_0.1 3 (5, .iconst 0, 1) rfl
theorem dX11_call_6 : decode cX11_call 6 = .ok (.invokevirtual 188, 3) := dr9 dk9_dX11_call_0_0.1 4 (6, .invokevirtual 188, 3) rfl
theorem dX11_call_9 : decode cX11_call 9 = .ok (.aload_n 0, 1) := dr9 dk9_dX11_call_0_0.1 5 (9, .aload_n 0, 1) rfl
theorem dX11_call_10 : decode cX11_call 10 = .ok (.getfield 42, 3) := dr9 dk9_dX11_call_0_0.1 6 (10, .getfield 42, 3) rfl
theorem dX11_call_13 : decode cX11_call 13 = .ok (.invokevirtual 212, 3) := dr9 dk9_dX11_call_0_0.1 7 (13, .invokevirtual 212, 3) rfl
theorem dX11_call_16 : decode cX11_call 16 = .ok (.aload_n 0, 1) := dr9 dk9_dX11_call_0_0.1 8 (16, .aload_n 0, 1) rfl
theorem dX11_call_17 : decode cX11_call 17 = .ok (.getfield 61, 3) := dr9 dk9_dX11_call_0_0.1 9 (17, .getfield 61, 3) rfl
theorem dX11_call_20 : decode cX11_call 20 = .ok (.invokevirtual 192, 3) := dr9 dk9_dX11_call_0_0.1 10 (20, .invokevirtual 192, 3) rfl
theorem dX11_call_23 : decode cX11_call 23 = .ok (.aload_n 0, 1) := dr9 dk9_dX11_call_0_0.1 11 (23, .aload_n 0, 1) rfl
theorem dX11_call_24 : decode cX11_call 24 = .ok (.getfield 35, 3) := dr9 dk9_dX11_call_0_0.1 12 (24, .getfield 35, 3) rfl
theorem dX11_call_27 : decode cX11_call 27 = .ok (.iload_n 1, 1) := dr9 dk9_dX11_call_0_0.1 13 (27, .iload_n 1, 1) rfl
theorem dX11_call_28 : decode cX11_call 28 = .ok (.invokevirtual 182, 3) := dr9 dk9_dX11_call_0_0.1 14 (28, .invokevirtual 182, 3) rfl
theorem dX11_call_31 : decode cX11_call 31 = .ok (.ifCond .ne 10, 3) := dr9 dk9_dX11_call_0_0.1 15 (31, .ifCond .ne 10, 3) rfl
theorem dX11_call_41 : decode cX11_call 41 = .ok (.aload_n 0, 1) := dr9 dk9_dX11_call_0_0.1 16 (41, .aload_n 0, 1) rfl
theorem dX11_call_42 : decode cX11_call 42 = .ok (.getfield 35, 3) := dr9 dk9_dX11_call_0_0.1 17 (42, .getfield 35, 3) rfl
theorem dX11_call_45 : decode cX11_call 45 = .ok (.iload_n 2, 1) := dr9 dk9_dX11_call_0_0.1 18 (45, .iload_n 2, 1) rfl
theorem dX11_call_46 : decode cX11_call 46 = .ok (.invokevirtual 215, 3) := dr9 dk9_dX11_call_0_0.1 19 (46, .invokevirtual 215, 3) rfl
theorem dX11_call_49 : decode cX11_call 49 = .ok (.ifCond .eq 21, 3) := dr9 dk9_dX11_call_0_0.1 20 (49, .ifCond .eq 21, 3) rfl
theorem dX11_call_70 : decode cX11_call 70 = .ok (.aload_n 0, 1) := dr9 dk9_dX11_call_0_0.1 21 (70, .aload_n 0, 1) rfl
theorem dX11_call_71 : decode cX11_call 71 = .ok (.iconst 4, 1) := dr9 dk9_dX11_call_0_0.1 22 (71, .iconst 4, 1) rfl
theorem dX11_call_72 : decode cX11_call 72 = .ok (.iconst 0, 1) := dr9 dk9_dX11_call_0_0.1 23 (72, .iconst 0, 1) rfl
theorem dX11_call_73 : decode cX11_call 73 = .ok (.invokevirtual 195, 3) := dr9 dk9_dX11_call_0_0.2.1 0 (73, .invokevirtual 195, 3) rfl
theorem dX11_call_76 : decode cX11_call 76 = .ok (.ireturn, 1) := dr9 dk9_dX11_call_0_0.2.1 1 (76, .ireturn, 1) rfl
theorem dX11_call_52 : decode cX11_call 52 = .ok (.iload_n 3, 1) := dr9 dk9_dX11_call_0_0.2.1 2 (52, .iload_n 3, 1) rfl
theorem dX11_call_53 : decode cX11_call 53 = .ok (.ifCond .lt 17, 3) := dr9 dk9_dX11_call_0_0.2.1 3 (53, .ifCond .lt 17, 3) rfl
theorem dX11_call_56 : decode cX11_call 56 = .ok (.iload_n 3, 1) := dr9 dk9_dX11_call_0_0.2.1 4 (56, .iload_n 3, 1) rfl
theorem dX11_call_57 : decode cX11_call 57 = .ok (.aload_n 0, 1) := dr9 dk9_dX11_call_0_0.2.1 5 (57, .aload_n 0, 1) rfl
theorem dX11_call_58 : decode cX11_call 58 = .ok (.getfield 49, 3) := dr9 dk9_dX11_call_0_0.2.1 6 (58, .getfield 49, 3) rfl
theorem dX11_call_61 : decode cX11_call 61 = .ok (.getfield 218, 3) := dr9 dk9_dX11_call_0_0.2.1 7 (61, .getfield 218, 3) rfl
theorem dX11_call_64 : decode cX11_call 64 = .ok (.getfield 117, 3) := dr9 dk9_dX11_call_0_0.2.1 8 (64, .getfield 117, 3) rfl
theorem dX11_call_67 : decode cX11_call 67 = .ok (.if_icmp .lt 10, 3) := dr9 dk9_dX11_call_0_0.2.1 9 (67, .if_icmp .lt 10, 3) rfl
theorem dX11_call_77 : decode cX11_call 77 = .ok (.aload_n 0, 1) := dr9 dk9_dX11_call_0_0.2.1 10 (77, .aload_n 0, 1) rfl
theorem dX11_call_78 : decode cX11_call 78 = .ok (.getfield 42, 3) := dr9 dk9_dX11_call_0_0.2.1 11 (78, .getfield 42, 3) rfl
theorem dX11_call_81 : decode cX11_call 81 = .ok (.iconst 1, 1) := dr9 dk9_dX11_call_0_0.2.1 12 (81, .iconst 1, 1) rfl
theorem dX11_call_82 : decode cX11_call 82 = .ok (.putfield 221, 3) := dr9 dk9_dX11_call_0_0.2.1 13 (82, .putfield 221, 3) rfl
theorem dX11_call_85 : decode cX11_call 85 = .ok (.aload_n 0, 1) := dr9 dk9_dX11_call_0_0.2.1 14 (85, .aload_n 0, 1) rfl
theorem dX11_call_86 : decode cX11_call 86 = .ok (.getfield 61, 3) := dr9 dk9_dX11_call_0_0.2.1 15 (86, .getfield 61, 3) rfl
theorem dX11_call_89 : decode cX11_call 89 = .ok (.iload_n 2, 1) := dr9 dk9_dX11_call_0_0.2.1 16 (89, .iload_n 2, 1) rfl
theorem dX11_call_90 : decode cX11_call 90 = .ok (.iload_n 1, 1) := dr9 dk9_dX11_call_0_0.2.1 17 (90, .iload_n 1, 1) rfl
theorem dX11_call_91 : decode cX11_call 91 = .ok (.iload_n 3, 1) := dr9 dk9_dX11_call_0_0.2.1 18 (91, .iload_n 3, 1) rfl
theorem dX11_call_92 : decode cX11_call 92 = .ok (.iload 4, 2) := dr9 dk9_dX11_call_0_0.2.1 19 (92, .iload 4, 2) rfl
theorem dX11_call_94 : decode cX11_call 94 = .ok (.iconst 1, 1) := dr9 dk9_dX11_call_0_0.2.1 20 (94, .iconst 1, 1) rfl
theorem dX11_call_95 : decode cX11_call 95 = .ok (.invokevirtual 224, 3) := dr9 dk9_dX11_call_0_0.2.1 21 (95, .invokevirtual 224, 3) rfl
theorem dX11_call_98 : decode cX11_call 98 = .ok (.aload_n 0, 1) := dr9 dk9_dX11_call_0_0.2.1 22 (98, .aload_n 0, 1) rfl
theorem dX11_call_99 : decode cX11_call 99 = .ok (.getfield 61, 3) := dr9 dk9_dX11_call_0_0.2.1 23 (99, .getfield 61, 3) rfl
theorem dX11_call_102 : decode cX11_call 102 = .ok (.invokevirtual 202, 3) := dr9 dk9_dX11_call_0_0.2.2 0 (102, .invokevirtual 202, 3) rfl
theorem dX11_call_105 : decode cX11_call 105 = .ok (.aload_n 0, 1) := dr9 dk9_dX11_call_0_0.2.2 1 (105, .aload_n 0, 1) rfl
theorem dX11_call_106 : decode cX11_call 106 = .ok (.getfield 42, 3) := dr9 dk9_dX11_call_0_0.2.2 2 (106, .getfield 42, 3) rfl
theorem dX11_call_109 : decode cX11_call 109 = .ok (.iconst 0, 1) := dr9 dk9_dX11_call_0_0.2.2 3 (109, .iconst 0, 1) rfl
theorem dX11_call_110 : decode cX11_call 110 = .ok (.putfield 221, 3) := dr9 dk9_dX11_call_0_0.2.2 4 (110, .putfield 221, 3) rfl
theorem dX11_call_113 : decode cX11_call 113 = .ok (.aload_n 0, 1) := dr9 dk9_dX11_call_0_0.2.2 5 (113, .aload_n 0, 1) rfl
theorem dX11_call_114 : decode cX11_call 114 = .ok (.aload_n 0, 1) := dr9 dk9_dX11_call_0_0.2.2 6 (114, .aload_n 0, 1) rfl
theorem dX11_call_115 : decode cX11_call 115 = .ok (.getfield 61, 3) := dr9 dk9_dX11_call_0_0.2.2 7 (115, .getfield 61, 3) rfl
theorem dX11_call_118 : decode cX11_call 118 = .ok (.invokevirtual 205, 3) := dr9 dk9_dX11_call_0_0.2.2 8 (118, .invokevirtual 205, 3) rfl
theorem dX11_call_121 : decode cX11_call 121 = .ok (.aload_n 0, 1) := dr9 dk9_dX11_call_0_0.2.2 9 (121, .aload_n 0, 1) rfl
theorem dX11_call_122 : decode cX11_call 122 = .ok (.getfield 61, 3) := dr9 dk9_dX11_call_0_0.2.2 10 (122, .getfield 61, 3) rfl
theorem dX11_call_125 : decode cX11_call 125 = .ok (.iconst 0, 1) := dr9 dk9_dX11_call_0_0.2.2 11 (125, .iconst 0, 1) rfl
theorem dX11_call_126 : decode cX11_call 126 = .ok (.invokevirtual 209, 3) := dr9 dk9_dX11_call_0_0.2.2 12 (126, .invokevirtual 209, 3) rfl
theorem dX11_call_129 : decode cX11_call 129 = .ok (.invokevirtual 195, 3) := dr9 dk9_dX11_call_0_0.2.2 13 (129, .invokevirtual 195, 3) rfl
theorem dX11_call_132 : decode cX11_call 132 = .ok (.ireturn, 1) := dr9 dk9_dX11_call_0_0.2.2 14 (132, .ireturn, 1) rfl
theorem dX11_call_34 : decode cX11_call 34 = .ok (.aload_n 0, 1) := dr9 dk9_dX11_call_0_0.2.2 15 (34, .aload_n 0, 1) rfl
theorem dX11_call_35 : decode cX11_call 35 = .ok (.iconst 3, 1) := dr9 dk9_dX11_call_0_0.2.2 16 (35, .iconst 3, 1) rfl
theorem dX11_call_36 : decode cX11_call 36 = .ok (.iconst 0, 1) := dr9 dk9_dX11_call_0_0.2.2 17 (36, .iconst 0, 1) rfl
theorem dX11_call_37 : decode cX11_call 37 = .ok (.invokevirtual 195, 3) := dr9 dk9_dX11_call_0_0.2.2 18 (37, .invokevirtual 195, 3) rfl
theorem dX11_call_40 : decode cX11_call 40 = .ok (.ireturn, 1) := dr9 dk9_dX11_call_0_0.2.2 19 (40, .ireturn, 1) rfl
abbrev r_x_h_get (Z : XZ) : Room := { frames := 8, cells := zcc Z, slots := zss Z, locals := 181 }
abbrev q_x_h_get (D : va_G) (ks : KS) (ad : Nat → Nat) (kk : Nat → ClassId) (V : Vf) (L : Lf) (Z : XZ) (p0 : Int32) (p1 : Int32) (b : Nat) (A : Nat → Prop) : Array Value → State → Outcome → State → Prop := qZi D (fun (r : Int32) (u : Vf × Lf × XZ) => rgd bX u.1 ∧ agr [(0, 9), (3, 13), (3, 14), (3, 15), (4, 5), (4, 6), (4, 7), (4, 8), (5, 6), (5, 7), (5, 8), (5, 9), (5, 10), (5, 11), (5, 12), (5, 13), (5, 14)] [24, 25, 26, 27, 28, 29, 30, 31, 32, 33, 34, 35, 36, 37, 39, 40, 67, 68, 69, 70, 71, 72, 73, 74, 75, 76, 77, 78, 79, 80, 81, 82, 83, 84, 85] V u.1 ∧ u.2.1 = L ∧ ZL Z u.2.2 ∧ (HI u.1 u.2.2 b)) (fun u => xw ad kk u.1 u.2.1 u.2.2) (fun u => xty kk u.2.2) (fun u => zcc Z - zcc u.2.2) (fun u => zss Z - zss u.2.2) A
set_option maxHeartbeats 4000000 in
set_option maxRecDepth 100000 in
theorem x_h_get (l : Launch) (D : va_G) (ks : KS) (sz : Nat) (ad : Nat → Nat) (kk : Nat → ClassId) (V : Vf) (L : Lf) (Z : XZ) (p0 : Int32) (p1 : Int32) (b : Nat) (hMV : rgd bX V) (hb2 : b < 2) (shk : (V 0 6).toInt = (b : Int)) (hi : HI V Z b)  : Met l yX11_get (Cond.code yX11_get cX11_get 3 (some .int) :: GW) (r_x_h_get Z) (va_Pc [.ref (ad 0), .int p0, .int p1] (gp D ks (xw ad kk V L Z) (xty kk Z) sz)) (q_x_h_get D ks ad kk V L Z p0 p1 b (va_A (xw ad kk V L Z) sz)) (zcc Z) (zss Z) (va_A (xw ad kk V L Z) sz) := by
  refine g_met (q_x_h_get D ks ad kk V L Z p0 p1 b) (by decide) (Nat.le_of_ble_eq_true rfl) ?_
  intro p e s m below meth c A ls H locs hx hb hr hml hown hg hlocks hin hnw hgk hP hK hD hS hA hl
  have hown : s.vm.findClass RX11 = some m.cls := hown
  have hl : lv_has ls 3 [(0, .ref (ad 0)), (1, .int p0), (2, .int p1)] := hl
  have hP : va_P D vwCl (xw ad kk V L Z) H := hP
  have hD : va_D A (xw ad kk V L Z) := hD
  have hK : va_K D vwCl (xty kk Z) s := hK
  have agV : agr [(0, 9), (3, 13), (3, 14), (3, 15), (4, 5), (4, 6), (4, 7), (4, 8), (5, 6), (5, 7), (5, 8), (5, 9), (5, 10), (5, 11), (5, 12), (5, 13), (5, 14)] [24, 25, 26, 27, 28, 29, 30, 31, 32, 33, 34, 35, 36, 37, 39, 40, 67, 68, 69, 70, 71, 72, 73, 74, 75, 76, 77, 78, 79, 80, 81, 82, 83, 84, 85] V V := agr.rf
  have zoZ : ZL Z Z := ZL.rf
  refine W.know (fun ka kb => ?_)
  refine W.tight (k := zcc Z - zcc Z) (n := zss Z - zss Z) (by omega) (by omega) ?_
  have r1 : 0 ≤ ((V 0 6)).toInt ∧ ((V 0 6)).toInt ≤ 1 := hMV 0 6
  refine lv_aload_n hx hb dX11_get_0 rfl (lv_at hl 0 rfl) ?_
  refine va_get (D := D) (ci := 11) (v := .ref (ad 4)) (fs := (xfHouse ad V L Z)) (C := RX11) (T := TX11) (N := 10) hx hb hg inX11 hown hK hP 0 xgHouse rfl 4 (by decide) (hg _ w719) (fun _ h9 => h9) rfl dX11_get_1 ?_
  refine lv_iconst (v := 0) hx hb dX11_get_4 (by decide) ?_
  refine lv_iconst (v := 0) hx hb dX11_get_5 (by decide) ?_
  have r2 : Int32.toInt 0 = 0 := by decide
  refine gA_void (gA_runV (As := [.int 0, .int 0]) (rest := []) (ci := 7) (q0 := 4) hx hb hml hown hg hP hD hK hS hA hnw hgk (x_NnoteCause l D ks H.size ad kk V L Z 0 0 hMV ) w1166 w1167 w1168 w166 w1169 rfl xgNotes hdV_yX7_noteCause ⟨Nat.le_of_ble_eq_true rfl, Nat.le_of_ble_eq_true rfl⟩ rfl hl.1 rfl (Nat.le_of_ble_eq_true rfl) dX11_get_6 ⟨z0, z0⟩) hP hD hK hS hA (fun u4 H locs w5 hP hD hK hS => ?_)
  obtain ⟨V6, L7⟩ := u4
  obtain ⟨hMV6, ajV6, axL7⟩ := w5
  have axL7 : L = L7 := Eq.symm axL7
  subst axL7
  have hP : va_P D vwCl (xw ad kk V6 L Z) H := hP
  have hD : va_D A (xw ad kk V6 L Z) := hD
  have hMV6 : rgd bX V6 := hMV6
  have ajV6 : agr [(4, 7), (4, 8)] [] V V6 := ajV6
  have agV6 : agr [(0, 9), (3, 13), (3, 14), (3, 15), (4, 5), (4, 6), (4, 7), (4, 8), (5, 6), (5, 7), (5, 8), (5, 9), (5, 10), (5, 11), (5, 12), (5, 13), (5, 14)] [24, 25, 26, 27, 28, 29, 30, 31, 32, 33, 34, 35, 36, 37, 39, 40, 67, 68, 69, 70, 71, 72, 73, 74, 75, 76, 77, 78, 79, 80, 81, 82, 83, 84, 85] V V6 := agV.tr ajV6 (by decide) (by decide)
  refine lv_aload_n hx hb dX11_get_9 rfl (lv_at hl 0 rfl) ?_
  refine va_get (D := D) (ci := 11) (v := .ref (ad 5)) (fs := (xfHouse ad V6 L Z)) (C := RX11) (T := TX11) (N := 10) hx hb hg inX11 hown hK hP 0 xgHouse rfl 5 (by decide) (hg _ w720) (fun _ h9 => h9) rfl dX11_get_10 ?_
  refine gA_void (gA_runV (As := []) (rest := []) (ci := 5) (q0 := 5) hx hb hml hown hg hP hD hK hS hA hnw hgk (x_restart l D ks H.size ad kk V6 L Z  hMV6 ) w1170 w1044 w1045 w171 w1046 rfl xgMachine hdV_yX5_restart ⟨Nat.le_of_ble_eq_true rfl, Nat.le_of_ble_eq_true rfl⟩ rfl hl.1 rfl (Nat.le_of_ble_eq_true rfl) dX11_get_13 ⟨z0, z0⟩) hP hD hK hS hA (fun u9 H locs w10 hP hD hK hS => ?_)
  obtain ⟨V16, L17⟩ := u9
  obtain ⟨hMV16, ajV16, axL17, t11, t12, t13, t14, t15⟩ := w10
  have axL17 : L = L17 := Eq.symm axL17
  subst axL17
  have hP : va_P D vwCl (xw ad kk V16 L Z) H := hP
  have hD : va_D A (xw ad kk V16 L Z) := hD
  have hMV16 : rgd bX V16 := hMV16
  have ajV16 : agr [(5, 6), (5, 7), (5, 8), (5, 9), (5, 13)] [] V6 V16 := ajV16
  have agV16 : agr [(0, 9), (3, 13), (3, 14), (3, 15), (4, 5), (4, 6), (4, 7), (4, 8), (5, 6), (5, 7), (5, 8), (5, 9), (5, 10), (5, 11), (5, 12), (5, 13), (5, 14)] [24, 25, 26, 27, 28, 29, 30, 31, 32, 33, 34, 35, 36, 37, 39, 40, 67, 68, 69, 70, 71, 72, 73, 74, 75, 76, 77, 78, 79, 80, 81, 82, 83, 84, 85] V V16 := agV6.tr ajV16 (by decide) (by decide)
  have t11 : (V16 5 6).toInt = 0 := t11
  have t12 : (V16 5 7).toInt = 0 := t12
  have t13 : (V16 5 8).toInt = 0 := t13
  have t14 : (V16 5 9).toInt = 0 := t14
  have t15 : (V16 5 13).toInt = 0 := t15
  have r18 : 0 ≤ ((V16 5 6)).toInt ∧ ((V16 5 6)).toInt ≤ 400 := hMV16 5 6
  have r19 : 0 ≤ ((V16 5 7)).toInt ∧ ((V16 5 7)).toInt ≤ 2048 := hMV16 5 7
  have r20 : 0 ≤ ((V16 5 8)).toInt ∧ ((V16 5 8)).toInt ≤ 300 := hMV16 5 8
  have r21 : 0 ≤ ((V16 5 9)).toInt ∧ ((V16 5 9)).toInt ≤ 3 := hMV16 5 9
  have r22 : 0 ≤ ((V16 5 13)).toInt ∧ ((V16 5 13)).toInt ≤ 3000 := hMV16 5 13
  refine lv_aload_n hx hb dX11_get_16 rfl (lv_at hl 0 rfl) ?_
  refine va_get (D := D) (ci := 11) (v := .int (V16 0 8)) (fs := (xfHouse ad V16 L Z)) (C := RX11) (T := TX11) (N := 10) hx hb hg inX11 hown hK hP 0 xgHouse rfl 8 (by decide) (hg _ w723) (fun _ h9 => h9) rfl dX11_get_17 ?_
  refine g_top (v := (V 0 8)) ((ajV16 0 8 rfl).trans (ajV6 0 8 rfl)) ?_
  have r23 : 0 ≤ ((V 0 8)).toInt ∧ ((V 0 8)).toInt ≤ 1 := hMV 0 8
  refine lv_if_ne (tgt := 30) hx hb dX11_get_20 (by decide) (fun c24 => ?_) (fun c24 => ?_)
  · skip
    have f25 : ((V 0 8)).toInt ≠ 0 := b_neq rfl (by decide) c24
    refine lv_aload_n hx hb dX11_get_30 rfl (lv_at hl 0 rfl) ?_
    refine va_get (D := D) (ci := 11) (v := .ref (ad 3)) (fs := (xfHouse ad V16 L Z)) (C := RX11) (T := TX11) (N := 10) hx hb hg inX11 hown hK hP 0 xgHouse rfl 3 (by decide) (hg _ w718) (fun _ h9 => h9) rfl dX11_get_31 ?_
    refine lv_iload_n hx hb dX11_get_34 rfl (lv_at hl 1 rfl) ?_
    refine gA_int (gA_runV (As := [.int p0]) (rest := []) (ci := 8) (q0 := 3) hx hb hml hown hg hP hD hK hS hA hnw hgk (x_isOpen l D ks H.size ad kk V16 L Z p0 hMV16 ) w1158 w1159 w1160 w164 w1161 rfl xgStock hdV_yX8_isOpen ⟨Nat.le_of_ble_eq_true rfl, Nat.le_of_ble_eq_true rfl⟩ rfl hl.1 rfl (Nat.le_of_ble_eq_true rfl) dX11_get_35 ⟨z0, z0⟩) hP hD hK hS hA (fun z26 u27 H locs w28 hP hD hK hS => ?_)
    obtain ⟨rgz26, t29⟩ := w28
    have rgz26 : 0 ≤ z26.toInt ∧ z26.toInt ≤ 1 := rgz26
    have t29 : Imp (z26.toInt = 1) (0 ≤ p0.toInt ∧ p0.toInt < (V16 3 12).toInt) := t29
    have pq30 : (V16 3 12).toInt = ((V 3 12)).toInt := congrArg Int32.toInt ((ajV16 3 12 rfl).trans (ajV6 3 12 rfl))
    have r31 : 1 ≤ ((V 3 12)).toInt ∧ ((V 3 12)).toInt ≤ 40 := hMV 3 12
    refine lv_if_ne (tgt := 48) hx hb dX11_get_38 (by decide) (fun c32 => ?_) (fun c32 => ?_)
    · skip
      have f33 : z26.toInt ≠ 0 := b_neq rfl (by decide) c32
      have rh34 := Imp.go t29 (by (first | exact om_2ebe32d50835 rgz26.1 rgz26.2 f33 | omega))
      refine lv_aload_n hx hb dX11_get_48 rfl (lv_at hl 0 rfl) ?_
      refine va_get (D := D) (ci := 11) (v := .ref (ad (38 + Int32.toNatClampNeg (V16 0 6)))) (fs := (xfHouse ad V16 L Z)) (C := RX11) (T := TX11) (N := 10) hx hb hg inX11 hown hK hP 0 xgHouse rfl 6 (by decide) (hg _ w721) (fun _ h9 => h9) rfl dX11_get_49 ?_
      have pq35 : (V16 0 6).toInt = ((V 0 6)).toInt := congrArg Int32.toInt ((ajV16 0 6 rfl).trans (ajV6 0 6 rfl))
      refine g_topv (v := .ref (ad (38 + b))) (rfP (by first | omega | ((try (have i_t29 := Imp.go t29 (by omega))); omega))) ?_
      refine lv_iload_n hx hb dX11_get_52 rfl (lv_at hl 2 rfl) ?_
      refine gA_int (gA_runV (As := [.int p1]) (rest := []) (ci := 0) (q0 := (38 + b)) hx hb hml hown hg hP hD hK hS hA hnw hgk (x_bhas l D ks H.size ad kk V16 L Z p1 (b) hMV16 (show b < 2 from by first | exact om_f940a4667dd6 hb2 | first | omega | ((try (have i_t29 := Imp.go t29 (by omega))); omega))) w1137 w1138 w1139 w167 w1140 rfl (xgBook hb2) hdV_yX0_has ⟨Nat.le_of_ble_eq_true rfl, Nat.le_of_ble_eq_true rfl⟩ rfl hl.1 rfl (Nat.le_of_ble_eq_true rfl) dX11_get_53 ⟨z0, z0⟩) hP hD hK hS hA (fun z36 u37 H locs w38 hP hD hK hS => ?_)
      obtain ⟨rgz36, t39⟩ := w38
      have rgz36 : 0 ≤ z36.toInt ∧ z36.toInt ≤ 1 := rgz36
      have t39 : Imp (z36.toInt = 1) (0 ≤ p1.toInt ∧ p1.toInt < (V16 43 (5 * b + 2)).toInt) := t39
      refine lv_if_eq (tgt := 70) hx hb dX11_get_56 (by decide) (fun c40 => ?_) (fun c40 => ?_)
      · skip
        have f41 : z36.toInt = 0 := b_eq rfl (by decide) c40
        refine lv_aload_n hx hb dX11_get_70 rfl (lv_at hl 0 rfl) ?_
        refine lv_iconst (v := 4) hx hb dX11_get_71 (by decide) ?_
        refine lv_iconst (v := (-1)) hx hb dX11_get_72 (by decide) ?_
        have r42 : Int32.toInt 4 = 4 := by decide
        have r43 : Int32.toInt (-1) = (-1) := by decide
        refine gA_int (gA_runV (As := [.int 4, .int (-1)]) (rest := []) (ci := 11) (q0 := 0) hx hb hml hown hg hP hD hK hS hA hnw hgk (x_ends l D ks H.size ad kk V16 L Z 4 (-1) hMV16 ) w1171 w1173 w42 w156 w1174 rfl xgHouse hdV_yX11_ends ⟨Nat.le_of_ble_eq_true rfl, Nat.le_of_ble_eq_true rfl⟩ rfl hl.1 rfl (Nat.le_of_ble_eq_true rfl) dX11_get_73 ⟨z0, z0⟩) hP hD hK hS hA (fun z44 u45 H locs w46 hP hD hK hS => ?_)
        obtain ⟨V47, L48⟩ := u45
        obtain ⟨hMV47, ajV47, axL48⟩ := w46
        have axL48 : L = L48 := Eq.symm axL48
        subst axL48
        have hP : va_P D vwCl (xw ad kk V47 L Z) H := hP
        have hD : va_D A (xw ad kk V47 L Z) := hD
        have hMV47 : rgd bX V47 := hMV47
        have ajV47 : agr [(0, 9)] [] V16 V47 := ajV47
        have agV47 : agr [(0, 9), (3, 13), (3, 14), (3, 15), (4, 5), (4, 6), (4, 7), (4, 8), (5, 6), (5, 7), (5, 8), (5, 9), (5, 10), (5, 11), (5, 12), (5, 13), (5, 14)] [24, 25, 26, 27, 28, 29, 30, 31, 32, 33, 34, 35, 36, 37, 39, 40, 67, 68, 69, 70, 71, 72, 73, 74, 75, 76, 77, 78, 79, 80, 81, 82, 83, 84, 85] V V47 := agV16.tr ajV47 (by decide) (by decide)
        have hi49 : HI V47 Z b := (HI.ag (HI.ag (HI.ag hi ajV6 (by decide)) ajV16 (by decide)) ajV47 (by decide))
        refine W.know (fun kr1 kr2 => ?_)
        refine W.widen (k := zcc Z) (n := zss Z) (Nat.sub_le _ _) (Nat.sub_le _ _) ?_
        exact W.iret (v := z44) hx hb hr (fun t ht hW => ⟨⟨z44, (V47, L, Z), rfl, ⟨hMV47, agV47, rfl, zoZ, hi49⟩, ⟨by rw [ht]; exact hP, va_K.moved hW.alike hK, hD⟩, by rw [ht]; exact kr1, by rw [ht]; exact kr2⟩, hS.F ht⟩) hS.2.2 dX11_get_76
      · skip
        have f50 : z36.toInt ≠ 0 := b_neq rfl (by decide) c40
        have rh51 := Imp.go t39 (by (first | exact om_2ebe32d50835 rgz36.1 rgz36.2 f50 | omega))
        have pq52 : (V16 43 (5 * b + 2)).toInt = ((V 43 (5 * b + 2))).toInt := congrArg Int32.toInt ((ajV16 43 (5 * b + 2) rfl).trans (ajV6 43 (5 * b + 2) rfl))
        have r53 : 0 ≤ ((V 43 (5 * b + 2))).toInt ∧ ((V 43 (5 * b + 2))).toInt ≤ ((xcap (5 * b + 2) : Nat) : Int) := hMV 43 (5 * b + 2)
        have r54 : xcap (5 * b + 2) = 24 := xcap_2
        refine lv_aload_n hx hb dX11_get_59 rfl (lv_at hl 0 rfl) ?_
        refine va_get (D := D) (ci := 11) (v := .ref (ad (38 + Int32.toNatClampNeg (V16 0 6)))) (fs := (xfHouse ad V16 L Z)) (C := RX11) (T := TX11) (N := 10) hx hb hg inX11 hown hK hP 0 xgHouse rfl 6 (by decide) (hg _ w721) (fun _ h9 => h9) rfl dX11_get_60 ?_
        refine g_topv (v := .ref (ad (38 + b))) (rfP (by first | omega | ((try (have i_t39 := Imp.go t39 (by omega))); (try (have i_t29 := Imp.go t29 (by omega))); (try (have i_t29 := Imp.go t29 (by omega))); (try (have i_t39 := Imp.go t39 (by omega))); omega))) ?_
        refine lv_iload_n hx hb dX11_get_63 rfl (lv_at hl 2 rfl) ?_
        refine gA_int (gA_runV (As := [.int p1]) (rest := []) (ci := 0) (q0 := (38 + b)) hx hb hml hown hg hP hD hK hS hA hnw hgk (x_isThere l D ks H.size ad kk V16 L Z p1 (b) hMV16 (by first | exact om_afc7a4c8b051 pq52 r53.2 r54 ((Imp.go t39 (imp_a (rgz36.1) (rgz36.2) (f50))).1) ((Imp.go t39 (imp_a (rgz36.1) (rgz36.2) (f50))).2) | first | omega | ((try (have i_t39 := Imp.go t39 (by omega))); (try (have i_t29 := Imp.go t29 (by omega))); (try (have i_t29 := Imp.go t29 (by omega))); (try (have i_t39 := Imp.go t39 (by omega))); omega)) (show b < 2 from by first | exact om_f940a4667dd6 hb2 | first | omega | ((try (have i_t39 := Imp.go t39 (by omega))); (try (have i_t29 := Imp.go t29 (by omega))); (try (have i_t29 := Imp.go t29 (by omega))); (try (have i_t39 := Imp.go t39 (by omega))); omega))) w1175 w1070 w1071 w167 w1072 rfl (xgBook hb2) hdV_yX0_isThere ⟨Nat.le_of_ble_eq_true rfl, Nat.le_of_ble_eq_true rfl⟩ rfl hl.1 rfl (Nat.le_of_ble_eq_true rfl) dX11_get_64 ⟨z0, z0⟩) hP hD hK hS hA (fun z55 u56 H locs w57 hP hD hK hS => ?_)
        have rgz55 := w57
        have rgz55 : 0 ≤ z55.toInt ∧ z55.toInt ≤ 1 := rgz55
        refine lv_if_ne (tgt := 77) hx hb dX11_get_67 (by decide) (fun c58 => ?_) (fun c58 => ?_)
        · skip
          have f59 : z55.toInt ≠ 0 := b_neq rfl (by decide) c58
          have hi60 : HI V16 Z b := (HI.ag (HI.ag hi ajV6 (by decide)) ajV16 (by decide))
          have mt61 : MTr V16 Z b := HI.mtr hi60 (by (first | exact om_2af80aff8bcb rh51.1 rh51.2 | omega)) (by (first | exact om_b66ba74381d5 t13 | omega)) (by (first | exact om_b66ba74381d5 t11 | omega))
          refine lv_aload_n hx hb dX11_get_77 rfl (lv_at hl 0 rfl) ?_
          refine va_get (D := D) (ci := 11) (v := .ref (ad 5)) (fs := (xfHouse ad V16 L Z)) (C := RX11) (T := TX11) (N := 10) hx hb hg inX11 hown hK hP 0 xgHouse rfl 5 (by decide) (hg _ w720) (fun _ h9 => h9) rfl dX11_get_78 ?_
          refine lv_iload_n hx hb dX11_get_81 rfl (lv_at hl 2 rfl) ?_
          refine lv_iload_n hx hb dX11_get_82 rfl (lv_at hl 1 rfl) ?_
          refine lv_iconst (v := 0) hx hb dX11_get_83 (by decide) ?_
          refine W.know (fun k63 k64 => ?_)
          obtain ⟨Hk62, hHk62⟩ : ∃ z, z = H := ⟨_, rfl⟩
          have k63 : Hk62.size ≤ s.heap.size + (zcc Z - zcc Z) := by rw [hHk62]; exact k63
          have k64 : tot Hk62 ≤ tot s.heap + (zss Z - zss Z) := by rw [hHk62]; exact k64
          refine gZ_void (gA_runV (As := [.int p1, .int p0, .int 0]) (rest := []) (ci := 5) (q0 := 5) hx hb hml hown hg hP hD hK hS hA hnw hgk (x_pushRoot l D ks H.size ad kk V16 L Z p1 p0 0 (b) hMV16 (by first | exact om_cccd982b48f8 pq52 r53.2 r54 ((Imp.go t39 (imp_a (rgz36.1) (rgz36.2) (f50))).1) ((Imp.go t39 (imp_a (rgz36.1) (rgz36.2) (f50))).2) | first | omega | ((try (have i_t39 := Imp.go t39 (by omega))); (try (have i_t29 := Imp.go t29 (by omega))); (try (have i_t29 := Imp.go t29 (by omega))); (try (have i_t39 := Imp.go t39 (by omega))); omega)) (by first | exact om_47058e563f80 pq30 r31.2 ((Imp.go t29 (imp_a (rgz26.1) (rgz26.2) (f33))).1) ((Imp.go t29 (imp_a (rgz26.1) (rgz26.2) (f33))).2) | first | omega | ((try (have i_t39 := Imp.go t39 (by omega))); (try (have i_t29 := Imp.go t29 (by omega))); (try (have i_t29 := Imp.go t29 (by omega))); (try (have i_t39 := Imp.go t39 (by omega))); omega)) (show b < 2 from by first | exact om_f940a4667dd6 hb2 | first | omega | ((try (have i_t39 := Imp.go t39 (by omega))); (try (have i_t29 := Imp.go t29 (by omega))); (try (have i_t29 := Imp.go t29 (by omega))); (try (have i_t39 := Imp.go t39 (by omega))); omega)) mt61) w1176 w1177 w1178 w171 w1179 rfl xgMachine hdV_yX5_pushRoot ⟨Nat.le_of_ble_eq_true rfl, Nat.le_of_ble_eq_true rfl⟩ rfl hl.1 rfl (Nat.le_of_ble_eq_true rfl) dX11_get_84 ⟨z1 zoZ.1, z1 zoZ.2.1⟩) hD hS hA (fun u66 H locs w67 hP hD hK hS y68 y69 => ?_)
          obtain ⟨V70, L71, Z72⟩ := u66
          obtain ⟨hMV70, ajV70, axL71, zlZ72, t74⟩ := w67
          have axL71 : L = L71 := Eq.symm axL71
          subst axL71
          have hP : va_P D vwCl (xw ad kk V70 L Z72) H := hP
          have hD : va_D A (xw ad kk V70 L Z72) := hD
          have hK : va_K D vwCl (xty kk Z72) s := hK
          have hMV70 : rgd bX V70 := hMV70
          have ajV70 : agr [(5, 6), (5, 9)] [67, 68, 69, 70, 71, 72, 73, 74, 75, 76, 77, 78, 79, 80, 81, 82, 83, 84, 85] V16 V70 := ajV70
          have agV70 : agr [(0, 9), (3, 13), (3, 14), (3, 15), (4, 5), (4, 6), (4, 7), (4, 8), (5, 6), (5, 7), (5, 8), (5, 9), (5, 10), (5, 11), (5, 12), (5, 13), (5, 14)] [24, 25, 26, 27, 28, 29, 30, 31, 32, 33, 34, 35, 36, 37, 39, 40, 67, 68, 69, 70, 71, 72, 73, 74, 75, 76, 77, 78, 79, 80, 81, 82, 83, 84, 85] V V70 := agV16.tr ajV70 (by decide) (by decide)
          have zlZ72 : ZL Z Z72 := zlZ72
          have zoZ72 : ZL Z Z72 := ZL.tr zoZ zlZ72
          have ziZ72 := zlZ72.1
          have zjZ72 := zlZ72.2.1
          have zkZ72 := zlZ72.2.2.1
          have zmZ72 := zoZ72.1
          have znZ72 := zoZ72.2.1
          have zpZ_Z72 := zoZ.1
          have zqZ_Z72 := zoZ.2.1
          have y68 : H.size ≤ Hk62.size + (zcc Z - zcc Z72) := by rw [hHk62]; exact y68
          have y69 : tot H ≤ tot Hk62 + (zss Z - zss Z72) := by rw [hHk62]; exact y69
          refine W.tight (k := zcc Z - zcc Z72) (n := zss Z - zss Z72) (by first | exact tg9 y68 k63 zlZ72.1 zoZ.1 | omega) (by first | exact tg9 y69 k64 zlZ72.2.1 zoZ.2.1 | omega) ?_
          have t74 : MJ V70 Z72 b := t74
          refine lv_aload_n hx hb dX11_get_87 rfl (lv_at hl 0 rfl) ?_
          refine va_get (D := D) (ci := 11) (v := .ref (ad 5)) (fs := (xfHouse ad V70 L Z72)) (C := RX11) (T := TX11) (N := 10) hx hb hg inX11 hown hK hP 0 xgHouse rfl 5 (by decide) (hg _ w720) (fun _ h9 => h9) rfl dX11_get_88 ?_
          refine W.know (fun k76 k77 => ?_)
          obtain ⟨Hk75, hHk75⟩ : ∃ z, z = H := ⟨_, rfl⟩
          have k76 : Hk75.size ≤ s.heap.size + (zcc Z - zcc Z72) := by rw [hHk75]; exact k76
          have k77 : tot Hk75 ≤ tot s.heap + (zss Z - zss Z72) := by rw [hHk75]; exact k77
          refine gZ_void (gA_runV (As := []) (rest := []) (ci := 5) (q0 := 5) hx hb hml hown hg hP hD hK hS hA hnw hgk (x_run l D ks H.size ad kk V70 L Z72 (b) hMV70 (show b < 2 from by first | exact om_f940a4667dd6 hb2 | first | omega | ((try (have i_t39 := Imp.go t39 (by omega))); (try (have i_t29 := Imp.go t29 (by omega))); (try (have i_t29 := Imp.go t29 (by omega))); (try (have i_t39 := Imp.go t39 (by omega))); omega)) t74) w1247 w1248 w1249 w171 w1250 rfl xgMachine hdV_yX5_run ⟨Nat.le_of_ble_eq_true rfl, Nat.le_of_ble_eq_true rfl⟩ rfl hl.1 rfl (Nat.le_of_ble_eq_true rfl) dX11_get_91 ⟨z1 zoZ72.1, z1 zoZ72.2.1⟩) hD hS hA (fun u79 H locs w80 hP hD hK hS y81 y82 => ?_)
          obtain ⟨V83, L84, Z85⟩ := u79
          obtain ⟨hMV83, ajV83, axL84, zlZ85, t87⟩ := w80
          have axL84 : L = L84 := Eq.symm axL84
          subst axL84
          have hP : va_P D vwCl (xw ad kk V83 L Z85) H := hP
          have hD : va_D A (xw ad kk V83 L Z85) := hD
          have hK : va_K D vwCl (xty kk Z85) s := hK
          have hMV83 : rgd bX V83 := hMV83
          have ajV83 : agr [(3, 13), (3, 14), (3, 15), (4, 5), (4, 6), (5, 6), (5, 7), (5, 8), (5, 9), (5, 10), (5, 11), (5, 12), (5, 13), (5, 14)] [24, 25, 26, 27, 28, 29, 30, 31, 32, 33, 34, 35, 36, 37, 39, 40, 67, 68, 69, 70, 71, 72, 73, 74, 75, 76, 77, 78, 79, 80, 81, 82, 83, 84, 85] V70 V83 := ajV83
          have agV83 : agr [(0, 9), (3, 13), (3, 14), (3, 15), (4, 5), (4, 6), (4, 7), (4, 8), (5, 6), (5, 7), (5, 8), (5, 9), (5, 10), (5, 11), (5, 12), (5, 13), (5, 14)] [24, 25, 26, 27, 28, 29, 30, 31, 32, 33, 34, 35, 36, 37, 39, 40, 67, 68, 69, 70, 71, 72, 73, 74, 75, 76, 77, 78, 79, 80, 81, 82, 83, 84, 85] V V83 := agV70.tr ajV83 (by decide) (by decide)
          have zlZ85 : ZL Z72 Z85 := zlZ85
          have zoZ85 : ZL Z Z85 := ZL.tr zoZ72 zlZ85
          have ziZ85 := zlZ85.1
          have zjZ85 := zlZ85.2.1
          have zkZ85 := zlZ85.2.2.1
          have zmZ85 := zoZ85.1
          have znZ85 := zoZ85.2.1
          have zpZ72_Z85 := zoZ72.1
          have zqZ72_Z85 := zoZ72.2.1
          have y81 : H.size ≤ Hk75.size + (zcc Z72 - zcc Z85) := by rw [hHk75]; exact y81
          have y82 : tot H ≤ tot Hk75 + (zss Z72 - zss Z85) := by rw [hHk75]; exact y82
          refine W.tight (k := zcc Z - zcc Z85) (n := zss Z - zss Z85) (by first | exact tg9 y81 k76 zlZ85.1 zoZ72.1 | omega) (by first | exact tg9 y82 k77 zlZ85.2.1 zoZ72.2.1 | omega) ?_
          have t87 : MJ V83 Z85 b := t87
          refine lv_aload_n hx hb dX11_get_94 rfl (lv_at hl 0 rfl) ?_
          refine lv_aload_n hx hb dX11_get_95 rfl (lv_at hl 0 rfl) ?_
          refine va_get (D := D) (ci := 11) (v := .ref (ad 5)) (fs := (xfHouse ad V83 L Z85)) (C := RX11) (T := TX11) (N := 10) hx hb hg inX11 hown hK hP 0 xgHouse rfl 5 (by decide) (hg _ w720) (fun _ h9 => h9) rfl dX11_get_96 ?_
          refine gA_int (gA_runV (As := []) (rest := [.ref (ad 0)]) (ci := 5) (q0 := 5) hx hb hml hown hg hP hD hK hS hA hnw hgk (x_howItEnded l D ks H.size ad kk V83 L Z85  hMV83 ) w1501 w1502 w1503 w171 w1504 rfl xgMachine hdV_yX5_howItEnded ⟨Nat.le_of_ble_eq_true rfl, Nat.le_of_ble_eq_true rfl⟩ rfl hl.1 rfl (Nat.le_of_ble_eq_true rfl) dX11_get_99 ⟨z0, z0⟩) hP hD hK hS hA (fun z88 u89 H locs w90 hP hD hK hS => ?_)
          obtain ⟨V91, L92⟩ := u89
          obtain ⟨hMV91, ajV91, axL92⟩ := w90
          have axL92 : L = L92 := Eq.symm axL92
          subst axL92
          have hP : va_P D vwCl (xw ad kk V91 L Z85) H := hP
          have hD : va_D A (xw ad kk V91 L Z85) := hD
          have hMV91 : rgd bX V91 := hMV91
          have ajV91 : agr [(4, 7), (4, 8)] [] V83 V91 := ajV91
          have agV91 : agr [(0, 9), (3, 13), (3, 14), (3, 15), (4, 5), (4, 6), (4, 7), (4, 8), (5, 6), (5, 7), (5, 8), (5, 9), (5, 10), (5, 11), (5, 12), (5, 13), (5, 14)] [24, 25, 26, 27, 28, 29, 30, 31, 32, 33, 34, 35, 36, 37, 39, 40, 67, 68, 69, 70, 71, 72, 73, 74, 75, 76, 77, 78, 79, 80, 81, 82, 83, 84, 85] V V91 := agV83.tr ajV91 (by decide) (by decide)
          refine lv_aload_n hx hb dX11_get_102 rfl (lv_at hl 0 rfl) ?_
          refine va_get (D := D) (ci := 11) (v := .ref (ad 5)) (fs := (xfHouse ad V91 L Z85)) (C := RX11) (T := TX11) (N := 10) hx hb hg inX11 hown hK hP 0 xgHouse rfl 5 (by decide) (hg _ w720) (fun _ h9 => h9) rfl dX11_get_103 ?_
          refine lv_iconst (v := (-1)) hx hb dX11_get_106 (by decide) ?_
          have r93 : Int32.toInt (-1) = (-1) := by decide
          refine gA_int (gA_runV (As := [.int (-1)]) (rest := [.int z88, .ref (ad 0)]) (ci := 5) (q0 := 5) hx hb hml hown hg hP hD hK hS hA hnw hgk (x_answerOr l D ks H.size ad kk V91 L Z85 (-1) hMV91 ) w1506 w1507 w1508 w171 w1509 rfl xgMachine hdV_yX5_answerOr ⟨Nat.le_of_ble_eq_true rfl, Nat.le_of_ble_eq_true rfl⟩ rfl hl.1 rfl (Nat.le_of_ble_eq_true rfl) dX11_get_107 ⟨z0, z0⟩) hP hD hK hS hA (fun z94 u95 H locs w96 hP hD hK hS => ?_)
          refine gA_int (gA_runV (As := [.int z88, .int z94]) (rest := []) (ci := 11) (q0 := 0) hx hb hml hown hg hP hD hK hS hA hnw hgk (x_ends l D ks H.size ad kk V91 L Z85 z88 z94 hMV91 ) w1171 w1173 w42 w156 w1174 rfl xgHouse hdV_yX11_ends ⟨Nat.le_of_ble_eq_true rfl, Nat.le_of_ble_eq_true rfl⟩ rfl hl.1 rfl (Nat.le_of_ble_eq_true rfl) dX11_get_110 ⟨z0, z0⟩) hP hD hK hS hA (fun z97 u98 H locs w99 hP hD hK hS => ?_)
          obtain ⟨V100, L101⟩ := u98
          obtain ⟨hMV100, ajV100, axL101⟩ := w99
          have axL101 : L = L101 := Eq.symm axL101
          subst axL101
          have hP : va_P D vwCl (xw ad kk V100 L Z85) H := hP
          have hD : va_D A (xw ad kk V100 L Z85) := hD
          have hMV100 : rgd bX V100 := hMV100
          have ajV100 : agr [(0, 9)] [] V91 V100 := ajV100
          have agV100 : agr [(0, 9), (3, 13), (3, 14), (3, 15), (4, 5), (4, 6), (4, 7), (4, 8), (5, 6), (5, 7), (5, 8), (5, 9), (5, 10), (5, 11), (5, 12), (5, 13), (5, 14)] [24, 25, 26, 27, 28, 29, 30, 31, 32, 33, 34, 35, 36, 37, 39, 40, 67, 68, 69, 70, 71, 72, 73, 74, 75, 76, 77, 78, 79, 80, 81, 82, 83, 84, 85] V V100 := agV91.tr ajV100 (by decide) (by decide)
          have hi102 : HI V100 Z85 b := (HI.ag (HI.ag (MJ.hi t87) ajV91 (by decide)) ajV100 (by decide))
          refine W.know (fun kr1 kr2 => ?_)
          refine W.widen (k := zcc Z) (n := zss Z) (Nat.sub_le _ _) (Nat.sub_le _ _) ?_
          exact W.iret (v := z97) hx hb hr (fun t ht hW => ⟨⟨z97, (V100, L, Z85), rfl, ⟨hMV100, agV100, rfl, zoZ85, hi102⟩, ⟨by rw [ht]; exact hP, va_K.moved hW.alike hK, hD⟩, by rw [ht]; exact kr1, by rw [ht]; exact kr2⟩, hS.F ht⟩) hS.2.2 dX11_get_113
        · skip
          have f103 : z55.toInt = 0 := b_eq rfl (by decide) c58
          refine lv_aload_n hx hb dX11_get_70 rfl (lv_at hl 0 rfl) ?_
          refine lv_iconst (v := 4) hx hb dX11_get_71 (by decide) ?_
          refine lv_iconst (v := (-1)) hx hb dX11_get_72 (by decide) ?_
          have r104 : Int32.toInt 4 = 4 := by decide
          have r105 : Int32.toInt (-1) = (-1) := by decide
          refine gA_int (gA_runV (As := [.int 4, .int (-1)]) (rest := []) (ci := 11) (q0 := 0) hx hb hml hown hg hP hD hK hS hA hnw hgk (x_ends l D ks H.size ad kk V16 L Z 4 (-1) hMV16 ) w1171 w1173 w42 w156 w1174 rfl xgHouse hdV_yX11_ends ⟨Nat.le_of_ble_eq_true rfl, Nat.le_of_ble_eq_true rfl⟩ rfl hl.1 rfl (Nat.le_of_ble_eq_true rfl) dX11_get_73 ⟨z0, z0⟩) hP hD hK hS hA (fun z106 u107 H locs w108 hP hD hK hS => ?_)
          obtain ⟨V109, L110⟩ := u107
          obtain ⟨hMV109, ajV109, axL110⟩ := w108
          have axL110 : L = L110 := Eq.symm axL110
          subst axL110
          have hP : va_P D vwCl (xw ad kk V109 L Z) H := hP
          have hD : va_D A (xw ad kk V109 L Z) := hD
          have hMV109 : rgd bX V109 := hMV109
          have ajV109 : agr [(0, 9)] [] V16 V109 := ajV109
          have agV109 : agr [(0, 9), (3, 13), (3, 14), (3, 15), (4, 5), (4, 6), (4, 7), (4, 8), (5, 6), (5, 7), (5, 8), (5, 9), (5, 10), (5, 11), (5, 12), (5, 13), (5, 14)] [24, 25, 26, 27, 28, 29, 30, 31, 32, 33, 34, 35, 36, 37, 39, 40, 67, 68, 69, 70, 71, 72, 73, 74, 75, 76, 77, 78, 79, 80, 81, 82, 83, 84, 85] V V109 := agV16.tr ajV109 (by decide) (by decide)
          have hi111 : HI V109 Z b := (HI.ag (HI.ag (HI.ag hi ajV6 (by decide)) ajV16 (by decide)) ajV109 (by decide))
          refine W.know (fun kr1 kr2 => ?_)
          refine W.widen (k := zcc Z) (n := zss Z) (Nat.sub_le _ _) (Nat.sub_le _ _) ?_
          exact W.iret (v := z106) hx hb hr (fun t ht hW => ⟨⟨z106, (V109, L, Z), rfl, ⟨hMV109, agV109, rfl, zoZ, hi111⟩, ⟨by rw [ht]; exact hP, va_K.moved hW.alike hK, hD⟩, by rw [ht]; exact kr1, by rw [ht]; exact kr2⟩, hS.F ht⟩) hS.2.2 dX11_get_76
    · skip
      have f112 : z26.toInt = 0 := b_eq rfl (by decide) c32
      refine lv_aload_n hx hb dX11_get_41 rfl (lv_at hl 0 rfl) ?_
      refine lv_iconst (v := 3) hx hb dX11_get_42 (by decide) ?_
      refine lv_iconst (v := (-1)) hx hb dX11_get_43 (by decide) ?_
      have r113 : Int32.toInt 3 = 3 := by decide
      have r114 : Int32.toInt (-1) = (-1) := by decide
      refine gA_int (gA_runV (As := [.int 3, .int (-1)]) (rest := []) (ci := 11) (q0 := 0) hx hb hml hown hg hP hD hK hS hA hnw hgk (x_ends l D ks H.size ad kk V16 L Z 3 (-1) hMV16 ) w1171 w1173 w42 w156 w1174 rfl xgHouse hdV_yX11_ends ⟨Nat.le_of_ble_eq_true rfl, Nat.le_of_ble_eq_true rfl⟩ rfl hl.1 rfl (Nat.le_of_ble_eq_true rfl) dX11_get_44 ⟨z0, z0⟩) hP hD hK hS hA (fun z115 u116 H locs w117 hP hD hK hS => ?_)
      obtain ⟨V118, L119⟩ := u116
      obtain ⟨hMV118, ajV118, axL119⟩ := w117
      have axL119 : L = L119 := Eq.symm axL119
      subst axL119
      have hP : va_P D vwCl (xw ad kk V118 L Z) H := hP
      have hD : va_D A (xw ad kk V118 L Z) := hD
      have hMV118 : rgd bX V118 := hMV118
      have ajV118 : agr [(0, 9)] [] V16 V118 := ajV118
      have agV118 : agr [(0, 9), (3, 13), (3, 14), (3, 15), (4, 5), (4, 6), (4, 7), (4, 8), (5, 6), (5, 7), (5, 8), (5, 9), (5, 10), (5, 11), (5, 12), (5, 13), (5, 14)] [24, 25, 26, 27, 28, 29, 30, 31, 32, 33, 34, 35, 36, 37, 39, 40, 67, 68, 69, 70, 71, 72, 73, 74, 75, 76, 77, 78, 79, 80, 81, 82, 83, 84, 85] V V118 := agV16.tr ajV118 (by decide) (by decide)
      have hi120 : HI V118 Z b := (HI.ag (HI.ag (HI.ag hi ajV6 (by decide)) ajV16 (by decide)) ajV118 (by decide))
      refine W.know (fun kr1 kr2 => ?_)
      refine W.widen (k := zcc Z) (n := zss Z) (Nat.sub_le _ _) (Nat.sub_le _ _) ?_
      exact W.iret (v := z115) hx hb hr (fun t ht hW => ⟨⟨z115, (V118, L, Z), rfl, ⟨hMV118, agV118, rfl, zoZ, hi120⟩, ⟨by rw [ht]; exact hP, va_K.moved hW.alike hK, hD⟩, by rw [ht]; exact kr1, by rw [ht]; exact kr2⟩, hS.F ht⟩) hS.2.2 dX11_get_47
  · skip
    have f121 : ((V 0 8)).toInt = 0 := b_eq rfl (by decide) c24
    refine lv_aload_n hx hb dX11_get_23 rfl (lv_at hl 0 rfl) ?_
    refine lv_iconst (v := 4) hx hb dX11_get_24 (by decide) ?_
    refine lv_iconst (v := (-1)) hx hb dX11_get_25 (by decide) ?_
    have r122 : Int32.toInt 4 = 4 := by decide
    have r123 : Int32.toInt (-1) = (-1) := by decide
    refine gA_int (gA_runV (As := [.int 4, .int (-1)]) (rest := []) (ci := 11) (q0 := 0) hx hb hml hown hg hP hD hK hS hA hnw hgk (x_ends l D ks H.size ad kk V16 L Z 4 (-1) hMV16 ) w1171 w1173 w42 w156 w1174 rfl xgHouse hdV_yX11_ends ⟨Nat.le_of_ble_eq_true rfl, Nat.le_of_ble_eq_true rfl⟩ rfl hl.1 rfl (Nat.le_of_ble_eq_true rfl) dX11_get_26 ⟨z0, z0⟩) hP hD hK hS hA (fun z124 u125 H locs w126 hP hD hK hS => ?_)
    obtain ⟨V127, L128⟩ := u125
    obtain ⟨hMV127, ajV127, axL128⟩ := w126
    have axL128 : L = L128 := Eq.symm axL128
    subst axL128
    have hP : va_P D vwCl (xw ad kk V127 L Z) H := hP
    have hD : va_D A (xw ad kk V127 L Z) := hD
    have hMV127 : rgd bX V127 := hMV127
    have ajV127 : agr [(0, 9)] [] V16 V127 := ajV127
    have agV127 : agr [(0, 9), (3, 13), (3, 14), (3, 15), (4, 5), (4, 6), (4, 7), (4, 8), (5, 6), (5, 7), (5, 8), (5, 9), (5, 10), (5, 11), (5, 12), (5, 13), (5, 14)] [24, 25, 26, 27, 28, 29, 30, 31, 32, 33, 34, 35, 36, 37, 39, 40, 67, 68, 69, 70, 71, 72, 73, 74, 75, 76, 77, 78, 79, 80, 81, 82, 83, 84, 85] V V127 := agV16.tr ajV127 (by decide) (by decide)
    have hi129 : HI V127 Z b := (HI.ag (HI.ag (HI.ag hi ajV6 (by decide)) ajV16 (by decide)) ajV127 (by decide))
    refine W.know (fun kr1 kr2 => ?_)
    refine W.widen (k := zcc Z) (n := zss Z) (Nat.sub_le _ _) (Nat.sub_le _ _) ?_
    exact W.iret (v := z124) hx hb hr (fun t ht hW => ⟨⟨z124, (V127, L, Z), rfl, ⟨hMV127, agV127, rfl, zoZ, hi129⟩, ⟨by rw [ht]; exact hP, va_K.moved hW.alike hK, hD⟩, by rw [ht]; exact kr1, by rw [ht]; exact kr2⟩, hS.F ht⟩) hS.2.2 dX11_get_29
abbrev r_x_h_call (Z : XZ) : Room := { frames := 8, cells := zcc Z, slots := zss Z, locals := 181 }
abbrev q_x_h_call (D : va_G) (ks : KS) (ad : Nat → Nat) (kk : Nat → ClassId) (V : Vf) (L : Lf) (Z : XZ) (p0 : Int32) (p1 : Int32) (p2 : Int32) (p3 : Int32) (b : Nat) (A : Nat → Prop) : Array Value → State → Outcome → State → Prop := qZi D (fun (r : Int32) (u : Vf × Lf × XZ) => rgd bX u.1 ∧ agr [(0, 9), (3, 13), (3, 14), (3, 15), (4, 5), (4, 6), (4, 7), (4, 8), (4, 9), (5, 6), (5, 7), (5, 8), (5, 9), (5, 10), (5, 11), (5, 12), (5, 13), (5, 14)] [24, 25, 26, 27, 28, 29, 30, 31, 32, 33, 34, 35, 36, 37, 39, 40, 67, 68, 69, 70, 71, 72, 73, 74, 75, 76, 77, 78, 79, 80, 81, 82, 83, 84, 85] V u.1 ∧ u.2.1 = L ∧ ZL Z u.2.2 ∧ (HI u.1 u.2.2 b)) (fun u => xw ad kk u.1 u.2.1 u.2.2) (fun u => xty kk u.2.2) (fun u => zcc Z - zcc u.2.2) (fun u => zss Z - zss u.2.2) A
set_option maxHeartbeats 4000000 in
set_option maxRecDepth 100000 in
theorem x_h_call (l : Launch) (D : va_G) (ks : KS) (sz : Nat) (ad : Nat → Nat) (kk : Nat → ClassId) (V : Vf) (L : Lf) (Z : XZ) (p0 : Int32) (p1 : Int32) (p2 : Int32) (p3 : Int32) (b : Nat) (hMV : rgd bX V) (hb2 : b < 2) (shk : (V 0 6).toInt = (b : Int)) (hi : HI V Z b)  : Met l yX11_call (Cond.code yX11_call cX11_call 5 (some .int) :: GW) (r_x_h_call Z) (va_Pc [.ref (ad 0), .int p0, .int p1, .int p2, .int p3] (gp D ks (xw ad kk V L Z) (xty kk Z) sz)) (q_x_h_call D ks ad kk V L Z p0 p1 p2 p3 b (va_A (xw ad kk V L Z) sz)) (zcc Z) (zss Z) (va_A (xw ad kk V L Z) sz) := by
  refine g_met (q_x_h_call D ks ad kk V L Z p0 p1 p2 p3 b) (by decide) (Nat.le_of_ble_eq_true rfl) ?_
  intro p e s m below meth c A ls H locs hx hb hr hml hown hg hlocks hin hnw hgk hP hK hD hS hA hl
  have hown : s.vm.findClass RX11 = some m.cls := hown
  have hl : lv_has ls 5 [(0, .ref (ad 0)), (1, .int p0), (2, .int p1), (3, .int p2), (4, .int p3)] := hl
  have hP : va_P D vwCl (xw ad kk V L Z) H := hP
  have hD : va_D A (xw ad kk V L Z) := hD
  have hK : va_K D vwCl (xty kk Z) s := hK
  have agV : agr [(0, 9), (3, 13), (3, 14), (3, 15), (4, 5), (4, 6), (4, 7), (4, 8), (4, 9), (5, 6), (5, 7), (5, 8), (5, 9), (5, 10), (5, 11), (5, 12), (5, 13), (5, 14)] [24, 25, 26, 27, 28, 29, 30, 31, 32, 33, 34, 35, 36, 37, 39, 40, 67, 68, 69, 70, 71, 72, 73, 74, 75, 76, 77, 78, 79, 80, 81, 82, 83, 84, 85] V V := agr.rf
  have zoZ : ZL Z Z := ZL.rf
  refine W.know (fun ka kb => ?_)
  refine W.tight (k := zcc Z - zcc Z) (n := zss Z - zss Z) (by omega) (by omega) ?_
  have r1 : 0 ≤ ((V 0 6)).toInt ∧ ((V 0 6)).toInt ≤ 1 := hMV 0 6
  refine lv_aload_n hx hb dX11_call_0 rfl (lv_at hl 0 rfl) ?_
  refine va_get (D := D) (ci := 11) (v := .ref (ad 4)) (fs := (xfHouse ad V L Z)) (C := RX11) (T := TX11) (N := 10) hx hb hg inX11 hown hK hP 0 xgHouse rfl 4 (by decide) (hg _ w719) (fun _ h9 => h9) rfl dX11_call_1 ?_
  refine lv_iconst (v := 0) hx hb dX11_call_4 (by decide) ?_
  refine lv_iconst (v := 0) hx hb dX11_call_5 (by decide) ?_
  have r2 : Int32.toInt 0 = 0 := by decide
  refine gA_void (gA_runV (As := [.int 0, .int 0]) (rest := []) (ci := 7) (q0 := 4) hx hb hml hown hg hP hD hK hS hA hnw hgk (x_NnoteCause l D ks H.size ad kk V L Z 0 0 hMV ) w1166 w1167 w1168 w166 w1169 rfl xgNotes hdV_yX7_noteCause ⟨Nat.le_of_ble_eq_true rfl, Nat.le_of_ble_eq_true rfl⟩ rfl hl.1 rfl (Nat.le_of_ble_eq_true rfl) dX11_call_6 ⟨z0, z0⟩) hP hD hK hS hA (fun u4 H locs w5 hP hD hK hS => ?_)
  obtain ⟨V6, L7⟩ := u4
  obtain ⟨hMV6, ajV6, axL7⟩ := w5
  have axL7 : L = L7 := Eq.symm axL7
  subst axL7
  have hP : va_P D vwCl (xw ad kk V6 L Z) H := hP
  have hD : va_D A (xw ad kk V6 L Z) := hD
  have hMV6 : rgd bX V6 := hMV6
  have ajV6 : agr [(4, 7), (4, 8)] [] V V6 := ajV6
  have agV6 : agr [(0, 9), (3, 13), (3, 14), (3, 15), (4, 5), (4, 6), (4, 7), (4, 8), (4, 9), (5, 6), (5, 7), (5, 8), (5, 9), (5, 10), (5, 11), (5, 12), (5, 13), (5, 14)] [24, 25, 26, 27, 28, 29, 30, 31, 32, 33, 34, 35, 36, 37, 39, 40, 67, 68, 69, 70, 71, 72, 73, 74, 75, 76, 77, 78, 79, 80, 81, 82, 83, 84, 85] V V6 := agV.tr ajV6 (by decide) (by decide)
  refine lv_aload_n hx hb dX11_call_9 rfl (lv_at hl 0 rfl) ?_
  refine va_get (D := D) (ci := 11) (v := .ref (ad 4)) (fs := (xfHouse ad V6 L Z)) (C := RX11) (T := TX11) (N := 10) hx hb hg inX11 hown hK hP 0 xgHouse rfl 4 (by decide) (hg _ w719) (fun _ h9 => h9) rfl dX11_call_10 ?_
  refine gA_void (gA_runV (As := []) (rest := []) (ci := 7) (q0 := 4) hx hb hml hown hg hP hD hK hS hA hnw hgk (x_NforgetThings l D ks H.size ad kk V6 L Z  hMV6 ) w1514 w1515 w1516 w166 w1517 rfl xgNotes hdV_yX7_forgetThings ⟨Nat.le_of_ble_eq_true rfl, Nat.le_of_ble_eq_true rfl⟩ rfl hl.1 rfl (Nat.le_of_ble_eq_true rfl) dX11_call_13 ⟨z0, z0⟩) hP hD hK hS hA (fun u9 H locs w10 hP hD hK hS => ?_)
  obtain ⟨V11, L12⟩ := u9
  obtain ⟨hMV11, ajV11, axL12⟩ := w10
  have axL12 : L = L12 := Eq.symm axL12
  subst axL12
  have hP : va_P D vwCl (xw ad kk V11 L Z) H := hP
  have hD : va_D A (xw ad kk V11 L Z) := hD
  have hMV11 : rgd bX V11 := hMV11
  have ajV11 : agr [(4, 5)] [] V6 V11 := ajV11
  have agV11 : agr [(0, 9), (3, 13), (3, 14), (3, 15), (4, 5), (4, 6), (4, 7), (4, 8), (4, 9), (5, 6), (5, 7), (5, 8), (5, 9), (5, 10), (5, 11), (5, 12), (5, 13), (5, 14)] [24, 25, 26, 27, 28, 29, 30, 31, 32, 33, 34, 35, 36, 37, 39, 40, 67, 68, 69, 70, 71, 72, 73, 74, 75, 76, 77, 78, 79, 80, 81, 82, 83, 84, 85] V V11 := agV6.tr ajV11 (by decide) (by decide)
  refine lv_aload_n hx hb dX11_call_16 rfl (lv_at hl 0 rfl) ?_
  refine va_get (D := D) (ci := 11) (v := .ref (ad 5)) (fs := (xfHouse ad V11 L Z)) (C := RX11) (T := TX11) (N := 10) hx hb hg inX11 hown hK hP 0 xgHouse rfl 5 (by decide) (hg _ w720) (fun _ h9 => h9) rfl dX11_call_17 ?_
  refine gA_void (gA_runV (As := []) (rest := []) (ci := 5) (q0 := 5) hx hb hml hown hg hP hD hK hS hA hnw hgk (x_restart l D ks H.size ad kk V11 L Z  hMV11 ) w1170 w1044 w1045 w171 w1046 rfl xgMachine hdV_yX5_restart ⟨Nat.le_of_ble_eq_true rfl, Nat.le_of_ble_eq_true rfl⟩ rfl hl.1 rfl (Nat.le_of_ble_eq_true rfl) dX11_call_20 ⟨z0, z0⟩) hP hD hK hS hA (fun u14 H locs w15 hP hD hK hS => ?_)
  obtain ⟨V21, L22⟩ := u14
  obtain ⟨hMV21, ajV21, axL22, t16, t17, t18, t19, t20⟩ := w15
  have axL22 : L = L22 := Eq.symm axL22
  subst axL22
  have hP : va_P D vwCl (xw ad kk V21 L Z) H := hP
  have hD : va_D A (xw ad kk V21 L Z) := hD
  have hMV21 : rgd bX V21 := hMV21
  have ajV21 : agr [(5, 6), (5, 7), (5, 8), (5, 9), (5, 13)] [] V11 V21 := ajV21
  have agV21 : agr [(0, 9), (3, 13), (3, 14), (3, 15), (4, 5), (4, 6), (4, 7), (4, 8), (4, 9), (5, 6), (5, 7), (5, 8), (5, 9), (5, 10), (5, 11), (5, 12), (5, 13), (5, 14)] [24, 25, 26, 27, 28, 29, 30, 31, 32, 33, 34, 35, 36, 37, 39, 40, 67, 68, 69, 70, 71, 72, 73, 74, 75, 76, 77, 78, 79, 80, 81, 82, 83, 84, 85] V V21 := agV11.tr ajV21 (by decide) (by decide)
  have t16 : (V21 5 6).toInt = 0 := t16
  have t17 : (V21 5 7).toInt = 0 := t17
  have t18 : (V21 5 8).toInt = 0 := t18
  have t19 : (V21 5 9).toInt = 0 := t19
  have t20 : (V21 5 13).toInt = 0 := t20
  have r23 : 0 ≤ ((V21 5 6)).toInt ∧ ((V21 5 6)).toInt ≤ 400 := hMV21 5 6
  have r24 : 0 ≤ ((V21 5 7)).toInt ∧ ((V21 5 7)).toInt ≤ 2048 := hMV21 5 7
  have r25 : 0 ≤ ((V21 5 8)).toInt ∧ ((V21 5 8)).toInt ≤ 300 := hMV21 5 8
  have r26 : 0 ≤ ((V21 5 9)).toInt ∧ ((V21 5 9)).toInt ≤ 3 := hMV21 5 9
  have r27 : 0 ≤ ((V21 5 13)).toInt ∧ ((V21 5 13)).toInt ≤ 3000 := hMV21 5 13
  refine lv_aload_n hx hb dX11_call_23 rfl (lv_at hl 0 rfl) ?_
  refine va_get (D := D) (ci := 11) (v := .ref (ad 3)) (fs := (xfHouse ad V21 L Z)) (C := RX11) (T := TX11) (N := 10) hx hb hg inX11 hown hK hP 0 xgHouse rfl 3 (by decide) (hg _ w718) (fun _ h9 => h9) rfl dX11_call_24 ?_
  refine lv_iload_n hx hb dX11_call_27 rfl (lv_at hl 1 rfl) ?_
  refine gA_int (gA_runV (As := [.int p0]) (rest := []) (ci := 8) (q0 := 3) hx hb hml hown hg hP hD hK hS hA hnw hgk (x_isOpen l D ks H.size ad kk V21 L Z p0 hMV21 ) w1158 w1159 w1160 w164 w1161 rfl xgStock hdV_yX8_isOpen ⟨Nat.le_of_ble_eq_true rfl, Nat.le_of_ble_eq_true rfl⟩ rfl hl.1 rfl (Nat.le_of_ble_eq_true rfl) dX11_call_28 ⟨z0, z0⟩) hP hD hK hS hA (fun z28 u29 H locs w30 hP hD hK hS => ?_)
  obtain ⟨rgz28, t31⟩ := w30
  have rgz28 : 0 ≤ z28.toInt ∧ z28.toInt ≤ 1 := rgz28
  have t31 : Imp (z28.toInt = 1) (0 ≤ p0.toInt ∧ p0.toInt < (V21 3 12).toInt) := t31
  have pq32 : (V21 3 12).toInt = ((V 3 12)).toInt := congrArg Int32.toInt ((ajV21 3 12 rfl).trans ((ajV11 3 12 rfl).trans (ajV6 3 12 rfl)))
  have r33 : 1 ≤ ((V 3 12)).toInt ∧ ((V 3 12)).toInt ≤ 40 := hMV 3 12
  refine lv_if_ne (tgt := 41) hx hb dX11_call_31 (by decide) (fun c34 => ?_) (fun c34 => ?_)
  · skip
    have f35 : z28.toInt ≠ 0 := b_neq rfl (by decide) c34
    have rh36 := Imp.go t31 (by (first | exact om_2ebe32d50835 rgz28.1 rgz28.2 f35 | omega))
    refine lv_aload_n hx hb dX11_call_41 rfl (lv_at hl 0 rfl) ?_
    refine va_get (D := D) (ci := 11) (v := .ref (ad 3)) (fs := (xfHouse ad V21 L Z)) (C := RX11) (T := TX11) (N := 10) hx hb hg inX11 hown hK hP 0 xgHouse rfl 3 (by decide) (hg _ w718) (fun _ h9 => h9) rfl dX11_call_42 ?_
    refine lv_iload_n hx hb dX11_call_45 rfl (lv_at hl 2 rfl) ?_
    refine gA_int (gA_runV (As := [.int p1]) (rest := []) (ci := 8) (q0 := 3) hx hb hml hown hg hP hD hK hS hA hnw hgk (x_isMade l D ks H.size ad kk V21 L Z p1 hMV21 ) w1518 w1297 w1298 w164 w1299 rfl xgStock hdV_yX8_isMade ⟨Nat.le_of_ble_eq_true rfl, Nat.le_of_ble_eq_true rfl⟩ rfl hl.1 rfl (Nat.le_of_ble_eq_true rfl) dX11_call_46 ⟨z0, z0⟩) hP hD hK hS hA (fun z37 u38 H locs w39 hP hD hK hS => ?_)
    obtain ⟨rgz37, t40⟩ := w39
    have rgz37 : 0 ≤ z37.toInt ∧ z37.toInt ≤ 1 := rgz37
    have t40 : Imp (z37.toInt = 1) (0 ≤ p1.toInt ∧ p1.toInt < (V21 3 13).toInt) := t40
    have pq41 : (V21 3 13).toInt = ((V 3 13)).toInt := congrArg Int32.toInt ((ajV21 3 13 rfl).trans ((ajV11 3 13 rfl).trans (ajV6 3 13 rfl)))
    have r42 : 0 ≤ ((V 3 13)).toInt ∧ ((V 3 13)).toInt ≤ 300 := hMV 3 13
    refine lv_if_eq (tgt := 70) hx hb dX11_call_49 (by decide) (fun c43 => ?_) (fun c43 => ?_)
    · skip
      have f44 : z37.toInt = 0 := b_eq rfl (by decide) c43
      refine lv_aload_n hx hb dX11_call_70 rfl (lv_at hl 0 rfl) ?_
      refine lv_iconst (v := 4) hx hb dX11_call_71 (by decide) ?_
      refine lv_iconst (v := 0) hx hb dX11_call_72 (by decide) ?_
      have r45 : Int32.toInt 4 = 4 := by decide
      refine gA_int (gA_runV (As := [.int 4, .int 0]) (rest := []) (ci := 11) (q0 := 0) hx hb hml hown hg hP hD hK hS hA hnw hgk (x_ends l D ks H.size ad kk V21 L Z 4 0 hMV21 ) w1171 w1173 w42 w156 w1174 rfl xgHouse hdV_yX11_ends ⟨Nat.le_of_ble_eq_true rfl, Nat.le_of_ble_eq_true rfl⟩ rfl hl.1 rfl (Nat.le_of_ble_eq_true rfl) dX11_call_73 ⟨z0, z0⟩) hP hD hK hS hA (fun z46 u47 H locs w48 hP hD hK hS => ?_)
      obtain ⟨V49, L50⟩ := u47
      obtain ⟨hMV49, ajV49, axL50⟩ := w48
      have axL50 : L = L50 := Eq.symm axL50
      subst axL50
      have hP : va_P D vwCl (xw ad kk V49 L Z) H := hP
      have hD : va_D A (xw ad kk V49 L Z) := hD
      have hMV49 : rgd bX V49 := hMV49
      have ajV49 : agr [(0, 9)] [] V21 V49 := ajV49
      have agV49 : agr [(0, 9), (3, 13), (3, 14), (3, 15), (4, 5), (4, 6), (4, 7), (4, 8), (4, 9), (5, 6), (5, 7), (5, 8), (5, 9), (5, 10), (5, 11), (5, 12), (5, 13), (5, 14)] [24, 25, 26, 27, 28, 29, 30, 31, 32, 33, 34, 35, 36, 37, 39, 40, 67, 68, 69, 70, 71, 72, 73, 74, 75, 76, 77, 78, 79, 80, 81, 82, 83, 84, 85] V V49 := agV21.tr ajV49 (by decide) (by decide)
      have hi51 : HI V49 Z b := (HI.ag (HI.ag (HI.ag (HI.ag hi ajV6 (by decide)) ajV11 (by decide)) ajV21 (by decide)) ajV49 (by decide))
      refine W.know (fun kr1 kr2 => ?_)
      refine W.widen (k := zcc Z) (n := zss Z) (Nat.sub_le _ _) (Nat.sub_le _ _) ?_
      exact W.iret (v := z46) hx hb hr (fun t ht hW => ⟨⟨z46, (V49, L, Z), rfl, ⟨hMV49, agV49, rfl, zoZ, hi51⟩, ⟨by rw [ht]; exact hP, va_K.moved hW.alike hK, hD⟩, by rw [ht]; exact kr1, by rw [ht]; exact kr2⟩, hS.F ht⟩) hS.2.2 dX11_call_76
    · skip
      have f52 : z37.toInt ≠ 0 := b_neq rfl (by decide) c43
      refine lv_iload_n hx hb dX11_call_52 rfl (lv_at hl 3 rfl) ?_
      refine lv_if_lt (tgt := 70) hx hb dX11_call_53 (by decide) (fun c53 => ?_) (fun c53 => ?_)
      · skip
        have f54 : p2.toInt < 0 := b_lt rfl (by decide) c53
        refine lv_aload_n hx hb dX11_call_70 rfl (lv_at hl 0 rfl) ?_
        refine lv_iconst (v := 4) hx hb dX11_call_71 (by decide) ?_
        refine lv_iconst (v := 0) hx hb dX11_call_72 (by decide) ?_
        have r55 : Int32.toInt 4 = 4 := by decide
        refine gA_int (gA_runV (As := [.int 4, .int 0]) (rest := []) (ci := 11) (q0 := 0) hx hb hml hown hg hP hD hK hS hA hnw hgk (x_ends l D ks H.size ad kk V21 L Z 4 0 hMV21 ) w1171 w1173 w42 w156 w1174 rfl xgHouse hdV_yX11_ends ⟨Nat.le_of_ble_eq_true rfl, Nat.le_of_ble_eq_true rfl⟩ rfl hl.1 rfl (Nat.le_of_ble_eq_true rfl) dX11_call_73 ⟨z0, z0⟩) hP hD hK hS hA (fun z56 u57 H locs w58 hP hD hK hS => ?_)
        obtain ⟨V59, L60⟩ := u57
        obtain ⟨hMV59, ajV59, axL60⟩ := w58
        have axL60 : L = L60 := Eq.symm axL60
        subst axL60
        have hP : va_P D vwCl (xw ad kk V59 L Z) H := hP
        have hD : va_D A (xw ad kk V59 L Z) := hD
        have hMV59 : rgd bX V59 := hMV59
        have ajV59 : agr [(0, 9)] [] V21 V59 := ajV59
        have agV59 : agr [(0, 9), (3, 13), (3, 14), (3, 15), (4, 5), (4, 6), (4, 7), (4, 8), (4, 9), (5, 6), (5, 7), (5, 8), (5, 9), (5, 10), (5, 11), (5, 12), (5, 13), (5, 14)] [24, 25, 26, 27, 28, 29, 30, 31, 32, 33, 34, 35, 36, 37, 39, 40, 67, 68, 69, 70, 71, 72, 73, 74, 75, 76, 77, 78, 79, 80, 81, 82, 83, 84, 85] V V59 := agV21.tr ajV59 (by decide) (by decide)
        have hi61 : HI V59 Z b := (HI.ag (HI.ag (HI.ag (HI.ag hi ajV6 (by decide)) ajV11 (by decide)) ajV21 (by decide)) ajV59 (by decide))
        refine W.know (fun kr1 kr2 => ?_)
        refine W.widen (k := zcc Z) (n := zss Z) (Nat.sub_le _ _) (Nat.sub_le _ _) ?_
        exact W.iret (v := z56) hx hb hr (fun t ht hW => ⟨⟨z56, (V59, L, Z), rfl, ⟨hMV59, agV59, rfl, zoZ, hi61⟩, ⟨by rw [ht]; exact hP, va_K.moved hW.alike hK, hD⟩, by rw [ht]; exact kr1, by rw [ht]; exact kr2⟩, hS.F ht⟩) hS.2.2 dX11_call_76
      · skip
        have f62 : 0 ≤ p2.toInt := b_nlt rfl (by decide) c53
        refine lv_iload_n hx hb dX11_call_56 rfl (lv_at hl 3 rfl) ?_
        refine lv_aload_n hx hb dX11_call_57 rfl (lv_at hl 0 rfl) ?_
        refine va_get (D := D) (ci := 11) (v := .ref (ad (38 + Int32.toNatClampNeg (V21 0 6)))) (fs := (xfHouse ad V21 L Z)) (C := RX11) (T := TX11) (N := 10) hx hb hg inX11 hown hK hP 0 xgHouse rfl 6 (by decide) (hg _ w721) (fun _ h9 => h9) rfl dX11_call_58 ?_
        have pq63 : (V21 0 6).toInt = ((V 0 6)).toInt := congrArg Int32.toInt ((ajV21 0 6 rfl).trans ((ajV11 0 6 rfl).trans (ajV6 0 6 rfl)))
        refine g_topv (v := .ref (ad (38 + b))) (rfP (by first | omega | ((try (have i_t40 := Imp.go t40 (by omega))); (try (have i_t31 := Imp.go t31 (by omega))); (try (have i_t31 := Imp.go t31 (by omega))); (try (have i_t40 := Imp.go t40 (by omega))); omega))) ?_
        refine va_getN (D := D) (ci := 0) (v := .ref (ad (40 + (5 * b + 3)))) (fs := (xfBook ad V21 b)) (C := RX0) (T := TX0) (N := 13) hx hb hg inX0 hown hK hP (38 + b) (xgBook hb2) rfl 3 (by decide) (hnw.use 604 n604 rfl) (fun _ h9 => h9) rfl dX11_call_61 ?_
        have il64 : (5 * b + 3) < 10 := by first | exact om_a4f98a710256 hb2 | first | omega | ((try (have i_t40 := Imp.go t40 (by omega))); (try (have i_t31 := Imp.go t31 (by omega))); (try (have i_t31 := Imp.go t31 (by omega))); (try (have i_t40 := Imp.go t40 (by omega))); omega)
        refine va_getN (D := D) (ci := 6) (v := .int (V21 43 (5 * b + 3))) (fs := (xfNames ad V21 (5 * b + 3))) (C := RX6) (T := TX6) (N := 2) hx hb hg inX6 hown hK hP (40 + (5 * b + 3)) (xgNames il64) rfl 1 (by decide) (hnw.use 483 n483 rfl) (fun _ h9 => h9) rfl dX11_call_64 ?_
        refine g_top (v := (V 43 (5 * b + 3))) ((ajV21 43 (5 * b + 3) rfl).trans ((ajV11 43 (5 * b + 3) rfl).trans (ajV6 43 (5 * b + 3) rfl))) ?_
        have r65 : 0 ≤ ((V 43 (5 * b + 3))).toInt ∧ ((V 43 (5 * b + 3))).toInt ≤ ((xcap (5 * b + 3) : Nat) : Int) := hMV 43 (5 * b + 3)
        have r66 : xcap (5 * b + 3) = 20 := xcap_3
        refine lv_icmp_lt (tgt := 77) hx hb dX11_call_67 (by decide) (fun c67 => ?_) (fun c67 => ?_)
        · skip
          have f68 : p2.toInt < ((V 43 (5 * b + 3))).toInt := b_lt rfl rfl c67
          refine lv_aload_n hx hb dX11_call_77 rfl (lv_at hl 0 rfl) ?_
          refine va_get (D := D) (ci := 11) (v := .ref (ad 4)) (fs := (xfHouse ad V21 L Z)) (C := RX11) (T := TX11) (N := 10) hx hb hg inX11 hown hK hP 0 xgHouse rfl 4 (by decide) (hg _ w719) (fun _ h9 => h9) rfl dX11_call_78 ?_
          refine lv_iconst (v := 1) hx hb dX11_call_81 (by decide) ?_
          refine va_putN (D := D) (ci := 7) (v := .int 1) (ty := tyX7 9) (fs := (xfNotes ad V21 L Z)) (C := RX7) (T := TX7) (N := 10) hx hb hg inX7 tyX7 tyX7_ok nmX7 hown hK hP hD hS 4 xgNotes rfl 9 (by decide) (hnw.use 445 n445 rfl) (fun _ h9 => h9) rfl (tyX7_ok 9 (by decide)) rfl rfl (Nat.le_of_ble_eq_true rfl) dX11_call_82 (fun H locs hP hD hS => ?_)
          obtain ⟨V69, hV69⟩ : ∃ z, z = up2 V21 4 9 1 := ⟨_, rfl⟩
          have ew70 : (xw ad kk V21 L Z).set 4 ((ad 4), .inr (7, (xfNotes ad V21 L Z).set 9 (.int 1))) = xw ad kk V69 L Z := by rw [hV69]; exact xw_ss (by decide) rfl (xb_si (by decide))
          have hP : va_P D vwCl (xw ad kk V69 L Z) H := by rw [← ew70]; exact hP
          have hD : va_D A (xw ad kk V69 L Z) := by rw [← ew70]; exact hD
          have hMV69 : rgd bX V69 := hMV21.put hV69 (by decide)
          have agV69 : agr [(0, 9), (3, 13), (3, 14), (3, 15), (4, 5), (4, 6), (4, 7), (4, 8), (4, 9), (5, 6), (5, 7), (5, 8), (5, 9), (5, 10), (5, 11), (5, 12), (5, 13), (5, 14)] [24, 25, 26, 27, 28, 29, 30, 31, 32, 33, 34, 35, 36, 37, 39, 40, 67, 68, 69, 70, 71, 72, 73, 74, 75, 76, 77, 78, 79, 80, 81, 82, 83, 84, 85] V V69 := agV21.up hV69 rfl
          have rh71 := Imp.go t40 (by (first | exact om_2ebe32d50835 rgz37.1 rgz37.2 f52 | omega))
          have pq72 : (V69 3 13).toInt = ((V 3 13)).toInt := congrArg Int32.toInt ((up2_o hV69 (by decide)).trans ((ajV21 3 13 rfl).trans ((ajV11 3 13 rfl).trans (ajV6 3 13 rfl))))
          have kcp := i_clamp (x := p1) rfl (by (first | exact om_eafa9039069c rh71.1 | omega))
          have hoc := hi.2.2.1 (Int32.toNatClampNeg p1) (by omega)
          have h26 : 0 ≤ (V 26 (Int32.toNatClampNeg p1)).toInt := (hMV 26 (Int32.toNatClampNeg p1)).1
          have pq73 : (V69 43 (5 * b + 3)).toInt = ((V 43 (5 * b + 3))).toInt := congrArg Int32.toInt ((up2_o hV69 (by decide)).trans ((ajV21 43 (5 * b + 3) rfl).trans ((ajV11 43 (5 * b + 3) rfl).trans (ajV6 43 (5 * b + 3) rfl))))
          have hi74 : HI V69 Z b := (HI.ag (HI.ag (HI.ag (HI.ag hi ajV6 (by decide)) ajV11 (by decide)) ajV21 (by decide)) (agr.up (fs := [(4, 9)]) (cs := []) agr.rf hV69 rfl) (by decide))
          have pq75 : (V69 5 6).toInt = ((V21 5 6)).toInt := congrArg Int32.toInt (up2_o hV69 (by decide))
          have pq76 : (V69 5 8).toInt = ((V21 5 8)).toInt := congrArg Int32.toInt (up2_o hV69 (by decide))
          have pq77 : (V69 43 (5 * b + 2)).toInt = ((V 43 (5 * b + 2))).toInt := congrArg Int32.toInt ((up2_o hV69 (by decide)).trans ((ajV21 43 (5 * b + 2) rfl).trans ((ajV11 43 (5 * b + 2) rfl).trans (ajV6 43 (5 * b + 2) rfl))))
          have r78 : 0 ≤ ((V 43 (5 * b + 2))).toInt ∧ ((V 43 (5 * b + 2))).toInt ≤ ((xcap (5 * b + 2) : Nat) : Int) := hMV 43 (5 * b + 2)
          have r79 : xcap (5 * b + 2) = 24 := xcap_2
          have mt80 : MT V69 Z b := HI.mt hi74 (by omega) (by (first | exact om_36161e850215 t18 pq76 | omega)) (by (first | exact om_36161e850215 t16 pq75 | omega))
          refine lv_aload_n hx hb dX11_call_85 rfl (lv_at hl 0 rfl) ?_
          refine va_get (D := D) (ci := 11) (v := .ref (ad 5)) (fs := (xfHouse ad V69 L Z)) (C := RX11) (T := TX11) (N := 10) hx hb hg inX11 hown hK hP 0 xgHouse rfl 5 (by decide) (hg _ w720) (fun _ h9 => h9) rfl dX11_call_86 ?_
          refine lv_iload_n hx hb dX11_call_89 rfl (lv_at hl 2 rfl) ?_
          refine lv_iload_n hx hb dX11_call_90 rfl (lv_at hl 1 rfl) ?_
          refine lv_iload_n hx hb dX11_call_91 rfl (lv_at hl 3 rfl) ?_
          refine lv_iload hx hb dX11_call_92 (lv_at hl 4 rfl) ?_
          refine lv_iconst (v := 1) hx hb dX11_call_94 (by decide) ?_
          have r81 : Int32.toInt 1 = 1 := by decide
          refine W.know (fun k83 k84 => ?_)
          obtain ⟨Hk82, hHk82⟩ : ∃ z, z = H := ⟨_, rfl⟩
          have k83 : Hk82.size ≤ s.heap.size + (zcc Z - zcc Z) := by rw [hHk82]; exact k83
          have k84 : tot Hk82 ≤ tot s.heap + (zss Z - zss Z) := by rw [hHk82]; exact k84
          refine gZ_void (gA_runV (As := [.int p1, .int p0, .int p2, .int p3, .int 1]) (rest := []) (ci := 5) (q0 := 5) hx hb hml hown hg hP hD hK hS hA hnw hgk (x_pushCall l D ks H.size ad kk V69 L Z p1 p0 p2 p3 1 (b) hMV69 (by first | exact om_47058e563f80 pq32 r33.2 ((Imp.go t31 (imp_a (rgz28.1) (rgz28.2) (f35))).1) ((Imp.go t31 (imp_a (rgz28.1) (rgz28.2) (f35))).2) | first | omega | ((try (have i_t40 := Imp.go t40 (by omega))); (try (have i_t31 := Imp.go t31 (by omega))); (try (have i_t31 := Imp.go t31 (by omega))); (try (have i_t40 := Imp.go t40 (by omega))); omega)) (by first | exact om_5f3154baf57f f62 r65.2 r66 f68 | first | omega | ((try (have i_t40 := Imp.go t40 (by omega))); (try (have i_t31 := Imp.go t31 (by omega))); (try (have i_t31 := Imp.go t31 (by omega))); (try (have i_t40 := Imp.go t40 (by omega))); omega)) (show b < 2 from by first | exact om_f940a4667dd6 hb2 | first | omega | ((try (have i_t40 := Imp.go t40 (by omega))); (try (have i_t31 := Imp.go t31 (by omega))); (try (have i_t31 := Imp.go t31 (by omega))); (try (have i_t40 := Imp.go t40 (by omega))); omega)) mt80) w1519 w1455 w1456 w171 w1457 rfl xgMachine hdV_yX5_pushCall ⟨Nat.le_of_ble_eq_true rfl, Nat.le_of_ble_eq_true rfl⟩ rfl hl.1 rfl (Nat.le_of_ble_eq_true rfl) dX11_call_95 ⟨z1 zoZ.1, z1 zoZ.2.1⟩) hD hS hA (fun u86 H locs w87 hP hD hK hS y88 y89 => ?_)
          obtain ⟨V90, L91, Z92⟩ := u86
          obtain ⟨hMV90, ajV90, axL91, zlZ92, t94⟩ := w87
          have axL91 : L = L91 := Eq.symm axL91
          subst axL91
          have hP : va_P D vwCl (xw ad kk V90 L Z92) H := hP
          have hD : va_D A (xw ad kk V90 L Z92) := hD
          have hK : va_K D vwCl (xty kk Z92) s := hK
          have hMV90 : rgd bX V90 := hMV90
          have ajV90 : agr [(5, 6), (5, 9)] [67, 68, 69, 70, 71, 72, 73, 74, 75, 76, 77, 78, 79, 80, 81, 82, 83, 84, 85] V69 V90 := ajV90
          have agV90 : agr [(0, 9), (3, 13), (3, 14), (3, 15), (4, 5), (4, 6), (4, 7), (4, 8), (4, 9), (5, 6), (5, 7), (5, 8), (5, 9), (5, 10), (5, 11), (5, 12), (5, 13), (5, 14)] [24, 25, 26, 27, 28, 29, 30, 31, 32, 33, 34, 35, 36, 37, 39, 40, 67, 68, 69, 70, 71, 72, 73, 74, 75, 76, 77, 78, 79, 80, 81, 82, 83, 84, 85] V V90 := agV69.tr ajV90 (by decide) (by decide)
          have zlZ92 : ZL Z Z92 := zlZ92
          have zoZ92 : ZL Z Z92 := ZL.tr zoZ zlZ92
          have ziZ92 := zlZ92.1
          have zjZ92 := zlZ92.2.1
          have zkZ92 := zlZ92.2.2.1
          have zmZ92 := zoZ92.1
          have znZ92 := zoZ92.2.1
          have zpZ_Z92 := zoZ.1
          have zqZ_Z92 := zoZ.2.1
          have y88 : H.size ≤ Hk82.size + (zcc Z - zcc Z92) := by rw [hHk82]; exact y88
          have y89 : tot H ≤ tot Hk82 + (zss Z - zss Z92) := by rw [hHk82]; exact y89
          refine W.tight (k := zcc Z - zcc Z92) (n := zss Z - zss Z92) (by first | exact tg9 y88 k83 zlZ92.1 zoZ.1 | omega) (by first | exact tg9 y89 k84 zlZ92.2.1 zoZ.2.1 | omega) ?_
          have t94 : MJ V90 Z92 b := t94
          refine lv_aload_n hx hb dX11_call_98 rfl (lv_at hl 0 rfl) ?_
          refine va_get (D := D) (ci := 11) (v := .ref (ad 5)) (fs := (xfHouse ad V90 L Z92)) (C := RX11) (T := TX11) (N := 10) hx hb hg inX11 hown hK hP 0 xgHouse rfl 5 (by decide) (hg _ w720) (fun _ h9 => h9) rfl dX11_call_99 ?_
          refine W.know (fun k96 k97 => ?_)
          obtain ⟨Hk95, hHk95⟩ : ∃ z, z = H := ⟨_, rfl⟩
          have k96 : Hk95.size ≤ s.heap.size + (zcc Z - zcc Z92) := by rw [hHk95]; exact k96
          have k97 : tot Hk95 ≤ tot s.heap + (zss Z - zss Z92) := by rw [hHk95]; exact k97
          refine gZ_void (gA_runV (As := []) (rest := []) (ci := 5) (q0 := 5) hx hb hml hown hg hP hD hK hS hA hnw hgk (x_run l D ks H.size ad kk V90 L Z92 (b) hMV90 (show b < 2 from by first | exact om_f940a4667dd6 hb2 | first | omega | ((try (have i_t40 := Imp.go t40 (by omega))); (try (have i_t31 := Imp.go t31 (by omega))); (try (have i_t31 := Imp.go t31 (by omega))); (try (have i_t40 := Imp.go t40 (by omega))); omega)) t94) w1247 w1248 w1249 w171 w1250 rfl xgMachine hdV_yX5_run ⟨Nat.le_of_ble_eq_true rfl, Nat.le_of_ble_eq_true rfl⟩ rfl hl.1 rfl (Nat.le_of_ble_eq_true rfl) dX11_call_102 ⟨z1 zoZ92.1, z1 zoZ92.2.1⟩) hD hS hA (fun u99 H locs w100 hP hD hK hS y101 y102 => ?_)
          obtain ⟨V103, L104, Z105⟩ := u99
          obtain ⟨hMV103, ajV103, axL104, zlZ105, t107⟩ := w100
          have axL104 : L = L104 := Eq.symm axL104
          subst axL104
          have hP : va_P D vwCl (xw ad kk V103 L Z105) H := hP
          have hD : va_D A (xw ad kk V103 L Z105) := hD
          have hK : va_K D vwCl (xty kk Z105) s := hK
          have hMV103 : rgd bX V103 := hMV103
          have ajV103 : agr [(3, 13), (3, 14), (3, 15), (4, 5), (4, 6), (5, 6), (5, 7), (5, 8), (5, 9), (5, 10), (5, 11), (5, 12), (5, 13), (5, 14)] [24, 25, 26, 27, 28, 29, 30, 31, 32, 33, 34, 35, 36, 37, 39, 40, 67, 68, 69, 70, 71, 72, 73, 74, 75, 76, 77, 78, 79, 80, 81, 82, 83, 84, 85] V90 V103 := ajV103
          have agV103 : agr [(0, 9), (3, 13), (3, 14), (3, 15), (4, 5), (4, 6), (4, 7), (4, 8), (4, 9), (5, 6), (5, 7), (5, 8), (5, 9), (5, 10), (5, 11), (5, 12), (5, 13), (5, 14)] [24, 25, 26, 27, 28, 29, 30, 31, 32, 33, 34, 35, 36, 37, 39, 40, 67, 68, 69, 70, 71, 72, 73, 74, 75, 76, 77, 78, 79, 80, 81, 82, 83, 84, 85] V V103 := agV90.tr ajV103 (by decide) (by decide)
          have zlZ105 : ZL Z92 Z105 := zlZ105
          have zoZ105 : ZL Z Z105 := ZL.tr zoZ92 zlZ105
          have ziZ105 := zlZ105.1
          have zjZ105 := zlZ105.2.1
          have zkZ105 := zlZ105.2.2.1
          have zmZ105 := zoZ105.1
          have znZ105 := zoZ105.2.1
          have zpZ92_Z105 := zoZ92.1
          have zqZ92_Z105 := zoZ92.2.1
          have y101 : H.size ≤ Hk95.size + (zcc Z92 - zcc Z105) := by rw [hHk95]; exact y101
          have y102 : tot H ≤ tot Hk95 + (zss Z92 - zss Z105) := by rw [hHk95]; exact y102
          refine W.tight (k := zcc Z - zcc Z105) (n := zss Z - zss Z105) (by first | exact tg9 y101 k96 zlZ105.1 zoZ92.1 | omega) (by first | exact tg9 y102 k97 zlZ105.2.1 zoZ92.2.1 | omega) ?_
          have t107 : MJ V103 Z105 b := t107
          refine lv_aload_n hx hb dX11_call_105 rfl (lv_at hl 0 rfl) ?_
          refine va_get (D := D) (ci := 11) (v := .ref (ad 4)) (fs := (xfHouse ad V103 L Z105)) (C := RX11) (T := TX11) (N := 10) hx hb hg inX11 hown hK hP 0 xgHouse rfl 4 (by decide) (hg _ w719) (fun _ h9 => h9) rfl dX11_call_106 ?_
          refine lv_iconst (v := 0) hx hb dX11_call_109 (by decide) ?_
          refine va_putN (D := D) (ci := 7) (v := .int 0) (ty := tyX7 9) (fs := (xfNotes ad V103 L Z105)) (C := RX7) (T := TX7) (N := 10) hx hb hg inX7 tyX7 tyX7_ok nmX7 hown hK hP hD hS 4 xgNotes rfl 9 (by decide) (hnw.use 445 n445 rfl) (fun _ h9 => h9) rfl (tyX7_ok 9 (by decide)) rfl rfl (Nat.le_of_ble_eq_true rfl) dX11_call_110 (fun H locs hP hD hS => ?_)
          obtain ⟨V108, hV108⟩ : ∃ z, z = up2 V103 4 9 0 := ⟨_, rfl⟩
          have ew109 : (xw ad kk V103 L Z105).set 4 ((ad 4), .inr (7, (xfNotes ad V103 L Z105).set 9 (.int 0))) = xw ad kk V108 L Z105 := by rw [hV108]; exact xw_ss (by decide) rfl (xb_si (by decide))
          have hP : va_P D vwCl (xw ad kk V108 L Z105) H := by rw [← ew109]; exact hP
          have hD : va_D A (xw ad kk V108 L Z105) := by rw [← ew109]; exact hD
          have hMV108 : rgd bX V108 := hMV103.put hV108 (by decide)
          have agV108 : agr [(0, 9), (3, 13), (3, 14), (3, 15), (4, 5), (4, 6), (4, 7), (4, 8), (4, 9), (5, 6), (5, 7), (5, 8), (5, 9), (5, 10), (5, 11), (5, 12), (5, 13), (5, 14)] [24, 25, 26, 27, 28, 29, 30, 31, 32, 33, 34, 35, 36, 37, 39, 40, 67, 68, 69, 70, 71, 72, 73, 74, 75, 76, 77, 78, 79, 80, 81, 82, 83, 84, 85] V V108 := agV103.up hV108 rfl
          refine lv_aload_n hx hb dX11_call_113 rfl (lv_at hl 0 rfl) ?_
          refine lv_aload_n hx hb dX11_call_114 rfl (lv_at hl 0 rfl) ?_
          refine va_get (D := D) (ci := 11) (v := .ref (ad 5)) (fs := (xfHouse ad V108 L Z105)) (C := RX11) (T := TX11) (N := 10) hx hb hg inX11 hown hK hP 0 xgHouse rfl 5 (by decide) (hg _ w720) (fun _ h9 => h9) rfl dX11_call_115 ?_
          refine gA_int (gA_runV (As := []) (rest := [.ref (ad 0)]) (ci := 5) (q0 := 5) hx hb hml hown hg hP hD hK hS hA hnw hgk (x_howItEnded l D ks H.size ad kk V108 L Z105  hMV108 ) w1501 w1502 w1503 w171 w1504 rfl xgMachine hdV_yX5_howItEnded ⟨Nat.le_of_ble_eq_true rfl, Nat.le_of_ble_eq_true rfl⟩ rfl hl.1 rfl (Nat.le_of_ble_eq_true rfl) dX11_call_118 ⟨z0, z0⟩) hP hD hK hS hA (fun z110 u111 H locs w112 hP hD hK hS => ?_)
          obtain ⟨V113, L114⟩ := u111
          obtain ⟨hMV113, ajV113, axL114⟩ := w112
          have axL114 : L = L114 := Eq.symm axL114
          subst axL114
          have hP : va_P D vwCl (xw ad kk V113 L Z105) H := hP
          have hD : va_D A (xw ad kk V113 L Z105) := hD
          have hMV113 : rgd bX V113 := hMV113
          have ajV113 : agr [(4, 7), (4, 8)] [] V108 V113 := ajV113
          have agV113 : agr [(0, 9), (3, 13), (3, 14), (3, 15), (4, 5), (4, 6), (4, 7), (4, 8), (4, 9), (5, 6), (5, 7), (5, 8), (5, 9), (5, 10), (5, 11), (5, 12), (5, 13), (5, 14)] [24, 25, 26, 27, 28, 29, 30, 31, 32, 33, 34, 35, 36, 37, 39, 40, 67, 68, 69, 70, 71, 72, 73, 74, 75, 76, 77, 78, 79, 80, 81, 82, 83, 84, 85] V V113 := agV108.tr ajV113 (by decide) (by decide)
          refine lv_aload_n hx hb dX11_call_121 rfl (lv_at hl 0 rfl) ?_
          refine va_get (D := D) (ci := 11) (v := .ref (ad 5)) (fs := (xfHouse ad V113 L Z105)) (C := RX11) (T := TX11) (N := 10) hx hb hg inX11 hown hK hP 0 xgHouse rfl 5 (by decide) (hg _ w720) (fun _ h9 => h9) rfl dX11_call_122 ?_
          refine lv_iconst (v := 0) hx hb dX11_call_125 (by decide) ?_
          refine gA_int (gA_runV (As := [.int 0]) (rest := [.int z110, .ref (ad 0)]) (ci := 5) (q0 := 5) hx hb hml hown hg hP hD hK hS hA hnw hgk (x_answerOr l D ks H.size ad kk V113 L Z105 0 hMV113 ) w1506 w1507 w1508 w171 w1509 rfl xgMachine hdV_yX5_answerOr ⟨Nat.le_of_ble_eq_true rfl, Nat.le_of_ble_eq_true rfl⟩ rfl hl.1 rfl (Nat.le_of_ble_eq_true rfl) dX11_call_126 ⟨z0, z0⟩) hP hD hK hS hA (fun z115 u116 H locs w117 hP hD hK hS => ?_)
          refine gA_int (gA_runV (As := [.int z110, .int z115]) (rest := []) (ci := 11) (q0 := 0) hx hb hml hown hg hP hD hK hS hA hnw hgk (x_ends l D ks H.size ad kk V113 L Z105 z110 z115 hMV113 ) w1171 w1173 w42 w156 w1174 rfl xgHouse hdV_yX11_ends ⟨Nat.le_of_ble_eq_true rfl, Nat.le_of_ble_eq_true rfl⟩ rfl hl.1 rfl (Nat.le_of_ble_eq_true rfl) dX11_call_129 ⟨z0, z0⟩) hP hD hK hS hA (fun z118 u119 H locs w120 hP hD hK hS => ?_)
          obtain ⟨V121, L122⟩ := u119
          obtain ⟨hMV121, ajV121, axL122⟩ := w120
          have axL122 : L = L122 := Eq.symm axL122
          subst axL122
          have hP : va_P D vwCl (xw ad kk V121 L Z105) H := hP
          have hD : va_D A (xw ad kk V121 L Z105) := hD
          have hMV121 : rgd bX V121 := hMV121
          have ajV121 : agr [(0, 9)] [] V113 V121 := ajV121
          have agV121 : agr [(0, 9), (3, 13), (3, 14), (3, 15), (4, 5), (4, 6), (4, 7), (4, 8), (4, 9), (5, 6), (5, 7), (5, 8), (5, 9), (5, 10), (5, 11), (5, 12), (5, 13), (5, 14)] [24, 25, 26, 27, 28, 29, 30, 31, 32, 33, 34, 35, 36, 37, 39, 40, 67, 68, 69, 70, 71, 72, 73, 74, 75, 76, 77, 78, 79, 80, 81, 82, 83, 84, 85] V V121 := agV113.tr ajV121 (by decide) (by decide)
          have hi123 : HI V121 Z105 b := (HI.ag (HI.ag (HI.ag (MJ.hi t107) (agr.up (fs := [(4, 9)]) (cs := []) agr.rf hV108 rfl) (by decide)) ajV113 (by decide)) ajV121 (by decide))
          refine W.know (fun kr1 kr2 => ?_)
          refine W.widen (k := zcc Z) (n := zss Z) (Nat.sub_le _ _) (Nat.sub_le _ _) ?_
          exact W.iret (v := z118) hx hb hr (fun t ht hW => ⟨⟨z118, (V121, L, Z105), rfl, ⟨hMV121, agV121, rfl, zoZ105, hi123⟩, ⟨by rw [ht]; exact hP, va_K.moved hW.alike hK, hD⟩, by rw [ht]; exact kr1, by rw [ht]; exact kr2⟩, hS.F ht⟩) hS.2.2 dX11_call_132
        · skip
          have f124 : ((V 43 (5 * b + 3))).toInt ≤ p2.toInt := b_nlt rfl rfl c67
          refine lv_aload_n hx hb dX11_call_70 rfl (lv_at hl 0 rfl) ?_
          refine lv_iconst (v := 4) hx hb dX11_call_71 (by decide) ?_
          refine lv_iconst (v := 0) hx hb dX11_call_72 (by decide) ?_
          have r125 : Int32.toInt 4 = 4 := by decide
          refine gA_int (gA_runV (As := [.int 4, .int 0]) (rest := []) (ci := 11) (q0 := 0) hx hb hml hown hg hP hD hK hS hA hnw hgk (x_ends l D ks H.size ad kk V21 L Z 4 0 hMV21 ) w1171 w1173 w42 w156 w1174 rfl xgHouse hdV_yX11_ends ⟨Nat.le_of_ble_eq_true rfl, Nat.le_of_ble_eq_true rfl⟩ rfl hl.1 rfl (Nat.le_of_ble_eq_true rfl) dX11_call_73 ⟨z0, z0⟩) hP hD hK hS hA (fun z126 u127 H locs w128 hP hD hK hS => ?_)
          obtain ⟨V129, L130⟩ := u127
          obtain ⟨hMV129, ajV129, axL130⟩ := w128
          have axL130 : L = L130 := Eq.symm axL130
          subst axL130
          have hP : va_P D vwCl (xw ad kk V129 L Z) H := hP
          have hD : va_D A (xw ad kk V129 L Z) := hD
          have hMV129 : rgd bX V129 := hMV129
          have ajV129 : agr [(0, 9)] [] V21 V129 := ajV129
          have agV129 : agr [(0, 9), (3, 13), (3, 14), (3, 15), (4, 5), (4, 6), (4, 7), (4, 8), (4, 9), (5, 6), (5, 7), (5, 8), (5, 9), (5, 10), (5, 11), (5, 12), (5, 13), (5, 14)] [24, 25, 26, 27, 28, 29, 30, 31, 32, 33, 34, 35, 36, 37, 39, 40, 67, 68, 69, 70, 71, 72, 73, 74, 75, 76, 77, 78, 79, 80, 81, 82, 83, 84, 85] V V129 := agV21.tr ajV129 (by decide) (by decide)
          have hi131 : HI V129 Z b := (HI.ag (HI.ag (HI.ag (HI.ag hi ajV6 (by decide)) ajV11 (by decide)) ajV21 (by decide)) ajV129 (by decide))
          refine W.know (fun kr1 kr2 => ?_)
          refine W.widen (k := zcc Z) (n := zss Z) (Nat.sub_le _ _) (Nat.sub_le _ _) ?_
          exact W.iret (v := z126) hx hb hr (fun t ht hW => ⟨⟨z126, (V129, L, Z), rfl, ⟨hMV129, agV129, rfl, zoZ, hi131⟩, ⟨by rw [ht]; exact hP, va_K.moved hW.alike hK, hD⟩, by rw [ht]; exact kr1, by rw [ht]; exact kr2⟩, hS.F ht⟩) hS.2.2 dX11_call_76
  · skip
    have f132 : z28.toInt = 0 := b_eq rfl (by decide) c34
    refine lv_aload_n hx hb dX11_call_34 rfl (lv_at hl 0 rfl) ?_
    refine lv_iconst (v := 3) hx hb dX11_call_35 (by decide) ?_
    refine lv_iconst (v := 0) hx hb dX11_call_36 (by decide) ?_
    have r133 : Int32.toInt 3 = 3 := by decide
    refine gA_int (gA_runV (As := [.int 3, .int 0]) (rest := []) (ci := 11) (q0 := 0) hx hb hml hown hg hP hD hK hS hA hnw hgk (x_ends l D ks H.size ad kk V21 L Z 3 0 hMV21 ) w1171 w1173 w42 w156 w1174 rfl xgHouse hdV_yX11_ends ⟨Nat.le_of_ble_eq_true rfl, Nat.le_of_ble_eq_true rfl⟩ rfl hl.1 rfl (Nat.le_of_ble_eq_true rfl) dX11_call_37 ⟨z0, z0⟩) hP hD hK hS hA (fun z134 u135 H locs w136 hP hD hK hS => ?_)
    obtain ⟨V137, L138⟩ := u135
    obtain ⟨hMV137, ajV137, axL138⟩ := w136
    have axL138 : L = L138 := Eq.symm axL138
    subst axL138
    have hP : va_P D vwCl (xw ad kk V137 L Z) H := hP
    have hD : va_D A (xw ad kk V137 L Z) := hD
    have hMV137 : rgd bX V137 := hMV137
    have ajV137 : agr [(0, 9)] [] V21 V137 := ajV137
    have agV137 : agr [(0, 9), (3, 13), (3, 14), (3, 15), (4, 5), (4, 6), (4, 7), (4, 8), (4, 9), (5, 6), (5, 7), (5, 8), (5, 9), (5, 10), (5, 11), (5, 12), (5, 13), (5, 14)] [24, 25, 26, 27, 28, 29, 30, 31, 32, 33, 34, 35, 36, 37, 39, 40, 67, 68, 69, 70, 71, 72, 73, 74, 75, 76, 77, 78, 79, 80, 81, 82, 83, 84, 85] V V137 := agV21.tr ajV137 (by decide) (by decide)
    have hi139 : HI V137 Z b := (HI.ag (HI.ag (HI.ag (HI.ag hi ajV6 (by decide)) ajV11 (by decide)) ajV21 (by decide)) ajV137 (by decide))
    refine W.know (fun kr1 kr2 => ?_)
    refine W.widen (k := zcc Z) (n := zss Z) (Nat.sub_le _ _) (Nat.sub_le _ _) ?_
    exact W.iret (v := z134) hx hb hr (fun t ht hW => ⟨⟨z134, (V137, L, Z), rfl, ⟨hMV137, agV137, rfl, zoZ, hi139⟩, ⟨by rw [ht]; exact hP, va_K.moved hW.alike hK, hD⟩, by rw [ht]; exact kr1, by rw [ht]; exact kr2⟩, hS.F ht⟩) hS.2.2 dX11_call_40
end
section
/-! settingValues may change -/
def BS (V W : Vf) : Prop := ∀ c k : Nat, 41 ≤ c → c ≤ 66 → c ≠ 46 ∧ c ≠ 44 → W c k = V c k
theorem BS.p0 {V W : Vf} {b : Nat} (h : BS V W) : p0x V W b := ⟨by rw [h 42 b (by decide) (by decide) (by decide)]; exact Int.le_refl _, fun k _ => h 48 _ (by decide) (by decide) (by decide)⟩
theorem BS.bd {V W : Vf} {b : Nat} (h : BS V W) (p : Nat) : bdp W b p = bdp V b p := bd_ext p (fun k _ => h 48 _ (by decide) (by decide) (by decide))
theorem TX.bs {V W : Vf} {b : Nat} (h : TX V b) (e : BS V W) : TX W b := by
  refine ⟨fun c hc => ?_, fun w hw => ?_, fun x hx => ?_⟩
  · rw [e 43 _ (by decide) (by decide) (by decide)] at hc
    have z := h.1 c hc
    rw [e 56 _ (by decide) (by decide) (by decide), e 57 _ (by decide) (by decide) (by decide)]
    refine ⟨z.1.up e.p0, z.2.1.up e.p0, fun m hm => ?_⟩
    rw [e 61 _ (by decide) (by decide) (by decide)]
    exact (z.2.2 m hm).up e.p0
  · rw [e 41 _ (by decide) (by decide) (by decide)] at hw
    rw [e 66 _ (by decide) (by decide) (by decide)]
    exact (h.2.1 w hw).up e.p0
  · rw [e 41 _ (by decide) (by decide) (by decide)] at hx ⊢
    rw [e 47 _ (by decide) (by decide) (by decide)]
    exact h.2.2 x hx
theorem CD.bs {V W : Vf} {b : Nat} (h : CD V b) (e : BS V W) : CD W b := by
  have e42 := e 42 b (by decide) (by decide) (by decide)
  have e48 : ∀ k, W 48 k = V 48 k := fun k => e 48 k (by decide) (by decide) (by decide)
  have eo : ∀ x y, okO V b x y → okO W b x y := fun x y z => by
    unfold okO at z ⊢
    rw [e42]
    first | exact z | (simp only [e.bd]; exact z)
  refine ⟨⟨?_, ?_⟩, ?_⟩
  · rw [e42, e.bd]
    exact h.1.1
  · intro p hp hb
    rw [e42] at hp
    rw [e.bd] at hb
    rw [e48, e48]
    exact eo _ _ (h.1.2 p hp hb)
  · intro p hp hb
    rw [e42] at hp
    rw [e.bd] at hb
    rw [e48]
    exact h.2 p hp hb
def hrs (fs : List (Nat × Nat)) (cs : List Nat) : Bool := fs.all (fun y => decide (y.1 ≤ 6) && !([(3, 13), (3, 15), (5, 5)].contains y)) && cs.all (fun c => decide (c = 46))
theorem hrs_no {fs : List (Nat × Nat)} {cs : List Nat} (q : hrs fs cs = true) {c k : Nat} (h : c ≠ 46) (h2 : 7 ≤ c ∨ (c, k) = (3, 13) ∨ (c, k) = (3, 15) ∨ (c, k) = (5, 5)) : wrL fs cs c k = false := by
  unfold hrs at q
  rw [Bool.and_eq_true, List.all_eq_true, List.all_eq_true] at q
  unfold wrL
  rw [Bool.or_eq_false_iff]
  refine ⟨?_, ?_⟩
  · rw [← Bool.not_eq_true]
    intro z
    have y := q.1 _ (List.contains_iff_mem.mp z)
    rw [Bool.and_eq_true] at y
    have y1 : c ≤ 6 := of_decide_eq_true y.1
    have y2 := y.2
    rcases h2 with h | h | h | h
    · omega
    all_goals (rw [h] at y2; exact absurd y2 (by decide))
  · rw [← Bool.not_eq_true]
    intro z
    exact h (of_decide_eq_true (q.2 _ (List.contains_iff_mem.mp z)))
theorem HI.st {fs : List (Nat × Nat)} {cs : List Nat} {V W : Vf} {Z : XZ} {b : Nat} (h : HI V Z b) (a : agr fs cs V W) (q : hrs fs cs = true) : HI W Z b := by
  have hB : BS V W := fun c k a1 a2 a3 => a c k (hrs_no q a3.1 (Or.inl (by omega)))
  have o : ∀ c k, c ≠ 46 → 7 ≤ c → W c k = V c k := fun c k a1 a2 => a c k (hrs_no q a1 (Or.inl a2))
  have e13 : W 3 13 = V 3 13 := a _ _ (hrs_no q (by decide) (by simp))
  have e15 : W 3 15 = V 3 15 := a _ _ (hrs_no q (by decide) (by simp))
  have e5 : W 5 5 = V 5 5 := a _ _ (hrs_no q (by decide) (by simp))
  have e43 := hB 43 (5 * b + 2) (by decide) (by decide) (by decide)
  refine ⟨?_, h.2.1, ?_, by rw [e13, e15]; exact h.2.2.2.1, by rw [e13, e15, o 44 0 (by decide) (by decide)]; exact h.2.2.2.2.1, h.2.2.2.2.2.1.bs hB, h.2.2.2.2.2.2.1.bs hB, by rw [e5]; exact h.2.2.2.2.2.2.2.1, h.2.2.2.2.2.2.2.2.1, ?_⟩
  · unfold SL
    rw [e15, e13]
    exact ⟨h.1.1, h.1.2.1, fun o' k a1 a2 => by rw [o 30 _ (by decide) (by decide)]; exact h.1.2.2.1 o' k a1 a2, fun i a1 => by rw [o 32 _ (by decide) (by decide)]; exact h.1.2.2.2 i a1⟩
  · intro o' ho
    rw [e13] at ho
    rw [o 26 _ (by decide) (by decide), e43]
    exact h.2.2.1 o' ho
  · intro k hk
    rw [o 25 _ (by decide) (by decide), e13]
    refine ⟨(h.2.2.2.2.2.2.2.2.2 k hk).1, fun o' h1 => ?_⟩
    rw [o 26 _ (by decide) (by decide)]
    exact (h.2.2.2.2.2.2.2.2.2 k hk).2 o' h1
end
section

abbrev r_x_sclear2 : Room := { frames := 1, cells := 0, slots := 0, locals := 23 }
abbrev q_x_sclear2 (D : va_G) (ks : KS) (ad : Nat → Nat) (kk : Nat → ClassId) (V : Vf) (L : Lf) (Z : XZ) (A : Nat → Prop) : Array Value → State → Outcome → State → Prop := va_Qv (fun (u : Vf × Lf) => rgd bX u.1 ∧ agr [(3, 12), (3, 13), (3, 14), (3, 15)] [23, 24, 25] V u.1 ∧ u.2 = L ∧ ((u.1 3 13).toInt = 0) ∧ ((u.1 3 15).toInt = 0) ∧ (∀ q : Nat, q < 960 → (u.1 25 q).toInt = -1)) (fun u t => gq D A (xw ad kk u.1 u.2 Z) (xty kk Z) t) A
set_option maxHeartbeats 4000000 in
set_option maxRecDepth 100000 in
theorem x_sclear2 (l : Launch) (D : va_G) (ks : KS) (sz : Nat) (ad : Nat → Nat) (kk : Nat → ClassId) (V : Vf) (L : Lf) (Z : XZ)  (hMV : rgd bX V)  : Met l yX8_clear (Cond.code yX8_clear cX8_clear 2 none :: GW) r_x_sclear2 (va_Pc [.ref (ad 3)] (gp D ks (xw ad kk V L Z) (xty kk Z) sz)) (q_x_sclear2 D ks ad kk V L Z  (va_A (xw ad kk V L Z) sz)) 0 0 (va_A (xw ad kk V L Z) sz) := by
  refine g_met (q_x_sclear2 D ks ad kk V L Z) (by decide) (Nat.le_of_ble_eq_true rfl) ?_
  intro p e s m below meth c A ls H locs hx hb hr hml hown hg hlocks hin hnw hgk hP hK hD hS hA hl
  have hown : s.vm.findClass RX8 = some m.cls := hown
  have hl : lv_has ls 2 [(0, .ref (ad 3))] := hl
  have hP : va_P D vwCl (xw ad kk V L Z) H := hP
  have hD : va_D A (xw ad kk V L Z) := hD
  have hK : va_K D vwCl (xty kk Z) s := hK
  have agV : agr [(3, 12), (3, 13), (3, 14), (3, 15)] [23, 24, 25] V V := agr.rf
  refine lv_aload_n hx hb dX8_clear_0 rfl (lv_at hl 0 rfl) ?_
  refine va_get (D := D) (ci := 8) (v := .ref (ad 22)) (fs := (xfStock ad V L Z)) (C := RX8) (T := TX8) (N := 16) hx hb hg inX8 hown hK hP 3 xgStock rfl 4 (by decide) (hg _ w378) (fun _ h9 => h9) rfl dX8_clear_1 ?_
  refine lv_iconst (v := (-1)) hx hb dX8_clear_4 (by decide) ?_
  have r1 : Int32.toInt (-1) = (-1) := by decide
  refine gA_void (gA_runS (As := [.ref (ad 22), .int (-1)]) (rest := []) hx hb hml hown hg hP hD hK hS hA hnw hgk (x_fillPresent l D ks H.size ad kk V L Z (-1) hMV (by decide)) w370 w371 w165 w372 hdS_yJ7_fill_53178 ⟨Nat.le_of_ble_eq_true rfl, Nat.le_of_ble_eq_true rfl⟩ rfl hl.1 rfl (Nat.le_of_ble_eq_true rfl) dX8_clear_5 ⟨Nat.le_of_ble_eq_true rfl, Nat.le_of_ble_eq_true rfl⟩) hP hD hK hS hA (fun u3 H locs w4 hP hD hK hS => ?_)
  obtain ⟨V7, L8⟩ := u3
  obtain ⟨hMV7, ajV7, axL8, t5, t6⟩ := w4
  have axL8 : L = L8 := Eq.symm axL8
  subst axL8
  have hP : va_P D vwCl (xw ad kk V7 L Z) H := hP
  have hD : va_D A (xw ad kk V7 L Z) := hD
  have hMV7 : rgd bX V7 := hMV7
  have ajV7 : agr [] [25] V V7 := ajV7
  have agV7 : agr [(3, 12), (3, 13), (3, 14), (3, 15)] [23, 24, 25] V V7 := agV.tr ajV7 (by decide) (by decide)
  have t5 : (∀ q : Nat, (q : Int) < 960 → V7 25 (q) = (-1)) := t5
  have t6 : (∀ q : Nat, ¬ (0 ≤ q ∧ q < 960) → V7 25 q = V 25 q) := t6
  refine lv_iconst (v := 0) hx hb dX8_clear_8 (by decide) ?_
  refine lv_istore_n (lv' := [(1, .int 0), (0, .ref (ad 3))]) hx hb dX8_clear_9 rfl hl (by decide) rfl (fun ls hl => ?_)
  have lp11 : ∀ (fulp11 : Nat) (y9 : Int32) (V10 : Vf) (H : Heap) (locs : List Loc) (ls : Array Slot), 0 ≤ y9.toInt ∧ y9.toInt ≤ 40 → 40 - y9.toInt < (fulp11 : Int) → agr [] [23, 24] V7 V10 → rgd bX V10 → va_P D vwCl (xw ad kk V10 L Z) H → va_D A (xw ad kk V10 L Z) → va_S A s.heap H locs → lv_has ls 2 [(1, .int y9), (0, .ref (ad 3))] → W p l e r_x_sclear2 s m ([.ref (ad 3)] : List Value).toArray below meth c H locs 0 0 (MQ below (q_x_sclear2 D ks ad kk V L Z  A) ([.ref (ad 3)] : List Value).toArray s 0 0 A) (F0 m 10 ls []) := by
    intro fulp11
    induction fulp11 with
    | zero =>
      intro y9 V10 H locs ls klp11_0 hn ajV10 hMV10 hP hD hS hl
      exfalso; (first | exact om_b4ce6ae7be49 klp11_0.2 hn | omega)
    | succ fulp11 ihlp11 =>
      intro y9 V10 H locs ls klp11_0 hn ajV10 hMV10 hP hD hS hl
      have agV10 : agr [(3, 12), (3, 13), (3, 14), (3, 15)] [23, 24, 25] V V10 := agV7.tr ajV10 (by decide) (by decide)
      refine lv_iload_n hx hb dX8_clear_10 rfl (lv_at hl 0 rfl) ?_
      refine lv_bipush (v := 40) hx hb dX8_clear_11 (by decide) ?_
      refine lv_icmp_ge (tgt := 27) hx hb dX8_clear_13 (by decide) (fun c12 => ?_) (fun c12 => ?_)
      · skip
        have f13 : 40 ≤ y9.toInt := b_le (by decide) rfl c12
        refine lv_aload_n hx hb dX8_clear_27 rfl (lv_at hl 1 rfl) ?_
        refine va_get (D := D) (ci := 8) (v := .ref (ad 20)) (fs := (xfStock ad V10 L Z)) (C := RX8) (T := TX8) (N := 16) hx hb hg inX8 hown hK hP 3 xgStock rfl 2 (by decide) (hg _ w376) (fun _ h9 => h9) rfl dX8_clear_28 ?_
        refine lv_iconst (v := 0) hx hb dX8_clear_31 (by decide) ?_
        refine lv_iconst (v := 1) hx hb dX8_clear_32 (by decide) ?_
        refine va_zast (D := D) (i := 0) (x := 1) hx hb hK hP hD hS 20 13 rfl rfl (i_in (a := 0) (by decide) (by decide)) dX8_clear_33 (fun H locs hP hD hS => ?_)
        obtain ⟨V14, hV14⟩ : ∃ z, z = up2 V10 23 (Int32.toNatClampNeg 0) (vp_nar .boolean 1) := ⟨_, rfl⟩
        have ew15 : (xw ad kk V10 L Z).set 20 ((ad 20), .inl ((kk 20), 40, .inl (upd (V10 23) (Int32.toNatClampNeg 0) (vp_nar .boolean 1)))) = xw ad kk V14 L Z := by rw [hV14]; exact xw_ss (by decide) rfl (xb_si (by decide))
        have hP : va_P D vwCl (xw ad kk V14 L Z) H := by rw [← ew15]; exact hP
        have hD : va_D A (xw ad kk V14 L Z) := by rw [← ew15]; exact hD
        have hMV14 : rgd bX V14 := hMV10.put hV14 (nar_b _)
        have agV14 : agr [(3, 12), (3, 13), (3, 14), (3, 15)] [23, 24, 25] V V14 := agV10.up hV14 rfl
        refine lv_aload_n hx hb dX8_clear_34 rfl (lv_at hl 1 rfl) ?_
        refine lv_iconst (v := 1) hx hb dX8_clear_35 (by decide) ?_
        refine va_put (D := D) (ci := 8) (v := .int 1) (ty := tyX8 12) (fs := (xfStock ad V14 L Z)) (C := RX8) (T := TX8) (N := 16) hx hb hg inX8 tyX8 tyX8_ok nmX8 hown hK hP hD hS 3 xgStock rfl 12 (by decide) (hg _ w390) (fun _ h9 => h9) rfl (tyX8_ok 12 (by decide)) rfl rfl (Nat.le_of_ble_eq_true rfl) dX8_clear_36 (fun H locs hP hD hS => ?_)
        obtain ⟨V16, hV16⟩ : ∃ z, z = up2 V14 3 12 1 := ⟨_, rfl⟩
        have ew17 : (xw ad kk V14 L Z).set 3 ((ad 3), .inr (8, (xfStock ad V14 L Z).set 12 (.int 1))) = xw ad kk V16 L Z := by rw [hV16]; exact xw_ss (by decide) rfl (xb_si (by decide))
        have hP : va_P D vwCl (xw ad kk V16 L Z) H := by rw [← ew17]; exact hP
        have hD : va_D A (xw ad kk V16 L Z) := by rw [← ew17]; exact hD
        have hMV16 : rgd bX V16 := hMV14.put hV16 (by decide)
        have agV16 : agr [(3, 12), (3, 13), (3, 14), (3, 15)] [23, 24, 25] V V16 := agV14.up hV16 rfl
        refine lv_aload_n hx hb dX8_clear_39 rfl (lv_at hl 1 rfl) ?_
        refine lv_iconst (v := 0) hx hb dX8_clear_40 (by decide) ?_
        refine va_put (D := D) (ci := 8) (v := .int 0) (ty := tyX8 13) (fs := (xfStock ad V16 L Z)) (C := RX8) (T := TX8) (N := 16) hx hb hg inX8 tyX8 tyX8_ok nmX8 hown hK hP hD hS 3 xgStock rfl 13 (by decide) (hg _ w391) (fun _ h9 => h9) rfl (tyX8_ok 13 (by decide)) rfl rfl (Nat.le_of_ble_eq_true rfl) dX8_clear_41 (fun H locs hP hD hS => ?_)
        obtain ⟨V18, hV18⟩ : ∃ z, z = up2 V16 3 13 0 := ⟨_, rfl⟩
        have ew19 : (xw ad kk V16 L Z).set 3 ((ad 3), .inr (8, (xfStock ad V16 L Z).set 13 (.int 0))) = xw ad kk V18 L Z := by rw [hV18]; exact xw_ss (by decide) rfl (xb_si (by decide))
        have hP : va_P D vwCl (xw ad kk V18 L Z) H := by rw [← ew19]; exact hP
        have hD : va_D A (xw ad kk V18 L Z) := by rw [← ew19]; exact hD
        have hMV18 : rgd bX V18 := hMV16.put hV18 (by decide)
        have agV18 : agr [(3, 12), (3, 13), (3, 14), (3, 15)] [23, 24, 25] V V18 := agV16.up hV18 rfl
        refine lv_aload_n hx hb dX8_clear_44 rfl (lv_at hl 1 rfl) ?_
        refine lv_iconst (v := 0) hx hb dX8_clear_45 (by decide) ?_
        refine va_put (D := D) (ci := 8) (v := .int 0) (ty := tyX8 14) (fs := (xfStock ad V18 L Z)) (C := RX8) (T := TX8) (N := 16) hx hb hg inX8 tyX8 tyX8_ok nmX8 hown hK hP hD hS 3 xgStock rfl 14 (by decide) (hg _ w393) (fun _ h9 => h9) rfl (tyX8_ok 14 (by decide)) rfl rfl (Nat.le_of_ble_eq_true rfl) dX8_clear_46 (fun H locs hP hD hS => ?_)
        obtain ⟨V20, hV20⟩ : ∃ z, z = up2 V18 3 14 0 := ⟨_, rfl⟩
        have ew21 : (xw ad kk V18 L Z).set 3 ((ad 3), .inr (8, (xfStock ad V18 L Z).set 14 (.int 0))) = xw ad kk V20 L Z := by rw [hV20]; exact xw_ss (by decide) rfl (xb_si (by decide))
        have hP : va_P D vwCl (xw ad kk V20 L Z) H := by rw [← ew21]; exact hP
        have hD : va_D A (xw ad kk V20 L Z) := by rw [← ew21]; exact hD
        have hMV20 : rgd bX V20 := hMV18.put hV20 (i_full _)
        have agV20 : agr [(3, 12), (3, 13), (3, 14), (3, 15)] [23, 24, 25] V V20 := agV18.up hV20 rfl
        refine lv_aload_n hx hb dX8_clear_49 rfl (lv_at hl 1 rfl) ?_
        refine lv_iconst (v := 0) hx hb dX8_clear_50 (by decide) ?_
        refine va_put (D := D) (ci := 8) (v := .int 0) (ty := tyX8 15) (fs := (xfStock ad V20 L Z)) (C := RX8) (T := TX8) (N := 16) hx hb hg inX8 tyX8 tyX8_ok nmX8 hown hK hP hD hS 3 xgStock rfl 15 (by decide) (hg _ w394) (fun _ h9 => h9) rfl (tyX8_ok 15 (by decide)) rfl rfl (Nat.le_of_ble_eq_true rfl) dX8_clear_51 (fun H locs hP hD hS => ?_)
        obtain ⟨V22, hV22⟩ : ∃ z, z = up2 V20 3 15 0 := ⟨_, rfl⟩
        have ew23 : (xw ad kk V20 L Z).set 3 ((ad 3), .inr (8, (xfStock ad V20 L Z).set 15 (.int 0))) = xw ad kk V22 L Z := by rw [hV22]; exact xw_ss (by decide) rfl (xb_si (by decide))
        have hP : va_P D vwCl (xw ad kk V22 L Z) H := by rw [← ew23]; exact hP
        have hD : va_D A (xw ad kk V22 L Z) := by rw [← ew23]; exact hD
        have hMV22 : rgd bX V22 := hMV20.put hV22 (by decide)
        have agV22 : agr [(3, 12), (3, 13), (3, 14), (3, 15)] [23, 24, 25] V V22 := agV20.up hV22 rfl
        have pq24 : (V22 3 13).toInt = 0 := (congrArg Int32.toInt ((up2_k hV22 (by decide)).trans ((up2_k hV20 (by decide)).trans (up2_s hV18)))).trans (by decide)
        have pq25 : (V22 3 15).toInt = 0 := (congrArg Int32.toInt (up2_s hV22)).trans (by decide)
        have rp26 : ∀ q : Nat, q < 960 → (V22 25 q).toInt = -1 := fun q hq => by rw [(show agr [(3, 12), (3, 13), (3, 14), (3, 15)] [23, 24] V7 V22 from (agr.up (agr.up (agr.up (agr.up (agr.up (agr.tr agr.rf ajV10 (by decide) (by decide)) hV14 rfl) hV16 rfl) hV18 rfl) hV20 rfl) hV22 rfl)) 25 _ rfl, t5 q (by omega)]; decide
        exact W.vret hx hb hr (fun t ht hW => ⟨⟨(V22, L), rfl, ⟨hMV22, agV22, rfl, (show (V22 3 13).toInt = 0 from by (first | exact om_b66ba74381d5 pq24 | omega)), (show (V22 3 15).toInt = 0 from by (first | exact om_b66ba74381d5 pq25 | omega)), rp26⟩, by rw [ht]; exact hP, va_K.moved hW.alike hK, hD⟩, hS.F ht⟩) hS.2.2 dX8_clear_54
      · skip
        have f27 : y9.toInt < 40 := b_nle (by decide) rfl c12
        refine lv_aload_n hx hb dX8_clear_16 rfl (lv_at hl 1 rfl) ?_
        refine lv_iload_n hx hb dX8_clear_17 rfl (lv_at hl 0 rfl) ?_
        refine gA_void (gA_runV (As := [.int y9]) (rest := []) (ci := 8) (q0 := 3) hx hb hml hown hg hP hD hK hS hA hnw hgk (x_shut l D ks H.size ad kk V10 L Z y9 hMV10 (by (first | exact om_e2b7608b251c klp11_0.1 f27 | omega))) w1027 w1028 w1029 w164 w1030 rfl xgStock hdV_yX8_shut ⟨Nat.le_of_ble_eq_true rfl, Nat.le_of_ble_eq_true rfl⟩ rfl hl.1 rfl (Nat.le_of_ble_eq_true rfl) dX8_clear_18 ⟨Nat.le_of_ble_eq_true rfl, Nat.le_of_ble_eq_true rfl⟩) hP hD hK hS hA (fun u29 H locs w30 hP hD hK hS => ?_)
        obtain ⟨V31, L32⟩ := u29
        obtain ⟨hMV31, ajV31, axL32⟩ := w30
        have axL32 : L = L32 := Eq.symm axL32
        subst axL32
        have hP : va_P D vwCl (xw ad kk V31 L Z) H := hP
        have hD : va_D A (xw ad kk V31 L Z) := hD
        have hMV31 : rgd bX V31 := hMV31
        have ajV31 : agr [] [23, 24] V10 V31 := ajV31
        have agV31 : agr [(3, 12), (3, 13), (3, 14), (3, 15)] [23, 24, 25] V V31 := agV10.tr ajV31 (by decide) (by decide)
        obtain ⟨z33, ez33⟩ : ∃ y : Int32, y = y9 + 1 := ⟨_, rfl⟩
        have hz33 : z33.toInt = y9.toInt + 1 := i_add ez33 rfl (by decide) (by (first | exact om_f6338ed50341 klp11_0.1 f27 | omega))
        refine lv_iinc (v := z33) (lv' := [(1, .int z33), (0, .ref (ad 3))]) hx hb dX8_clear_21 hl (k := 0) rfl (by rw [ez33]; rfl) (by decide) rfl (fun ls hl => ?_)
        refine lv_goto (tgt := 10) hx hb dX8_clear_24 (by decide) ?_
        exact ihlp11 z33 V31 H locs ls (by (first | exact om_2a30a9e45e25 klp11_0.1 f27 hz33 | omega)) (by (first | exact om_3c70b874863d hn hz33 | omega)) (agr.tr (agr.tr agr.rf ajV10 (by decide) (by decide)) ajV31 (by decide) (by decide)) hMV31 hP hD hS (lv_sub hl [0, 1] rfl)
  have r34 : Int32.toInt 0 = 0 := by decide
  exact lp11 ((40 - (Int32.toInt 0) + 1 : Int).toNat) 0 V7 H locs ls (by decide) (by (first | exact om_4b52247ddc06 | omega)) agr.rf hMV7 hP hD hS (lv_sub hl [0, 1] rfl)
end
section
/-! the bound of the links (44, a place of no object) may be raised -/
theorem xow_44 {k : Nat} : xow 44 k = none := by
  unfold xow
  repeat rw [if_neg (by omega)]
theorem xw_44 {ad : Nat → Nat} {kk : Nat → ClassId} {V : Vf} {L : Lf} {Z : XZ} {k : Nat} {v : Int32} : xw ad kk (up2 V 44 k v) L Z = xw ad kk V L Z := by
  unfold xw
  rw [xs_up (by decide), show xb ad kk (up2 V 44 k v) L Z = xb ad kk V L Z from funext (fun j => xb_up (by rw [xow_44]; exact fun e => nomatch e))]
theorem rgd_44 {V W : Vf} {k : Nat} {v : Int32} (h : rgd bX V) (e : W = up2 V 44 k v) : rgd bX W := h.put e (i_full v)
theorem MI.gh {V W : Vf} {Z : XZ} {b n r k : Nat} {g : Nat → Nat} {w v u : Prop} {x : Int32} (h : MI V Z b g n r w v u) (e : W = up2 V 44 0 x) (hx : x.toInt = (V 44 0).toInt + (k : Int)) (h2 : x.toInt ≤ 250000) : MI W Z b g n (r + k) w v u := by
  have o : ∀ c i, c ≠ 44 → W c i = V c i := fun c i q => by rw [e]; exact up2_pl (fun a => q a.1)
  have hB : BS V W := fun c i _ _ a => o c i a.2
  have e44 : W 44 0 = x := up2_s e
  have e43 := o 43 (5 * b + 2) (by decide)
  refine ⟨?_, h.nf, h.dn, by rw [e43]; exact h.sz, ?_, ?_, ?_, fun i hi => ?_, by rw [o 3 13 (by decide), o 3 15 (by decide), o 5 8 (by decide)]; exact h.o0, ?_, h.tx.bs hB, h.cd.bs hB, by rw [o 5 5 (by decide)]; exact h.mb, h.ln, ?_⟩
  · unfold SL
    rw [o 3 15 (by decide), o 3 13 (by decide)]
    exact ⟨h.sl.1, h.sl.2.1, fun o' k a1 a2 => by rw [o 30 _ (by decide)]; exact h.sl.2.2.1 o' k a1 a2, fun i a1 => by rw [o 32 _ (by decide)]; exact h.sl.2.2.2 i a1⟩
  · intro o' ho
    rw [o 3 13 (by decide)] at ho
    rw [o 26 _ (by decide), e43]
    exact h.oc o' ho
  · intro i hi
    rw [o 5 8 (by decide)] at hi
    rw [o 40 _ (by decide), o 3 13 (by decide)]
    exact h.md i hi
  · intro i j hij hj
    rw [o 67 i (by decide), o 67 j (by decide), o 80 i (by decide), o 80 j (by decide)]
    exact h.mk2 i j hij hj
  · have ev : vI W n v u i = vI V n v u i := by unfold vI; rw [o 67 (n - 1) (by decide)]
    have f := h.fk i hi
    rw [ev]
    unfold FK at f ⊢
    rw [o 67 i (by decide), o 68 i (by decide), o 70 i (by decide), o 71 i (by decide), o 75 i (by decide), o 76 i (by decide), o 80 i (by decide), o 84 i (by decide), e43, o 42 b (by decide), o 41 b (by decide), o 3 13 (by decide), o 5 8 (by decide), hB.bd]
    exact f
  · have p := h.pot
    rw [o 3 15 (by decide), o 3 13 (by decide), o 5 8 (by decide), e44]
    omega
  · intro k hk
    rw [o 25 _ (by decide), o 3 13 (by decide)]
    refine ⟨(h.pt k hk).1, fun o' h1 => ?_⟩
    rw [o 26 _ (by decide)]
    exact (h.pt k hk).2 o' h1
/-- a frame may be put on whatever lies there, if one link more is paid for -/
theorem MI.adv {V : Vf} {Z : XZ} {b n r : Nat} {g : Nat → Nat} {v u : Prop} (h : MI V Z b g n r True v u) (hr : 1 ≤ r) : ∃ g r, MI V Z b g n r True True True := by
  by_cases hk : (V 67 (n - 1)).toInt = 0
  · have h1 := h.bump hr
    refine ⟨_, _, ⟨h1.sl, h1.nf, h1.dn, h1.sz, h1.oc, h1.md, h1.mk2, fun i hi => ?_, h1.o0, h1.pot, h1.tx, h1.cd, h1.mb, h1.ln, h1.pt⟩⟩
    have f := h1.fk i hi
    by_cases e : i + 1 = n
    · have e2 : n - 1 = i := by omega
      rw [e2] at hk
      exact ⟨f.1, f.2.1, f.2.2.1, f.2.2.2.1, f.2.2.2.2.1, f.2.2.2.2.2.1, f.2.2.2.2.2.2.1, f.2.2.2.2.2.2.2.1, f.2.2.2.2.2.2.2.2.1, fun a1 => absurd a1 (by omega)⟩
    · exact f.w id (fun z => z.elim Or.inl (fun a => absurd a.1 e)) (Nat.le_refl _)
  · have h1 := h.lastb hr
    refine ⟨_, _, ⟨h1.sl, h1.nf, h1.dn, h1.sz, h1.oc, h1.md, h1.mk2, fun i hi => ?_, h1.o0, h1.pot, h1.tx, h1.cd, h1.mb, h1.ln, h1.pt⟩⟩
    exact (h1.fk i hi).w id (fun z => z.elim (fun a => Or.inl ⟨a.1, fun _ => Or.inl hk⟩) Or.inr) (Nat.le_refl _)
theorem MJ.adv {V W : Vf} {Z : XZ} {b : Nat} {x : Int32} (h : MJ V Z b) (e : W = up2 V 44 0 x) (hx : x.toInt = (V 44 0).toInt + 1) (h2 : x.toInt ≤ 250000) : MT W Z b := by
  obtain ⟨g, r, h⟩ := h
  have h1 := h.gh (k := 1) e (by omega) h2
  have e6 : W 5 6 = V 5 6 := by rw [e]; exact up2_pl (by omega)
  unfold MT
  rw [e6]
  exact h1.adv (by omega)
theorem HI.gh {V W : Vf} {Z : XZ} {b : Nat} {x : Int32} (h : HI V Z b) (e : W = up2 V 44 0 x) (hx : (V 44 0).toInt ≤ x.toInt) (h2 : x.toInt ≤ 250000) : HI W Z b := by
  have o : ∀ c i, c ≠ 44 → W c i = V c i := fun c i q => by rw [e]; exact up2_pl (fun a => q a.1)
  have hB : BS V W := fun c i _ _ a => o c i a.2
  have e44 : W 44 0 = x := up2_s e
  refine ⟨?_, h.2.1, ?_, by rw [o 3 13 (by decide), o 3 15 (by decide)]; exact h.2.2.2.1, ?_, h.2.2.2.2.2.1.bs hB, h.2.2.2.2.2.2.1.bs hB, by rw [o 5 5 (by decide)]; exact h.2.2.2.2.2.2.2.1, h.2.2.2.2.2.2.2.2.1, ?_⟩
  · unfold SL
    rw [o 3 15 (by decide), o 3 13 (by decide)]
    exact ⟨h.1.1, h.1.2.1, fun o' k a1 a2 => by rw [o 30 _ (by decide)]; exact h.1.2.2.1 o' k a1 a2, fun i a1 => by rw [o 32 _ (by decide)]; exact h.1.2.2.2 i a1⟩
  · intro o' ho
    rw [o 3 13 (by decide)] at ho
    rw [o 26 _ (by decide), o 43 _ (by decide)]
    exact h.2.2.1 o' ho
  · have p := h.2.2.2.2.1
    rw [o 3 13 (by decide), o 3 15 (by decide), e44]
    omega
  · intro k hk
    rw [o 25 _ (by decide), o 3 13 (by decide)]
    refine ⟨(h.2.2.2.2.2.2.2.2.2 k hk).1, fun o' h1 => ?_⟩
    rw [o 26 _ (by decide)]
    exact (h.2.2.2.2.2.2.2.2.2 k hk).2 o' h1
/-- between the runs of a close -/
def MQZ (V : Vf) (Z : XZ) (b : Nat) : Prop := HI V Z b ∧ (((V 5 6).toInt = 0 ∧ (V 5 8).toInt = 0) ∨ MJ V Z b)
theorem MQZ.ag {fs : List (Nat × Nat)} {cs : List Nat} {V W : Vf} {Z : XZ} {b : Nat} (h : MQZ V Z b) (a : agr fs cs V W) (q0 : hrl fs cs = true) (q : mrl fs cs = true) (q6 : wrL fs cs 5 6 = false) (q9 : wrL fs cs 5 9 = false) (q10 : wrL fs cs 5 10 = false) : MQZ W Z b := by
  have m : ∀ n, ME V W n := fun n => ME.ag a q
  refine ⟨h.1.ag a q0, ?_⟩
  rw [a 5 6 q6, (m 0).2.2.1.2.2.2]
  rcases h.2 with h | h
  · exact Or.inl h
  · right
    obtain ⟨g, r, h⟩ := h
    have qq : QN W b → QN V b := QN.eq (a 5 9 q9) (a 5 10 q10) (m 0).2.2.1.1 (m 0).2.2.2.1 (m 0).1
    exact ⟨g, r, by rw [a 5 6 q6]; exact (h.me (m _)).w id qq qq (Nat.le_refl _)⟩
theorem MQZ.mt {V W : Vf} {Z : XZ} {b : Nat} {x : Int32} (h : MQZ V Z b) (hs : 0 < (V 43 (5 * b + 2)).toInt) (e : W = up2 V 44 0 x) (hx : x.toInt = (V 44 0).toInt + 1) (h2 : x.toInt ≤ 250000) : MT W Z b := by
  rcases h.2 with q | q
  · refine (h.1.gh e (by omega) h2).mt ?_ ?_ ?_
    · rw [e, up2_pl (by omega)]; exact hs
    · rw [e, up2_pl (by omega)]; exact q.2
    · rw [e, up2_pl (by omega)]; exact q.1
  · exact q.adv e hx h2

theorem w1545 : Cond.code yX8_reopenHouse cX8_reopenHouse 1 none ∈ GW := gw_k tk9_6 190 (rfl) rfl
theorem w1542 : Cond.methodLink RX11 245 yX8_reopenHouse ∈ GW := gw_k tk9_6 187 (by decide +kernel) rfl
theorem w1543 : Cond.instanceMethod yX8_reopenHouse ∈ GW := gw_k tk9_6 188 (by decide +kernel) rfl
theorem w1544 : Cond.selects RX8 yX8_reopenHouse yX8_reopenHouse ∈ GW := gw_k tk9_6 189 (by decide +kernel) rfl
theorem hdV_yX8_reopenHouse : yX8_reopenHouse.cls = RX8 ∧ yX8_reopenHouse.cls ≠ "java/lang/invoke/MethodHandle" ∧ yX8_reopenHouse.cls ≠ "java/lang/invoke/VarHandle" ∧ (parseMethodDescriptor yX8_reopenHouse.desc).map (fun d => d.parameters.length) = some 0 := by decide +kernel
theorem w1527 : Cond.code yX8_innermost cX8_innermost 4 (some .int) ∈ GW := gw_k tk9_6 172 (rfl) rfl
theorem w1524 : Cond.methodLink RX11 228 yX8_innermost ∈ GW := gw_k tk9_6 169 (by decide +kernel) rfl
theorem w1525 : Cond.instanceMethod yX8_innermost ∈ GW := gw_k tk9_6 170 (by decide +kernel) rfl
theorem w1526 : Cond.selects RX8 yX8_innermost yX8_innermost ∈ GW := gw_k tk9_6 171 (by decide +kernel) rfl
theorem hdV_yX8_innermost : yX8_innermost.cls = RX8 ∧ yX8_innermost.cls ≠ "java/lang/invoke/MethodHandle" ∧ yX8_innermost.cls ≠ "java/lang/invoke/VarHandle" ∧ (parseMethodDescriptor yX8_innermost.desc).map (fun d => d.parameters.length) = some 1 := by decide +kernel
theorem w1535 : Cond.code yX8_latestMade cX8_latestMade 5 (some .int) ∈ GW := gw_k tk9_6 180 (rfl) rfl
theorem w1532 : Cond.methodLink RX11 231 yX8_latestMade ∈ GW := gw_k tk9_6 177 (by decide +kernel) rfl
theorem w1533 : Cond.instanceMethod yX8_latestMade ∈ GW := gw_k tk9_6 178 (by decide +kernel) rfl
theorem w1534 : Cond.selects RX8 yX8_latestMade yX8_latestMade ∈ GW := gw_k tk9_6 179 (by decide +kernel) rfl
theorem hdV_yX8_latestMade : yX8_latestMade.cls = RX8 ∧ yX8_latestMade.cls ≠ "java/lang/invoke/MethodHandle" ∧ yX8_latestMade.cls ≠ "java/lang/invoke/VarHandle" ∧ (parseMethodDescriptor yX8_latestMade.desc).map (fun d => d.parameters.length) = some 1 := by decide +kernel
theorem w1541 : Cond.methodLink RX11 241 yX8_shut ∈ GW := gw_k tk9_6 186 (by decide +kernel) rfl
theorem w1536 : Cond.methodLink RX11 234 yX5_pushClose ∈ GW := gw_k tk9_6 181 (by decide +kernel) rfl
theorem w1540 : Cond.code yX5_isSpent cX5_isSpent 1 (some .boolean) ∈ GW := gw_k tk9_6 185 (rfl) rfl
theorem w1537 : Cond.methodLink RX11 237 yX5_isSpent ∈ GW := gw_k tk9_6 182 (by decide +kernel) rfl
theorem w1538 : Cond.instanceMethod yX5_isSpent ∈ GW := gw_k tk9_6 183 (by decide +kernel) rfl
theorem w1539 : Cond.selects RX5 yX5_isSpent yX5_isSpent ∈ GW := gw_k tk9_6 184 (by decide +kernel) rfl
theorem hdV_yX5_isSpent : yX5_isSpent.cls = RX5 ∧ yX5_isSpent.cls ≠ "java/lang/invoke/MethodHandle" ∧ yX5_isSpent.cls ≠ "java/lang/invoke/VarHandle" ∧ (parseMethodDescriptor yX5_isSpent.desc).map (fun d => d.parameters.length) = some 0 := by decide +kernel
theorem dk9_dX11_close_0_0 : dOk cX11_close [(0, .aload_n 0, 1), (1, .getfield 61, 3), (4, .invokevirtual 192, 3), (7, .aload_n 0, 1), (8, .getfield 35, 3), (11, .iload_n 1, 1), (12, .invokevirtual 182, 3), (15, .ifCond .ne 10, 3), (25, .iconst 0, 1), (26, .istore_n 2, 1), (27, .iconst 0, 1), (28, .istore_n 3, 1), (29, .iconst 0, 1), (30, .istore 4, 2), (32, .iload 4, 2), (34, .sipush 340, 3), (37, .if_icmp .ge 89, 3), (126, .aload_n 0, 1), (127, .getfield 35, 3), (130, .invokevirtual 245, 3), (133, .iload_n 2, 1), (134, .ifCond .eq 13, 3), (147, .aload_n 0, 1), (148, .iconst 0, 1)] = true ∧ dOk cX11_close [(149, .iload_n 3, 1), (150, .invokevirtual 195, 3), (153, .ireturn, 1), (137, .aload_n 0, 1), (138, .bipush 6, 2), (140, .iconst (-1), 1), (141, .invokevirtual 195, 3), (144, .goto 9, 3), (40, .aload_n 0, 1), (41, .getfield 35, 3), (44, .iload_n 1, 1), (45, .invokevirtual 182, 3), (48, .ifCond .eq 78, 3), (51, .aload_n 0, 1), (52, .getfield 35, 3), (55, .iload_n 1, 1), (56, .invokevirtual 228, 3), (59, .istore 5, 2), (61, .aload_n 0, 1), (62, .getfield 35, 3), (65, .iload 5, 2), (67, .invokevirtual 231, 3), (70, .istore 6, 2), (72, .iload 6, 2)] = true ∧ dOk cX11_close [(74, .iconst (-1), 1), (75, .if_icmp .eq 36, 3), (111, .aload_n 0, 1), (112, .getfield 35, 3), (115, .iload 5, 2), (117, .invokevirtual 241, 3), (120, .iinc 4 1, 3), (123, .goto (-91), 3), (78, .aload_n 0, 1), (79, .getfield 61, 3), (82, .iload 6, 2), (84, .iconst 0, 1), (85, .invokevirtual 234, 3), (88, .aload_n 0, 1), (89, .getfield 61, 3), (92, .invokevirtual 202, 3), (95, .iload_n 2, 1), (96, .aload_n 0, 1), (97, .getfield 61, 3), (100, .invokevirtual 237, 3), (103, .ior, 1), (104, .istore_n 2, 1), (105, .iinc 3 1, 3), (108, .goto 12, 3)] = true ∧ dOk cX11_close [(18, .aload_n 0, 1), (19, .iconst 3, 1), (20, .iconst (-1), 1), (21, .invokevirtual 195, 3), (24, .ireturn, 1)] = true := by decide +kernel
theorem dX11_close_0 : decode cX11_close 0 = .ok (.aload_n 0, 1) := dr9 dk9_dX11_close_0_0.1 0 (0, .aload_n 0, 1) rfl
theorem dX11_close_1 : decode cX11_close 1 = .ok (.getfield 61, 3) := dr9 dk9_dX11_close_0_0.1 1 (1, .getfield 61, 3) rfl
theorem dX11_close_4 : decode cX11_close 4 = .ok (.invokevirtual 192, 3) := dr9 dk9_dX11_close_0_0.1 2 (4, .invokevirtual 192, 3) rfl
theorem dX11_close_7 : decode cX11_close 7 = .ok (.aload_n 0, 1) := dr9 dk9_dX11_close_0_0.1 3 (7, .aload_n 0, 1) rfl
theorem dX11_close_8 : decode cX11_close 8 = .ok (.getfield 35, 3) := dr9 dk9_dX11_close_0_0.1 4 (8, .getfield 35, 3) rfl
theorem dX11_close_11 : decode cX11_close 11 = .ok (.iload_n 1, 1) := dr9 dk9_dX11_close_0_0.1 5 (11, .iload_n 1, 1) rfl
theorem dX11_close_12 : decode cX11_close 12 = .ok (.invokevirtual 182, 3) := dr9 dk9_dX11_close_0_0.1 6 (12, .invokevirtual 182, 3) rfl
theorem dX11_close_15 : decode cX11_close 15 = .ok (.ifCond .ne 10, 3) := dr9 dk9_dX11_close_0_0.1 7 (15, .ifCond .ne 10, 3) rfl
theorem dX11_close_25 : decode cX11_close 25 = .ok (.iconst 0, 1) := dr9 dk9_dX11_close_0_0.1 8 (25, .iconst 0, 1) rfl
theorem dX11_close_26 : decode cX11_close 26 = .ok (.istore_n 2, 1) := dr9 dk9_dX11_close_0_0.1 9 (26, .istore_n 2, 1) rfl
theorem dX11_close_27 : decode cX11_close 27 = .ok (.iconst 0, 1) := dr9 dk9_dX11_close_0_0.1 10 (27, .iconst 0, 1) rfl
theorem dX11_close_28 : decode cX11_close 28 = .ok (.istore_n 3, 1) := dr9 dk9_dX11_close_0_0.1 11 (28, .istore_n 3, 1) rfl
theorem dX11_close_29 : decode cX11_close 29 = .ok (.iconst 0, 1) := dr9 dk9_dX11_close_0_0.1 12 (29, .iconst 0, 1) rfl
theorem dX11_close_30 : decode cX11_close 30 = .ok (.istore 4, 2) := dr9 dk9_dX11_close_0_0.1 13 (30, .istore 4, 2) rfl
theorem dX11_close_32 : decode cX11_close 32 = .ok (.iload 4, 2) := dr9 dk9_dX11_close_0_0.1 14 (32, .iload 4, 2) rfl
theorem dX11_close_34 : decode cX11_close 34 = .ok (.sipush 340, 3) := dr9 dk9_dX11_close_0_0.1 15 (34, .sipush 340, 3) rfl
theorem dX11_close_37 : decode cX11_close 37 = .ok (.if_icmp .ge 89, 3) := dr9 dk9_dX11_close_0_0.1 16 (37, .if_icmp .ge 89, 3) rfl
theorem dX11_close_126 : decode cX11_close 126 = .ok (.aload_n 0, 1) := dr9 dk9_dX11_close_0_0.1 17 (126, .aload_n 0, 1) rfl
theorem dX11_close_127 : decode cX11_close 127 = .ok (.getfield 35, 3) := dr9 dk9_dX11_close_0_0.1 18 (127, .getfield 35, 3) rfl
theorem dX11_close_130 : decode cX11_close 130 = .ok (.invokevirtual 245, 3) := dr9 dk9_dX11_close_0_0.1 19 (130, .invokevirtual 245, 3) rfl
theorem dX11_close_133 : decode cX11_close 133 = .ok (.iload_n 2, 1) := dr9 dk9_dX11_close_0_0.1 20 (133, .iload_n 2, 1) rfl
theorem dX11_close_134 : decode cX11_close 134 = .ok (.ifCond .eq 13, 3) := dr9 dk9_dX11_close_0_0.1 21 (134, .ifCond .eq 13, 3) rfl
theorem dX11_close_147 : decode cX11_close 147 = .ok (.aload_n 0, 1) := dr9 dk9_dX11_close_0_0.1 22 (147, .aload_n 0, 1) rfl
theorem dX11_close_148 : decode cX11_close 148 = .ok (.iconst 0, 1) := dr9 dk9_dX11_close_0_0.1 23 (148, .iconst 0, 1) rfl
theorem dX11_close_149 : decode cX11_close 149 = .ok (.iload_n 3, 1) := dr9 dk9_dX11_close_0_0.2.1 0 (149, .iload_n 3, 1) rfl
theorem dX11_close_150 : decode cX11_close 150 = .ok (.invokevirtual 195, 3) := dr9 dk9_dX11_close_0_0.2.1 1 (150, .invokevirtual 195, 3) rfl
theorem dX11_close_153 : decode cX11_close 153 = .ok (.ireturn, 1) := dr9 dk9_dX11_close_0_0.2.1 2 (153, .ireturn, 1) rfl
theorem dX11_close_137 : decode cX11_close 137 = .ok (.aload_n 0, 1) := dr9 dk9_dX11_close_0_0.2.1 3 (137, .aload_n 0, 1) rfl
theorem dX11_close_138 : decode cX11_close 138 = .ok (.bipush 6, 2) := dr9 dk9_dX11_close_0_0.2.1 4 (138, .bipush 6, 2) rfl
theorem dX11_close_140 : decode cX11_close 140 = .ok (.iconst (-1), 1) := dr9 dk9_dX11_close_0_0.2.1 5 (140, .iconst (-1), 1) rfl
theorem dX11_close_141 : decode cX11_close 141 = .ok (.invokevirtual 195, 3) := dr9 dk9_dX11_close_0_0.2.1 6 (141, .invokevirtual 195, 3) rfl
theorem dX11_close_144 : decode cX11_close 144 = .ok (.goto 9, 3) := dr9 dk9_dX11_close_0_0.2.1 7 (144, .goto 9, 3) rfl
theorem dX11_close_40 : decode cX11_close 40 = .ok (.aload_n 0, 1) := dr9 dk9_dX11_close_0_0.2.1 8 (40, .aload_n 0, 1) rfl
theorem dX11_close_41 : decode cX11_close 41 = .ok (.getfield 35, 3) := dr9 dk9_dX11_close_0_0.2.1 9 (41, .getfield 35, 3) rfl
theorem dX11_close_44 : decode cX11_close 44 = .ok (.iload_n 1, 1) := dr9 dk9_dX11_close_0_0.2.1 10 (44, .iload_n 1, 1) rfl
theorem dX11_close_45 : decode cX11_close 45 = .ok (.invokevirtual 182, 3) := dr9 dk9_dX11_close_0_0.2.1 11 (45, .invokevirtual 182, 3) rfl
theorem dX11_close_48 : decode cX11_close 48 = .ok (.ifCond .eq 78, 3) := dr9 dk9_dX11_close_0_0.2.1 12 (48, .ifCond .eq 78, 3) rfl
theorem dX11_close_51 : decode cX11_close 51 = .ok (.aload_n 0, 1) := dr9 dk9_dX11_close_0_0.2.1 13 (51, .aload_n 0, 1) rfl
theorem dX11_close_52 : decode cX11_close 52 = .ok (.getfield 35, 3) := dr9 dk9_dX11_close_0_0.2.1 14 (52, .getfield 35, 3) rfl
theorem dX11_close_55 : decode cX11_close 55 = .ok (.iload_n 1, 1) := dr9 dk9_dX11_close_0_0.2.1 15 (55, .iload_n 1, 1) rfl
theorem dX11_close_56 : decode cX11_close 56 = .ok (.invokevirtual 228, 3) := dr9 dk9_dX11_close_0_0.2.1 16 (56, .invokevirtual 228, 3) rfl
theorem dX11_close_59 : decode cX11_close 59 = .ok (.istore 5, 2) := dr9 dk9_dX11_close_0_0.2.1 17 (59, .istore 5, 2) rfl
theorem dX11_close_61 : decode cX11_close 61 = .ok (.aload_n 0, 1) := dr9 dk9_dX11_close_0_0.2.1 18 (61, .aload_n 0, 1) rfl
theorem dX11_close_62 : decode cX11_close 62 = .ok (.getfield 35, 3) := dr9 dk9_dX11_close_0_0.2.1 19 (62, .getfield 35, 3) rfl
theorem dX11_close_65 : decode cX11_close 65 = .ok (.iload 5, 2) := dr9 dk9_dX11_close_0_0.2.1 20 (65, .iload 5, 2) rfl
theorem dX11_close_67 : decode cX11_close 67 = .ok (.invokevirtual 231, 3) := dr9 dk9_dX11_close_0_0.2.1 21 (67, .invokevirtual 231, 3) rfl
theorem dX11_close_70 : decode cX11_close 70 = .ok (.istore 6, 2) := dr9 dk9_dX11_close_0_0.2.1 22 (70, .istore 6, 2) rfl
theorem dX11_close_72 : decode cX11_close 72 = .ok (.iload 6, 2) := dr9 dk9_dX11_close_0_0.2.1 23 (72, .iload 6, 2) rfl
theorem dX11_close_74 : decode cX11_close 74 = .ok (.iconst (-1), 1) := dr9 dk9_dX11_close_0_0.2.2.1 0 (74, .iconst (-1), 1) rfl
theorem dX11_close_75 : decode cX11_close 75 = .ok (.if_icmp .eq 36, 3) := dr9 dk9_dX11_close_0_0.2.2.1 1 (75, .if_icmp .eq 36, 3) rfl
theorem dX11_close_111 : decode cX11_close 111 = .ok (.aload_n 0, 1) := dr9 dk9_dX11_close_0_0.2.2.1 2 (111, .aload_n 0, 1) rfl
theorem dX11_close_112 : decode cX11_close 112 = .ok (.getfield 35, 3) := dr9 dk9_dX11_close_0_0.2.2.1 3 (112, .getfield 35, 3) rfl
theorem dX11_close_115 : decode cX11_close 115 = .ok (.iload 5, 2) := dr9 dk9_dX11_close_0_0.2.2.1 4 (115, .iload 5, 2) rfl
theorem dX11_close_117 : decode cX11_close 117 = .ok (.invokevirtual 241, 3) := dr9 dk9_dX11_close_0_0.2.2.1 5 (117, .invokevirtual 241, 3) rfl
theorem dX11_close_120 : decode cX11_close 120 = .ok (.iinc 4 1, 3) := dr9 dk9_dX11_close_0_0.2.2.1 6 (120, .iinc 4 1, 3) rfl
theorem dX11_close_123 : decode cX11_close 123 = .ok (.goto (-91), 3) := dr9 dk9_dX11_close_0_0.2.2.1 7 (123, .goto (-91), 3) rfl
theorem dX11_close_78 : decode cX11_close 78 = .ok (.aload_n 0, 1) := dr9 dk9_dX11_close_0_0.2.2.1 8 (78, .aload_n 0, 1) rfl
theorem dX11_close_79 : decode cX11_close 79 = .ok (.getfield 61, 3) := dr9 dk9_dX11_close_0_0.2.2.1 9 (79, .getfield 61, 3) rfl
theorem dX11_close_82 : decode cX11_close 82 = .ok (.iload 6, 2) := dr9 dk9_dX11_close_0_0.2.2.1 10 (82, .iload 6, 2) rfl
theorem dX11_close_84 : decode cX11_close 84 = .ok (.iconst 0, 1) := dr9 dk9_dX11_close_0_0.2.2.1 11 (84, .iconst 0, 1) rfl
theorem dX11_close_85 : decode cX11_close 85 = .ok (.invokevirtual 234, 3) := dr9 dk9_dX11_close_0_0.2.2.1 12 (85, .invokevirtual 234, 3) rfl
theorem dX11_close_88 : decode cX11_close 88 = .ok (.aload_n 0, 1) := dr9 dk9_dX11_close_0_0.2.2.1 13 (88, .aload_n 0, 1) rfl
theorem dX11_close_89 : decode cX11_close 89 = .ok (.getfield 61, 3) := dr9 dk9_dX11_close_0_0.2.2.1 14 (89, .getfield 61, 3) rfl
theorem dX11_close_92 : decode cX11_close 92 = .ok (.invokevirtual 202, 3) := dr9 dk9_dX11_close_0_0.2.2.1 15 (92, .invokevirtual 202, 3) rfl
theorem dX11_close_95 : decode cX11_close 95 = .ok (.iload_n 2, 1) := dr9 dk9_dX11_close_0_0.2.2.1 16 (95, .iload_n 2, 1) rfl
theorem dX11_close_96 : decode cX11_close 96 = .ok (.aload_n 0, 1) := dr9 dk9_dX11_close_0_0.2.2.1 17 (96, .aload_n 0, 1) rfl
theorem dX11_close_97 : decode cX11_close 97 = .ok (.getfield 61, 3) := dr9 dk9_dX11_close_0_0.2.2.1 18 (97, .getfield 61, 3) rfl
theorem dX11_close_100 : decode cX11_close 100 = .ok (.invokevirtual 237, 3) := dr9 dk9_dX11_close_0_0.2.2.1 19 (100, .invokevirtual 237, 3) rfl
theorem dX11_close_103 : decode cX11_close 103 = .ok (.ior, 1) := dr9 dk9_dX11_close_0_0.2.2.1 20 (103, .ior, 1) rfl
theorem dX11_close_104 : decode cX11_close 104 = .ok (.istore_n 2, 1) := dr9 dk9_dX11_close_0_0.2.2.1 21 (104, .istore_n 2, 1) rfl
theorem dX11_close_105 : decode cX11_close 105 = .ok (.iinc 3 1, 3) := dr9 dk9_dX11_close_0_0.2.2.1 22 (105, .iinc 3 1, 3) rfl
theorem dX11_close_108 : decode cX11_close 108 = .ok (.goto 12, 3) := dr9 dk9_dX11_close_0_0.2.2.1 23 (108, .goto 12, 3) rfl
theorem dX11_close_18 : decode cX11_close 18 = .ok (.aload_n 0, 1) := dr9 dk9_dX11_close_0_0.2.2.2 0 (18, .aload_n 0, 1) rfl
theorem dX11_close_19 : decode cX11_close 19 = .ok (.iconst 3, 1) := dr9 dk9_dX11_close_0_0.2.2.2 1 (19, .iconst 3, 1) rfl
theorem dX11_close_20 : decode cX11_close 20 = .ok (.iconst (-1), 1) := dr9 dk9_dX11_close_0_0.2.2.2 2 (20, .iconst (-1), 1) rfl
theorem dX11_close_21 : decode cX11_close 21 = .ok (.invokevirtual 195, 3) := dr9 dk9_dX11_close_0_0.2.2.2 3 (21, .invokevirtual 195, 3) rfl
theorem dX11_close_24 : decode cX11_close 24 = .ok (.ireturn, 1) := dr9 dk9_dX11_close_0_0.2.2.2 4 (24, .ireturn, 1) rfl
abbrev r_x_h_close (Z : XZ) : Room := { frames := 8, cells := zcc Z, slots := zss Z, locals := 181 }
abbrev q_x_h_close (D : va_G) (ks : KS) (ad : Nat → Nat) (kk : Nat → ClassId) (V : Vf) (L : Lf) (Z : XZ) (p0 : Int32) (b : Nat) (A : Nat → Prop) : Array Value → State → Outcome → State → Prop := qZi D (fun (r : Int32) (u : Vf × Lf × XZ) => rgd bX u.1 ∧ agr [(0, 9), (3, 13), (3, 14), (3, 15), (4, 5), (4, 6), (5, 6), (5, 7), (5, 8), (5, 9), (5, 10), (5, 11), (5, 12), (5, 13), (5, 14), (44, 0)] [23, 24, 25, 26, 27, 28, 29, 30, 31, 32, 33, 34, 35, 36, 37, 39, 40, 67, 68, 69, 70, 71, 72, 73, 74, 75, 76, 77, 78, 79, 80, 81, 82, 83, 84, 85] V u.1 ∧ u.2.1 = L ∧ ZL Z u.2.2 ∧ (HI u.1 u.2.2 b) ∧ ((u.1 44 0).toInt ≤ (V 44 0).toInt + 340)) (fun u => xw ad kk u.1 u.2.1 u.2.2) (fun u => xty kk u.2.2) (fun u => zcc Z - zcc u.2.2) (fun u => zss Z - zss u.2.2) A
set_option maxHeartbeats 4000000 in
set_option maxRecDepth 100000 in
theorem x_h_close (l : Launch) (D : va_G) (ks : KS) (sz : Nat) (ad : Nat → Nat) (kk : Nat → ClassId) (V : Vf) (L : Lf) (Z : XZ) (p0 : Int32) (b : Nat) (hMV : rgd bX V) (hb2 : b < 2) (shk : (V 0 6).toInt = (b : Int)) (hi : HI V Z b) (h44 : (V 44 0).toInt + 340 ≤ 250000)  : Met l yX11_close (Cond.code yX11_close cX11_close 7 (some .int) :: GW) (r_x_h_close Z) (va_Pc [.ref (ad 0), .int p0] (gp D ks (xw ad kk V L Z) (xty kk Z) sz)) (q_x_h_close D ks ad kk V L Z p0 b (va_A (xw ad kk V L Z) sz)) (zcc Z) (zss Z) (va_A (xw ad kk V L Z) sz) := by
  refine g_met (q_x_h_close D ks ad kk V L Z p0 b) (by decide) (Nat.le_of_ble_eq_true rfl) ?_
  intro p e s m below meth c A ls H locs hx hb hr hml hown hg hlocks hin hnw hgk hP hK hD hS hA hl
  have hown : s.vm.findClass RX11 = some m.cls := hown
  have hl : lv_has ls 7 [(0, .ref (ad 0)), (1, .int p0)] := hl
  have hP : va_P D vwCl (xw ad kk V L Z) H := hP
  have hD : va_D A (xw ad kk V L Z) := hD
  have hK : va_K D vwCl (xty kk Z) s := hK
  have agV : agr [(0, 9), (3, 13), (3, 14), (3, 15), (4, 5), (4, 6), (5, 6), (5, 7), (5, 8), (5, 9), (5, 10), (5, 11), (5, 12), (5, 13), (5, 14), (44, 0)] [23, 24, 25, 26, 27, 28, 29, 30, 31, 32, 33, 34, 35, 36, 37, 39, 40, 67, 68, 69, 70, 71, 72, 73, 74, 75, 76, 77, 78, 79, 80, 81, 82, 83, 84, 85] V V := agr.rf
  have zoZ : ZL Z Z := ZL.rf
  refine W.know (fun ka kb => ?_)
  refine W.tight (k := zcc Z - zcc Z) (n := zss Z - zss Z) (by omega) (by omega) ?_
  have r1 : 0 ≤ ((V 0 6)).toInt ∧ ((V 0 6)).toInt ≤ 1 := hMV 0 6
  refine lv_aload_n hx hb dX11_close_0 rfl (lv_at hl 0 rfl) ?_
  refine va_get (D := D) (ci := 11) (v := .ref (ad 5)) (fs := (xfHouse ad V L Z)) (C := RX11) (T := TX11) (N := 10) hx hb hg inX11 hown hK hP 0 xgHouse rfl 5 (by decide) (hg _ w720) (fun _ h9 => h9) rfl dX11_close_1 ?_
  refine gA_void (gA_runV (As := []) (rest := []) (ci := 5) (q0 := 5) hx hb hml hown hg hP hD hK hS hA hnw hgk (x_restart l D ks H.size ad kk V L Z  hMV ) w1170 w1044 w1045 w171 w1046 rfl xgMachine hdV_yX5_restart ⟨Nat.le_of_ble_eq_true rfl, Nat.le_of_ble_eq_true rfl⟩ rfl hl.1 rfl (Nat.le_of_ble_eq_true rfl) dX11_close_4 ⟨z0, z0⟩) hP hD hK hS hA (fun u3 H locs w4 hP hD hK hS => ?_)
  obtain ⟨V10, L11⟩ := u3
  obtain ⟨hMV10, ajV10, axL11, t5, t6, t7, t8, t9⟩ := w4
  have axL11 : L = L11 := Eq.symm axL11
  subst axL11
  have hP : va_P D vwCl (xw ad kk V10 L Z) H := hP
  have hD : va_D A (xw ad kk V10 L Z) := hD
  have hMV10 : rgd bX V10 := hMV10
  have ajV10 : agr [(5, 6), (5, 7), (5, 8), (5, 9), (5, 13)] [] V V10 := ajV10
  have agV10 : agr [(0, 9), (3, 13), (3, 14), (3, 15), (4, 5), (4, 6), (5, 6), (5, 7), (5, 8), (5, 9), (5, 10), (5, 11), (5, 12), (5, 13), (5, 14), (44, 0)] [23, 24, 25, 26, 27, 28, 29, 30, 31, 32, 33, 34, 35, 36, 37, 39, 40, 67, 68, 69, 70, 71, 72, 73, 74, 75, 76, 77, 78, 79, 80, 81, 82, 83, 84, 85] V V10 := agV.tr ajV10 (by decide) (by decide)
  have t5 : (V10 5 6).toInt = 0 := t5
  have t6 : (V10 5 7).toInt = 0 := t6
  have t7 : (V10 5 8).toInt = 0 := t7
  have t8 : (V10 5 9).toInt = 0 := t8
  have t9 : (V10 5 13).toInt = 0 := t9
  have r12 : 0 ≤ ((V10 5 6)).toInt ∧ ((V10 5 6)).toInt ≤ 400 := hMV10 5 6
  have r13 : 0 ≤ ((V10 5 7)).toInt ∧ ((V10 5 7)).toInt ≤ 2048 := hMV10 5 7
  have r14 : 0 ≤ ((V10 5 8)).toInt ∧ ((V10 5 8)).toInt ≤ 300 := hMV10 5 8
  have r15 : 0 ≤ ((V10 5 9)).toInt ∧ ((V10 5 9)).toInt ≤ 3 := hMV10 5 9
  have r16 : 0 ≤ ((V10 5 13)).toInt ∧ ((V10 5 13)).toInt ≤ 3000 := hMV10 5 13
  refine lv_aload_n hx hb dX11_close_7 rfl (lv_at hl 0 rfl) ?_
  refine va_get (D := D) (ci := 11) (v := .ref (ad 3)) (fs := (xfHouse ad V10 L Z)) (C := RX11) (T := TX11) (N := 10) hx hb hg inX11 hown hK hP 0 xgHouse rfl 3 (by decide) (hg _ w718) (fun _ h9 => h9) rfl dX11_close_8 ?_
  refine lv_iload_n hx hb dX11_close_11 rfl (lv_at hl 1 rfl) ?_
  refine gA_int (gA_runV (As := [.int p0]) (rest := []) (ci := 8) (q0 := 3) hx hb hml hown hg hP hD hK hS hA hnw hgk (x_isOpen l D ks H.size ad kk V10 L Z p0 hMV10 ) w1158 w1159 w1160 w164 w1161 rfl xgStock hdV_yX8_isOpen ⟨Nat.le_of_ble_eq_true rfl, Nat.le_of_ble_eq_true rfl⟩ rfl hl.1 rfl (Nat.le_of_ble_eq_true rfl) dX11_close_12 ⟨z0, z0⟩) hP hD hK hS hA (fun z17 u18 H locs w19 hP hD hK hS => ?_)
  obtain ⟨rgz17, t20⟩ := w19
  have rgz17 : 0 ≤ z17.toInt ∧ z17.toInt ≤ 1 := rgz17
  have t20 : Imp (z17.toInt = 1) (0 ≤ p0.toInt ∧ p0.toInt < (V10 3 12).toInt) := t20
  have pq21 : (V10 3 12).toInt = ((V 3 12)).toInt := congrArg Int32.toInt (ajV10 3 12 rfl)
  have r22 : 1 ≤ ((V 3 12)).toInt ∧ ((V 3 12)).toInt ≤ 40 := hMV 3 12
  refine lv_if_ne (tgt := 25) hx hb dX11_close_15 (by decide) (fun c23 => ?_) (fun c23 => ?_)
  · skip
    have f24 : z17.toInt ≠ 0 := b_neq rfl (by decide) c23
    refine lv_iconst (v := 0) hx hb dX11_close_25 (by decide) ?_
    refine lv_istore_n (lv' := [(2, .int 0), (0, .ref (ad 0)), (1, .int p0)]) hx hb dX11_close_26 rfl hl (by decide) rfl (fun ls hl => ?_)
    refine lv_iconst (v := 0) hx hb dX11_close_27 (by decide) ?_
    refine lv_istore_n (lv' := [(3, .int 0), (2, .int 0), (0, .ref (ad 0)), (1, .int p0)]) hx hb dX11_close_28 rfl hl (by decide) rfl (fun ls hl => ?_)
    refine lv_iconst (v := 0) hx hb dX11_close_29 (by decide) ?_
    refine lv_istore (lv' := [(4, .int 0), (3, .int 0), (2, .int 0), (0, .ref (ad 0)), (1, .int p0)]) hx hb dX11_close_30 hl (by decide) rfl (fun ls hl => ?_)
    have lp30 : ∀ (fulp30 : Nat) (y25 : Int32) (y26 : Int32) (y27 : Int32) (V28 : Vf) (Z29 : XZ) (H : Heap) (locs : List Loc) (ls : Array Slot), 0 ≤ y25.toInt ∧ y25.toInt ≤ 340 → MQZ V28 Z29 b → (V28 44 0).toInt ≤ (V 44 0).toInt + y25.toInt → 340 - y25.toInt < (fulp30 : Int) → agr [(0, 9), (3, 13), (3, 14), (3, 15), (4, 5), (4, 6), (5, 6), (5, 7), (5, 8), (5, 9), (5, 10), (5, 11), (5, 12), (5, 13), (5, 14), (44, 0)] [23, 24, 25, 26, 27, 28, 29, 30, 31, 32, 33, 34, 35, 36, 37, 39, 40, 67, 68, 69, 70, 71, 72, 73, 74, 75, 76, 77, 78, 79, 80, 81, 82, 83, 84, 85] V10 V28 → rgd bX V28 → ZL Z Z29 → va_K D vwCl (xty kk Z29) s → va_P D vwCl (xw ad kk V28 L Z29) H → va_D A (xw ad kk V28 L Z29) → va_S A s.heap H locs → lv_has ls 7 [(4, .int y25), (3, .int y26), (2, .int y27), (0, .ref (ad 0)), (1, .int p0)] → W p l e (r_x_h_close Z) s m ([.ref (ad 0), .int p0] : List Value).toArray below meth c H locs (zcc Z - zcc Z29) (zss Z - zss Z29) (MQ below (q_x_h_close D ks ad kk V L Z p0 b A) ([.ref (ad 0), .int p0] : List Value).toArray s (zcc Z) (zss Z) A) (F0 m 32 ls []) := by
      intro fulp30
      induction fulp30 with
      | zero =>
        intro y25 y26 y27 V28 Z29 H locs ls klp30_0 xlp30_0 xlp30_1 hn ajV28 hMV28 zoZ29 hK hP hD hS hl
        exfalso; (first | exact om_351ff2853172 klp30_0.2 hn | omega)
      | succ fulp30 ihlp30 =>
        intro y25 y26 y27 V28 Z29 H locs ls klp30_0 xlp30_0 xlp30_1 hn ajV28 hMV28 zoZ29 hK hP hD hS hl
        have agV28 : agr [(0, 9), (3, 13), (3, 14), (3, 15), (4, 5), (4, 6), (5, 6), (5, 7), (5, 8), (5, 9), (5, 10), (5, 11), (5, 12), (5, 13), (5, 14), (44, 0)] [23, 24, 25, 26, 27, 28, 29, 30, 31, 32, 33, 34, 35, 36, 37, 39, 40, 67, 68, 69, 70, 71, 72, 73, 74, 75, 76, 77, 78, 79, 80, 81, 82, 83, 84, 85] V V28 := agV10.tr ajV28 (by decide) (by decide)
        have zmZ29 := zoZ29.1
        have znZ29 := zoZ29.2.1
        refine lv_iload hx hb dX11_close_32 (lv_at hl 0 rfl) ?_
        refine lv_sipush (v := 340) hx hb dX11_close_34 (by decide) ?_
        refine lv_icmp_ge (tgt := 126) hx hb dX11_close_37 (by decide) (fun c31 => ?_) (fun c31 => ?_)
        · skip
          have f32 : 340 ≤ y25.toInt := b_le (by decide) rfl c31
          refine lv_aload_n hx hb dX11_close_126 rfl (lv_at hl 3 rfl) ?_
          refine va_get (D := D) (ci := 11) (v := .ref (ad 3)) (fs := (xfHouse ad V28 L Z29)) (C := RX11) (T := TX11) (N := 10) hx hb hg inX11 hown hK hP 0 xgHouse rfl 3 (by decide) (hg _ w718) (fun _ h9 => h9) rfl dX11_close_127 ?_
          refine gA_void (gA_runV (As := []) (rest := []) (ci := 8) (q0 := 3) hx hb hml hown hg hP hD hK hS hA hnw hgk (x_reopenHouse l D ks H.size ad kk V28 L Z29  hMV28 ) w1542 w1543 w1544 w164 w1545 rfl xgStock hdV_yX8_reopenHouse ⟨Nat.le_of_ble_eq_true rfl, Nat.le_of_ble_eq_true rfl⟩ rfl hl.1 rfl (Nat.le_of_ble_eq_true rfl) dX11_close_130 ⟨z0, z0⟩) hP hD hK hS hA (fun u34 H locs w35 hP hD hK hS => ?_)
          obtain ⟨V36, L37⟩ := u34
          obtain ⟨hMV36, ajV36, axL37⟩ := w35
          have axL37 : L = L37 := Eq.symm axL37
          subst axL37
          have hP : va_P D vwCl (xw ad kk V36 L Z29) H := hP
          have hD : va_D A (xw ad kk V36 L Z29) := hD
          have hMV36 : rgd bX V36 := hMV36
          have ajV36 : agr [] [23] V28 V36 := ajV36
          have agV36 : agr [(0, 9), (3, 13), (3, 14), (3, 15), (4, 5), (4, 6), (5, 6), (5, 7), (5, 8), (5, 9), (5, 10), (5, 11), (5, 12), (5, 13), (5, 14), (44, 0)] [23, 24, 25, 26, 27, 28, 29, 30, 31, 32, 33, 34, 35, 36, 37, 39, 40, 67, 68, 69, 70, 71, 72, 73, 74, 75, 76, 77, 78, 79, 80, 81, 82, 83, 84, 85] V V36 := agV28.tr ajV36 (by decide) (by decide)
          refine lv_iload_n hx hb dX11_close_133 rfl (lv_at hl 2 rfl) ?_
          refine lv_if_eq (tgt := 147) hx hb dX11_close_134 (by decide) (fun c38 => ?_) (fun c38 => ?_)
          · skip
            have f39 : y27.toInt = 0 := b_eq rfl (by decide) c38
            refine lv_aload_n hx hb dX11_close_147 rfl (lv_at hl 3 rfl) ?_
            refine lv_iconst (v := 0) hx hb dX11_close_148 (by decide) ?_
            refine lv_iload_n hx hb dX11_close_149 rfl (lv_at hl 1 rfl) ?_
            have r40 : Int32.toInt 0 = 0 := by decide
            refine gA_int (gA_runV (As := [.int 0, .int y26]) (rest := []) (ci := 11) (q0 := 0) hx hb hml hown hg hP hD hK hS hA hnw hgk (x_ends l D ks H.size ad kk V36 L Z29 0 y26 hMV36 ) w1171 w1173 w42 w156 w1174 rfl xgHouse hdV_yX11_ends ⟨Nat.le_of_ble_eq_true rfl, Nat.le_of_ble_eq_true rfl⟩ rfl hl.1 rfl (Nat.le_of_ble_eq_true rfl) dX11_close_150 ⟨z0, z0⟩) hP hD hK hS hA (fun z41 u42 H locs w43 hP hD hK hS => ?_)
            obtain ⟨V44, L45⟩ := u42
            obtain ⟨hMV44, ajV44, axL45⟩ := w43
            have axL45 : L = L45 := Eq.symm axL45
            subst axL45
            have hP : va_P D vwCl (xw ad kk V44 L Z29) H := hP
            have hD : va_D A (xw ad kk V44 L Z29) := hD
            have hMV44 : rgd bX V44 := hMV44
            have ajV44 : agr [(0, 9)] [] V36 V44 := ajV44
            have agV44 : agr [(0, 9), (3, 13), (3, 14), (3, 15), (4, 5), (4, 6), (5, 6), (5, 7), (5, 8), (5, 9), (5, 10), (5, 11), (5, 12), (5, 13), (5, 14), (44, 0)] [23, 24, 25, 26, 27, 28, 29, 30, 31, 32, 33, 34, 35, 36, 37, 39, 40, 67, 68, 69, 70, 71, 72, 73, 74, 75, 76, 77, 78, 79, 80, 81, 82, 83, 84, 85] V V44 := agV36.tr ajV44 (by decide) (by decide)
            have pq46 : (V44 44 0).toInt = ((V28 44 0)).toInt := congrArg Int32.toInt ((ajV44 44 0 rfl).trans (ajV36 44 0 rfl))
            have rp47 : HI V44 Z29 b := (HI.ag (HI.ag xlp30_0.1 ajV36 (by decide)) ajV44 (by decide))
            refine W.know (fun kr1 kr2 => ?_)
            refine W.widen (k := zcc Z) (n := zss Z) (Nat.sub_le _ _) (Nat.sub_le _ _) ?_
            exact W.iret (v := z41) hx hb hr (fun t ht hW => ⟨⟨z41, (V44, L, Z29), rfl, ⟨hMV44, agV44, rfl, zoZ29, rp47, (show (V44 44 0).toInt ≤ (V 44 0).toInt + 340 from by first | exact om_8d93cc042622 klp30_0.2 xlp30_1 pq46 | first | omega | ((try (have i_t20 := Imp.go t20 (by omega))); omega))⟩, ⟨by rw [ht]; exact hP, va_K.moved hW.alike hK, hD⟩, by rw [ht]; exact kr1, by rw [ht]; exact kr2⟩, hS.F ht⟩) hS.2.2 dX11_close_153
          · skip
            have f48 : y27.toInt ≠ 0 := b_neq rfl (by decide) c38
            refine lv_aload_n hx hb dX11_close_137 rfl (lv_at hl 3 rfl) ?_
            refine lv_bipush (v := 6) hx hb dX11_close_138 (by decide) ?_
            refine lv_iconst (v := (-1)) hx hb dX11_close_140 (by decide) ?_
            have r49 : Int32.toInt 6 = 6 := by decide
            have r50 : Int32.toInt (-1) = (-1) := by decide
            refine gA_int (gA_runV (As := [.int 6, .int (-1)]) (rest := []) (ci := 11) (q0 := 0) hx hb hml hown hg hP hD hK hS hA hnw hgk (x_ends l D ks H.size ad kk V36 L Z29 6 (-1) hMV36 ) w1171 w1173 w42 w156 w1174 rfl xgHouse hdV_yX11_ends ⟨Nat.le_of_ble_eq_true rfl, Nat.le_of_ble_eq_true rfl⟩ rfl hl.1 rfl (Nat.le_of_ble_eq_true rfl) dX11_close_141 ⟨z0, z0⟩) hP hD hK hS hA (fun z51 u52 H locs w53 hP hD hK hS => ?_)
            obtain ⟨V54, L55⟩ := u52
            obtain ⟨hMV54, ajV54, axL55⟩ := w53
            have axL55 : L = L55 := Eq.symm axL55
            subst axL55
            have hP : va_P D vwCl (xw ad kk V54 L Z29) H := hP
            have hD : va_D A (xw ad kk V54 L Z29) := hD
            have hMV54 : rgd bX V54 := hMV54
            have ajV54 : agr [(0, 9)] [] V36 V54 := ajV54
            have agV54 : agr [(0, 9), (3, 13), (3, 14), (3, 15), (4, 5), (4, 6), (5, 6), (5, 7), (5, 8), (5, 9), (5, 10), (5, 11), (5, 12), (5, 13), (5, 14), (44, 0)] [23, 24, 25, 26, 27, 28, 29, 30, 31, 32, 33, 34, 35, 36, 37, 39, 40, 67, 68, 69, 70, 71, 72, 73, 74, 75, 76, 77, 78, 79, 80, 81, 82, 83, 84, 85] V V54 := agV36.tr ajV54 (by decide) (by decide)
            refine lv_goto (tgt := 153) hx hb dX11_close_144 (by decide) ?_
            have pq56 : (V54 44 0).toInt = ((V28 44 0)).toInt := congrArg Int32.toInt ((ajV54 44 0 rfl).trans (ajV36 44 0 rfl))
            have rp57 : HI V54 Z29 b := (HI.ag (HI.ag xlp30_0.1 ajV36 (by decide)) ajV54 (by decide))
            refine W.know (fun kr1 kr2 => ?_)
            refine W.widen (k := zcc Z) (n := zss Z) (Nat.sub_le _ _) (Nat.sub_le _ _) ?_
            exact W.iret (v := z51) hx hb hr (fun t ht hW => ⟨⟨z51, (V54, L, Z29), rfl, ⟨hMV54, agV54, rfl, zoZ29, rp57, (show (V54 44 0).toInt ≤ (V 44 0).toInt + 340 from by first | exact om_8d93cc042622 klp30_0.2 xlp30_1 pq56 | first | omega | ((try (have i_t20 := Imp.go t20 (by omega))); omega))⟩, ⟨by rw [ht]; exact hP, va_K.moved hW.alike hK, hD⟩, by rw [ht]; exact kr1, by rw [ht]; exact kr2⟩, hS.F ht⟩) hS.2.2 dX11_close_153
        · skip
          have f58 : y25.toInt < 340 := b_nle (by decide) rfl c31
          refine lv_aload_n hx hb dX11_close_40 rfl (lv_at hl 3 rfl) ?_
          refine va_get (D := D) (ci := 11) (v := .ref (ad 3)) (fs := (xfHouse ad V28 L Z29)) (C := RX11) (T := TX11) (N := 10) hx hb hg inX11 hown hK hP 0 xgHouse rfl 3 (by decide) (hg _ w718) (fun _ h9 => h9) rfl dX11_close_41 ?_
          refine lv_iload_n hx hb dX11_close_44 rfl (lv_at hl 4 rfl) ?_
          refine gA_int (gA_runV (As := [.int p0]) (rest := []) (ci := 8) (q0 := 3) hx hb hml hown hg hP hD hK hS hA hnw hgk (x_isOpen l D ks H.size ad kk V28 L Z29 p0 hMV28 ) w1158 w1159 w1160 w164 w1161 rfl xgStock hdV_yX8_isOpen ⟨Nat.le_of_ble_eq_true rfl, Nat.le_of_ble_eq_true rfl⟩ rfl hl.1 rfl (Nat.le_of_ble_eq_true rfl) dX11_close_45 ⟨z0, z0⟩) hP hD hK hS hA (fun z59 u60 H locs w61 hP hD hK hS => ?_)
          obtain ⟨rgz59, t62⟩ := w61
          have rgz59 : 0 ≤ z59.toInt ∧ z59.toInt ≤ 1 := rgz59
          have t62 : Imp (z59.toInt = 1) (0 ≤ p0.toInt ∧ p0.toInt < (V28 3 12).toInt) := t62
          have pq63 : (V28 3 12).toInt = ((V 3 12)).toInt := congrArg Int32.toInt ((ajV28 3 12 rfl).trans (ajV10 3 12 rfl))
          refine lv_if_eq (tgt := 126) hx hb dX11_close_48 (by decide) (fun c64 => ?_) (fun c64 => ?_)
          · skip
            have f65 : z59.toInt = 0 := b_eq rfl (by decide) c64
            refine lv_aload_n hx hb dX11_close_126 rfl (lv_at hl 3 rfl) ?_
            refine va_get (D := D) (ci := 11) (v := .ref (ad 3)) (fs := (xfHouse ad V28 L Z29)) (C := RX11) (T := TX11) (N := 10) hx hb hg inX11 hown hK hP 0 xgHouse rfl 3 (by decide) (hg _ w718) (fun _ h9 => h9) rfl dX11_close_127 ?_
            refine gA_void (gA_runV (As := []) (rest := []) (ci := 8) (q0 := 3) hx hb hml hown hg hP hD hK hS hA hnw hgk (x_reopenHouse l D ks H.size ad kk V28 L Z29  hMV28 ) w1542 w1543 w1544 w164 w1545 rfl xgStock hdV_yX8_reopenHouse ⟨Nat.le_of_ble_eq_true rfl, Nat.le_of_ble_eq_true rfl⟩ rfl hl.1 rfl (Nat.le_of_ble_eq_true rfl) dX11_close_130 ⟨z0, z0⟩) hP hD hK hS hA (fun u67 H locs w68 hP hD hK hS => ?_)
            obtain ⟨V69, L70⟩ := u67
            obtain ⟨hMV69, ajV69, axL70⟩ := w68
            have axL70 : L = L70 := Eq.symm axL70
            subst axL70
            have hP : va_P D vwCl (xw ad kk V69 L Z29) H := hP
            have hD : va_D A (xw ad kk V69 L Z29) := hD
            have hMV69 : rgd bX V69 := hMV69
            have ajV69 : agr [] [23] V28 V69 := ajV69
            have agV69 : agr [(0, 9), (3, 13), (3, 14), (3, 15), (4, 5), (4, 6), (5, 6), (5, 7), (5, 8), (5, 9), (5, 10), (5, 11), (5, 12), (5, 13), (5, 14), (44, 0)] [23, 24, 25, 26, 27, 28, 29, 30, 31, 32, 33, 34, 35, 36, 37, 39, 40, 67, 68, 69, 70, 71, 72, 73, 74, 75, 76, 77, 78, 79, 80, 81, 82, 83, 84, 85] V V69 := agV28.tr ajV69 (by decide) (by decide)
            refine lv_iload_n hx hb dX11_close_133 rfl (lv_at hl 2 rfl) ?_
            refine lv_if_eq (tgt := 147) hx hb dX11_close_134 (by decide) (fun c71 => ?_) (fun c71 => ?_)
            · skip
              have f72 : y27.toInt = 0 := b_eq rfl (by decide) c71
              refine lv_aload_n hx hb dX11_close_147 rfl (lv_at hl 3 rfl) ?_
              refine lv_iconst (v := 0) hx hb dX11_close_148 (by decide) ?_
              refine lv_iload_n hx hb dX11_close_149 rfl (lv_at hl 1 rfl) ?_
              have r73 : Int32.toInt 0 = 0 := by decide
              refine gA_int (gA_runV (As := [.int 0, .int y26]) (rest := []) (ci := 11) (q0 := 0) hx hb hml hown hg hP hD hK hS hA hnw hgk (x_ends l D ks H.size ad kk V69 L Z29 0 y26 hMV69 ) w1171 w1173 w42 w156 w1174 rfl xgHouse hdV_yX11_ends ⟨Nat.le_of_ble_eq_true rfl, Nat.le_of_ble_eq_true rfl⟩ rfl hl.1 rfl (Nat.le_of_ble_eq_true rfl) dX11_close_150 ⟨z0, z0⟩) hP hD hK hS hA (fun z74 u75 H locs w76 hP hD hK hS => ?_)
              obtain ⟨V77, L78⟩ := u75
              obtain ⟨hMV77, ajV77, axL78⟩ := w76
              have axL78 : L = L78 := Eq.symm axL78
              subst axL78
              have hP : va_P D vwCl (xw ad kk V77 L Z29) H := hP
              have hD : va_D A (xw ad kk V77 L Z29) := hD
              have hMV77 : rgd bX V77 := hMV77
              have ajV77 : agr [(0, 9)] [] V69 V77 := ajV77
              have agV77 : agr [(0, 9), (3, 13), (3, 14), (3, 15), (4, 5), (4, 6), (5, 6), (5, 7), (5, 8), (5, 9), (5, 10), (5, 11), (5, 12), (5, 13), (5, 14), (44, 0)] [23, 24, 25, 26, 27, 28, 29, 30, 31, 32, 33, 34, 35, 36, 37, 39, 40, 67, 68, 69, 70, 71, 72, 73, 74, 75, 76, 77, 78, 79, 80, 81, 82, 83, 84, 85] V V77 := agV69.tr ajV77 (by decide) (by decide)
              have pq79 : (V77 44 0).toInt = ((V28 44 0)).toInt := congrArg Int32.toInt ((ajV77 44 0 rfl).trans (ajV69 44 0 rfl))
              have rp80 : HI V77 Z29 b := (HI.ag (HI.ag xlp30_0.1 ajV69 (by decide)) ajV77 (by decide))
              refine W.know (fun kr1 kr2 => ?_)
              refine W.widen (k := zcc Z) (n := zss Z) (Nat.sub_le _ _) (Nat.sub_le _ _) ?_
              exact W.iret (v := z74) hx hb hr (fun t ht hW => ⟨⟨z74, (V77, L, Z29), rfl, ⟨hMV77, agV77, rfl, zoZ29, rp80, (show (V77 44 0).toInt ≤ (V 44 0).toInt + 340 from by first | exact om_44c41a7cc1f7 xlp30_1 f58 pq79 | first | omega | ((try (have i_t62 := Imp.go t62 (by omega))); (try (have i_t20 := Imp.go t20 (by omega))); (try (have i_t20 := Imp.go t20 (by omega))); (try (have i_t62 := Imp.go t62 (by omega))); omega))⟩, ⟨by rw [ht]; exact hP, va_K.moved hW.alike hK, hD⟩, by rw [ht]; exact kr1, by rw [ht]; exact kr2⟩, hS.F ht⟩) hS.2.2 dX11_close_153
            · skip
              have f81 : y27.toInt ≠ 0 := b_neq rfl (by decide) c71
              refine lv_aload_n hx hb dX11_close_137 rfl (lv_at hl 3 rfl) ?_
              refine lv_bipush (v := 6) hx hb dX11_close_138 (by decide) ?_
              refine lv_iconst (v := (-1)) hx hb dX11_close_140 (by decide) ?_
              have r82 : Int32.toInt 6 = 6 := by decide
              have r83 : Int32.toInt (-1) = (-1) := by decide
              refine gA_int (gA_runV (As := [.int 6, .int (-1)]) (rest := []) (ci := 11) (q0 := 0) hx hb hml hown hg hP hD hK hS hA hnw hgk (x_ends l D ks H.size ad kk V69 L Z29 6 (-1) hMV69 ) w1171 w1173 w42 w156 w1174 rfl xgHouse hdV_yX11_ends ⟨Nat.le_of_ble_eq_true rfl, Nat.le_of_ble_eq_true rfl⟩ rfl hl.1 rfl (Nat.le_of_ble_eq_true rfl) dX11_close_141 ⟨z0, z0⟩) hP hD hK hS hA (fun z84 u85 H locs w86 hP hD hK hS => ?_)
              obtain ⟨V87, L88⟩ := u85
              obtain ⟨hMV87, ajV87, axL88⟩ := w86
              have axL88 : L = L88 := Eq.symm axL88
              subst axL88
              have hP : va_P D vwCl (xw ad kk V87 L Z29) H := hP
              have hD : va_D A (xw ad kk V87 L Z29) := hD
              have hMV87 : rgd bX V87 := hMV87
              have ajV87 : agr [(0, 9)] [] V69 V87 := ajV87
              have agV87 : agr [(0, 9), (3, 13), (3, 14), (3, 15), (4, 5), (4, 6), (5, 6), (5, 7), (5, 8), (5, 9), (5, 10), (5, 11), (5, 12), (5, 13), (5, 14), (44, 0)] [23, 24, 25, 26, 27, 28, 29, 30, 31, 32, 33, 34, 35, 36, 37, 39, 40, 67, 68, 69, 70, 71, 72, 73, 74, 75, 76, 77, 78, 79, 80, 81, 82, 83, 84, 85] V V87 := agV69.tr ajV87 (by decide) (by decide)
              refine lv_goto (tgt := 153) hx hb dX11_close_144 (by decide) ?_
              have pq89 : (V87 44 0).toInt = ((V28 44 0)).toInt := congrArg Int32.toInt ((ajV87 44 0 rfl).trans (ajV69 44 0 rfl))
              have rp90 : HI V87 Z29 b := (HI.ag (HI.ag xlp30_0.1 ajV69 (by decide)) ajV87 (by decide))
              refine W.know (fun kr1 kr2 => ?_)
              refine W.widen (k := zcc Z) (n := zss Z) (Nat.sub_le _ _) (Nat.sub_le _ _) ?_
              exact W.iret (v := z84) hx hb hr (fun t ht hW => ⟨⟨z84, (V87, L, Z29), rfl, ⟨hMV87, agV87, rfl, zoZ29, rp90, (show (V87 44 0).toInt ≤ (V 44 0).toInt + 340 from by first | exact om_44c41a7cc1f7 xlp30_1 f58 pq89 | first | omega | ((try (have i_t62 := Imp.go t62 (by omega))); (try (have i_t20 := Imp.go t20 (by omega))); (try (have i_t20 := Imp.go t20 (by omega))); (try (have i_t62 := Imp.go t62 (by omega))); omega))⟩, ⟨by rw [ht]; exact hP, va_K.moved hW.alike hK, hD⟩, by rw [ht]; exact kr1, by rw [ht]; exact kr2⟩, hS.F ht⟩) hS.2.2 dX11_close_153
          · skip
            have f91 : z59.toInt ≠ 0 := b_neq rfl (by decide) c64
            have rh92 := Imp.go t62 (by (first | exact om_2ebe32d50835 rgz59.1 rgz59.2 f91 | omega))
            refine lv_aload_n hx hb dX11_close_51 rfl (lv_at hl 3 rfl) ?_
            refine va_get (D := D) (ci := 11) (v := .ref (ad 3)) (fs := (xfHouse ad V28 L Z29)) (C := RX11) (T := TX11) (N := 10) hx hb hg inX11 hown hK hP 0 xgHouse rfl 3 (by decide) (hg _ w718) (fun _ h9 => h9) rfl dX11_close_52 ?_
            refine lv_iload_n hx hb dX11_close_55 rfl (lv_at hl 4 rfl) ?_
            refine gA_int (gA_runV (As := [.int p0]) (rest := []) (ci := 8) (q0 := 3) hx hb hml hown hg hP hD hK hS hA hnw hgk (x_innermost l D ks H.size ad kk V28 L Z29 p0 hMV28 (by first | exact om_1ef0ff8d7011 r22.2 pq63 ((Imp.go t20 (imp_a (rgz17.1) (rgz17.2) (f24))).1) ((Imp.go t62 (imp_a (rgz59.1) (rgz59.2) (f91))).2) | first | omega | ((try (have i_t62 := Imp.go t62 (by omega))); (try (have i_t20 := Imp.go t20 (by omega))); (try (have i_t20 := Imp.go t20 (by omega))); (try (have i_t62 := Imp.go t62 (by omega))); omega))) w1524 w1525 w1526 w164 w1527 rfl xgStock hdV_yX8_innermost ⟨Nat.le_of_ble_eq_true rfl, Nat.le_of_ble_eq_true rfl⟩ rfl hl.1 rfl (Nat.le_of_ble_eq_true rfl) dX11_close_56 ⟨z0, z0⟩) hP hD hK hS hA (fun z93 u94 H locs w95 hP hD hK hS => ?_)
            have rgz93 := w95
            have rgz93 : 0 ≤ z93.toInt ∧ z93.toInt ≤ 39 := rgz93
            refine lv_istore (lv' := [(5, .int z93), (4, .int y25), (3, .int y26), (2, .int y27), (0, .ref (ad 0)), (1, .int p0)]) hx hb dX11_close_59 hl (by decide) rfl (fun ls hl => ?_)
            refine lv_aload_n hx hb dX11_close_61 rfl (lv_at hl 4 rfl) ?_
            refine va_get (D := D) (ci := 11) (v := .ref (ad 3)) (fs := (xfHouse ad V28 L Z29)) (C := RX11) (T := TX11) (N := 10) hx hb hg inX11 hown hK hP 0 xgHouse rfl 3 (by decide) (hg _ w718) (fun _ h9 => h9) rfl dX11_close_62 ?_
            refine lv_iload hx hb dX11_close_65 (lv_at hl 0 rfl) ?_
            refine gA_int (gA_runV (As := [.int z93]) (rest := []) (ci := 8) (q0 := 3) hx hb hml hown hg hP hD hK hS hA hnw hgk (x_latestMade l D ks H.size ad kk V28 L Z29 z93 hMV28 ) w1532 w1533 w1534 w164 w1535 rfl xgStock hdV_yX8_latestMade ⟨Nat.le_of_ble_eq_true rfl, Nat.le_of_ble_eq_true rfl⟩ rfl hl.1 rfl (Nat.le_of_ble_eq_true rfl) dX11_close_67 ⟨z0, z0⟩) hP hD hK hS hA (fun z96 u97 H locs w98 hP hD hK hS => ?_)
            obtain ⟨rgz96, t99⟩ := w98
            have rgz96 : (-1) ≤ z96.toInt ∧ z96.toInt ≤ 299 := rgz96
            have t99 : z96.toInt < (V28 3 13).toInt := t99
            have r100 : 0 ≤ ((V28 3 13)).toInt ∧ ((V28 3 13)).toInt ≤ 300 := hMV28 3 13
            refine lv_istore (lv' := [(6, .int z96), (5, .int z93), (4, .int y25), (3, .int y26), (2, .int y27), (0, .ref (ad 0)), (1, .int p0)]) hx hb dX11_close_70 hl (by decide) rfl (fun ls hl => ?_)
            refine lv_iload hx hb dX11_close_72 (lv_at hl 0 rfl) ?_
            refine lv_iconst (v := (-1)) hx hb dX11_close_74 (by decide) ?_
            refine lv_icmp_eq (tgt := 111) hx hb dX11_close_75 (by decide) (fun c101 => ?_) (fun c101 => ?_)
            · skip
              have f102 : z96.toInt = (-1) := b_eq rfl (by decide) c101
              refine lv_aload_n hx hb dX11_close_111 rfl (lv_at hl 5 rfl) ?_
              refine va_get (D := D) (ci := 11) (v := .ref (ad 3)) (fs := (xfHouse ad V28 L Z29)) (C := RX11) (T := TX11) (N := 10) hx hb hg inX11 hown hK hP 0 xgHouse rfl 3 (by decide) (hg _ w718) (fun _ h9 => h9) rfl dX11_close_112 ?_
              refine lv_iload hx hb dX11_close_115 (lv_at hl 1 rfl) ?_
              refine gA_void (gA_runV (As := [.int z93]) (rest := []) (ci := 8) (q0 := 3) hx hb hml hown hg hP hD hK hS hA hnw hgk (x_shut l D ks H.size ad kk V28 L Z29 z93 hMV28 (by first | exact om_13ba01c174fe rgz93.1 rgz93.2 | first | omega | ((try (have i_t62 := Imp.go t62 (by omega))); (try (have i_t20 := Imp.go t20 (by omega))); (try (have i_t20 := Imp.go t20 (by omega))); (try (have i_t62 := Imp.go t62 (by omega))); omega))) w1541 w1028 w1029 w164 w1030 rfl xgStock hdV_yX8_shut ⟨Nat.le_of_ble_eq_true rfl, Nat.le_of_ble_eq_true rfl⟩ rfl hl.1 rfl (Nat.le_of_ble_eq_true rfl) dX11_close_117 ⟨z0, z0⟩) hP hD hK hS hA (fun u104 H locs w105 hP hD hK hS => ?_)
              obtain ⟨V106, L107⟩ := u104
              obtain ⟨hMV106, ajV106, axL107⟩ := w105
              have axL107 : L = L107 := Eq.symm axL107
              subst axL107
              have hP : va_P D vwCl (xw ad kk V106 L Z29) H := hP
              have hD : va_D A (xw ad kk V106 L Z29) := hD
              have hMV106 : rgd bX V106 := hMV106
              have ajV106 : agr [] [23, 24] V28 V106 := ajV106
              have agV106 : agr [(0, 9), (3, 13), (3, 14), (3, 15), (4, 5), (4, 6), (5, 6), (5, 7), (5, 8), (5, 9), (5, 10), (5, 11), (5, 12), (5, 13), (5, 14), (44, 0)] [23, 24, 25, 26, 27, 28, 29, 30, 31, 32, 33, 34, 35, 36, 37, 39, 40, 67, 68, 69, 70, 71, 72, 73, 74, 75, 76, 77, 78, 79, 80, 81, 82, 83, 84, 85] V V106 := agV28.tr ajV106 (by decide) (by decide)
              obtain ⟨z108, ez108⟩ : ∃ y : Int32, y = y25 + 1 := ⟨_, rfl⟩
              have hz108 : z108.toInt = y25.toInt + 1 := i_add ez108 rfl (by decide) (by (first | exact om_ba9803c062a2 klp30_0.1 f58 | omega))
              refine lv_iinc (v := z108) (lv' := [(4, .int z108), (6, .int z96), (5, .int z93), (3, .int y26), (2, .int y27), (0, .ref (ad 0)), (1, .int p0)]) hx hb dX11_close_120 hl (k := 2) rfl (by rw [ez108]; rfl) (by decide) rfl (fun ls hl => ?_)
              refine lv_goto (tgt := 32) hx hb dX11_close_123 (by decide) ?_
              have pq109 : (V106 44 0).toInt = ((V28 44 0)).toInt := congrArg Int32.toInt (ajV106 44 0 rfl)
              have mq110 : MQZ V106 Z29 b := (MQZ.ag xlp30_0 ajV106 (by decide) (by decide) rfl rfl rfl)
              exact ihlp30 z108 y26 y27 V106 Z29 H locs ls (by first | exact om_2bcde7824b0c klp30_0.1 f58 hz108 | first | omega | ((try (have i_t62 := Imp.go t62 (by omega))); (try (have i_t20 := Imp.go t20 (by omega))); (try (have i_t20 := Imp.go t20 (by omega))); (try (have i_t62 := Imp.go t62 (by omega))); omega)) mq110 (show (V106 44 0).toInt ≤ (V 44 0).toInt + z108.toInt from by first | exact om_3a4312d12b86 xlp30_1 hz108 pq109 | first | omega | ((try (have i_t62 := Imp.go t62 (by omega))); (try (have i_t20 := Imp.go t20 (by omega))); (try (have i_t20 := Imp.go t20 (by omega))); (try (have i_t62 := Imp.go t62 (by omega))); omega)) (by first | exact om_8a6183599dcf hn hz108 | first | omega | ((try (have i_t62 := Imp.go t62 (by omega))); (try (have i_t20 := Imp.go t20 (by omega))); (try (have i_t20 := Imp.go t20 (by omega))); (try (have i_t62 := Imp.go t62 (by omega))); omega)) (agr.tr (agr.tr agr.rf ajV28 (by decide) (by decide)) ajV106 (by decide) (by decide)) hMV106 zoZ29 hK hP hD hS (lv_sub hl [0, 3, 4, 5, 6] rfl)
            · skip
              have f111 : z96.toInt ≠ (-1) := b_neq rfl (by decide) c101
              have mq112 : MQZ V28 Z29 b := xlp30_0
              have pq113 : (V28 43 (5 * b + 2)).toInt = ((V 43 (5 * b + 2))).toInt := congrArg Int32.toInt ((ajV28 43 (5 * b + 2) rfl).trans (ajV10 43 (5 * b + 2) rfl))
              have r114 : 0 ≤ ((V 43 (5 * b + 2))).toInt ∧ ((V 43 (5 * b + 2))).toInt ≤ ((xcap (5 * b + 2) : Nat) : Int) := hMV 43 (5 * b + 2)
              have r115 : xcap (5 * b + 2) = 24 := xcap_2
              have kcp := i_clamp (x := z96) rfl (by (first | exact om_e3b1d6ac9ce8 rgz96.1 f111 | omega))
              have hoc := mq112.1.2.2.1 (Int32.toNatClampNeg z96) (by omega)
              have h26 : 0 ≤ (V28 26 (Int32.toNatClampNeg z96)).toInt := (hMV28 26 (Int32.toNatClampNeg z96)).1
              obtain ⟨V116, hV116⟩ : ∃ z, z = up2 V28 44 0 (V28 44 0 + 1) := ⟨_, rfl⟩
              have h44 : (V28 44 0 + 1).toInt = (V28 44 0).toInt + 1 := i_add rfl rfl (by decide) (by have := i_full (V28 44 0); omega)
              have hP : va_P D vwCl (xw ad kk V116 L Z29) H := by rw [hV116, xw_44]; exact hP
              have hD : va_D A (xw ad kk V116 L Z29) := by rw [hV116, xw_44]; exact hD
              have hMV116 : rgd bX V116 := rgd_44 hMV28 hV116
              have ajV116 : agr [(44, 0)] [] V28 V116 := agr.up agr.rf hV116 rfl
              have agV116 : agr [(0, 9), (3, 13), (3, 14), (3, 15), (4, 5), (4, 6), (5, 6), (5, 7), (5, 8), (5, 9), (5, 10), (5, 11), (5, 12), (5, 13), (5, 14), (44, 0)] [23, 24, 25, 26, 27, 28, 29, 30, 31, 32, 33, 34, 35, 36, 37, 39, 40, 67, 68, 69, 70, 71, 72, 73, 74, 75, 76, 77, 78, 79, 80, 81, 82, 83, 84, 85] V V116 := agV28.tr ajV116 (by decide) (by decide)
              have e44 : (V116 44 0).toInt = (V28 44 0).toInt + 1 := by rw [hV116, up2_ss]; exact h44
              have mt117 : MT V116 Z29 b := MQZ.mt mq112 (by omega) hV116 h44 (by omega)
              refine lv_aload_n hx hb dX11_close_78 rfl (lv_at hl 5 rfl) ?_
              refine va_get (D := D) (ci := 11) (v := .ref (ad 5)) (fs := (xfHouse ad V116 L Z29)) (C := RX11) (T := TX11) (N := 10) hx hb hg inX11 hown hK hP 0 xgHouse rfl 5 (by decide) (hg _ w720) (fun _ h9 => h9) rfl dX11_close_79 ?_
              refine lv_iload hx hb dX11_close_82 (lv_at hl 0 rfl) ?_
              refine lv_iconst (v := 0) hx hb dX11_close_84 (by decide) ?_
              have r118 : Int32.toInt 0 = 0 := by decide
              have pq119 : (V116 3 13).toInt = ((V28 3 13)).toInt := congrArg Int32.toInt (up2_o hV116 (by decide))
              refine W.know (fun k121 k122 => ?_)
              obtain ⟨Hk120, hHk120⟩ : ∃ z, z = H := ⟨_, rfl⟩
              have k121 : Hk120.size ≤ s.heap.size + (zcc Z - zcc Z29) := by rw [hHk120]; exact k121
              have k122 : tot Hk120 ≤ tot s.heap + (zss Z - zss Z29) := by rw [hHk120]; exact k122
              refine gZ_void (gA_runV (As := [.int z96, .int 0]) (rest := []) (ci := 5) (q0 := 5) hx hb hml hown hg hP hD hK hS hA hnw hgk (x_pushClose l D ks H.size ad kk V116 L Z29 z96 0 (b) hMV116 (by first | exact om_92df152472f1 rgz96.1 rgz96.2 f111 | first | omega | ((try (have i_t62 := Imp.go t62 (by omega))); (try (have i_t20 := Imp.go t20 (by omega))); (try (have i_t20 := Imp.go t20 (by omega))); (try (have i_t62 := Imp.go t62 (by omega))); omega)) (show b < 2 from by first | exact om_f940a4667dd6 hb2 | first | omega | ((try (have i_t62 := Imp.go t62 (by omega))); (try (have i_t20 := Imp.go t20 (by omega))); (try (have i_t20 := Imp.go t20 (by omega))); (try (have i_t62 := Imp.go t62 (by omega))); omega)) mt117 (show z96.toInt < (V116 3 13).toInt from by first | exact om_ad53b8b0928c t99 pq119 | first | omega | ((try (have i_t62 := Imp.go t62 (by omega))); (try (have i_t20 := Imp.go t20 (by omega))); (try (have i_t20 := Imp.go t20 (by omega))); (try (have i_t62 := Imp.go t62 (by omega))); omega))) w1536 w1321 w1322 w171 w1323 rfl xgMachine hdV_yX5_pushClose ⟨Nat.le_of_ble_eq_true rfl, Nat.le_of_ble_eq_true rfl⟩ rfl hl.1 rfl (Nat.le_of_ble_eq_true rfl) dX11_close_85 ⟨z1 zoZ29.1, z1 zoZ29.2.1⟩) hD hS hA (fun u124 H locs w125 hP hD hK hS y126 y127 => ?_)
              obtain ⟨V128, L129, Z130⟩ := u124
              obtain ⟨hMV128, ajV128, axL129, zlZ130, t132⟩ := w125
              have axL129 : L = L129 := Eq.symm axL129
              subst axL129
              have hP : va_P D vwCl (xw ad kk V128 L Z130) H := hP
              have hD : va_D A (xw ad kk V128 L Z130) := hD
              have hK : va_K D vwCl (xty kk Z130) s := hK
              have hMV128 : rgd bX V128 := hMV128
              have ajV128 : agr [(5, 6), (5, 9)] [67, 68, 69, 70, 71, 72, 73, 74, 75, 76, 77, 78, 79, 80, 81, 82, 83, 84, 85] V116 V128 := ajV128
              have agV128 : agr [(0, 9), (3, 13), (3, 14), (3, 15), (4, 5), (4, 6), (5, 6), (5, 7), (5, 8), (5, 9), (5, 10), (5, 11), (5, 12), (5, 13), (5, 14), (44, 0)] [23, 24, 25, 26, 27, 28, 29, 30, 31, 32, 33, 34, 35, 36, 37, 39, 40, 67, 68, 69, 70, 71, 72, 73, 74, 75, 76, 77, 78, 79, 80, 81, 82, 83, 84, 85] V V128 := agV116.tr ajV128 (by decide) (by decide)
              have zlZ130 : ZL Z29 Z130 := zlZ130
              have zoZ130 : ZL Z Z130 := ZL.tr zoZ29 zlZ130
              have ziZ130 := zlZ130.1
              have zjZ130 := zlZ130.2.1
              have zkZ130 := zlZ130.2.2.1
              have zmZ130 := zoZ130.1
              have znZ130 := zoZ130.2.1
              have zpZ29_Z130 := zoZ29.1
              have zqZ29_Z130 := zoZ29.2.1
              have y126 : H.size ≤ Hk120.size + (zcc Z29 - zcc Z130) := by rw [hHk120]; exact y126
              have y127 : tot H ≤ tot Hk120 + (zss Z29 - zss Z130) := by rw [hHk120]; exact y127
              refine W.tight (k := zcc Z - zcc Z130) (n := zss Z - zss Z130) (by first | exact tg9 y126 k121 zlZ130.1 zoZ29.1 | omega) (by first | exact tg9 y127 k122 zlZ130.2.1 zoZ29.2.1 | omega) ?_
              have t132 : MJ V128 Z130 b := t132
              refine lv_aload_n hx hb dX11_close_88 rfl (lv_at hl 5 rfl) ?_
              refine va_get (D := D) (ci := 11) (v := .ref (ad 5)) (fs := (xfHouse ad V128 L Z130)) (C := RX11) (T := TX11) (N := 10) hx hb hg inX11 hown hK hP 0 xgHouse rfl 5 (by decide) (hg _ w720) (fun _ h9 => h9) rfl dX11_close_89 ?_
              refine W.know (fun k134 k135 => ?_)
              obtain ⟨Hk133, hHk133⟩ : ∃ z, z = H := ⟨_, rfl⟩
              have k134 : Hk133.size ≤ s.heap.size + (zcc Z - zcc Z130) := by rw [hHk133]; exact k134
              have k135 : tot Hk133 ≤ tot s.heap + (zss Z - zss Z130) := by rw [hHk133]; exact k135
              refine gZ_void (gA_runV (As := []) (rest := []) (ci := 5) (q0 := 5) hx hb hml hown hg hP hD hK hS hA hnw hgk (x_run l D ks H.size ad kk V128 L Z130 (b) hMV128 (show b < 2 from by first | exact om_f940a4667dd6 hb2 | first | omega | ((try (have i_t62 := Imp.go t62 (by omega))); (try (have i_t20 := Imp.go t20 (by omega))); (try (have i_t20 := Imp.go t20 (by omega))); (try (have i_t62 := Imp.go t62 (by omega))); omega)) t132) w1247 w1248 w1249 w171 w1250 rfl xgMachine hdV_yX5_run ⟨Nat.le_of_ble_eq_true rfl, Nat.le_of_ble_eq_true rfl⟩ rfl hl.1 rfl (Nat.le_of_ble_eq_true rfl) dX11_close_92 ⟨z1 zoZ130.1, z1 zoZ130.2.1⟩) hD hS hA (fun u137 H locs w138 hP hD hK hS y139 y140 => ?_)
              obtain ⟨V141, L142, Z143⟩ := u137
              obtain ⟨hMV141, ajV141, axL142, zlZ143, t145⟩ := w138
              have axL142 : L = L142 := Eq.symm axL142
              subst axL142
              have hP : va_P D vwCl (xw ad kk V141 L Z143) H := hP
              have hD : va_D A (xw ad kk V141 L Z143) := hD
              have hK : va_K D vwCl (xty kk Z143) s := hK
              have hMV141 : rgd bX V141 := hMV141
              have ajV141 : agr [(3, 13), (3, 14), (3, 15), (4, 5), (4, 6), (5, 6), (5, 7), (5, 8), (5, 9), (5, 10), (5, 11), (5, 12), (5, 13), (5, 14)] [24, 25, 26, 27, 28, 29, 30, 31, 32, 33, 34, 35, 36, 37, 39, 40, 67, 68, 69, 70, 71, 72, 73, 74, 75, 76, 77, 78, 79, 80, 81, 82, 83, 84, 85] V128 V141 := ajV141
              have agV141 : agr [(0, 9), (3, 13), (3, 14), (3, 15), (4, 5), (4, 6), (5, 6), (5, 7), (5, 8), (5, 9), (5, 10), (5, 11), (5, 12), (5, 13), (5, 14), (44, 0)] [23, 24, 25, 26, 27, 28, 29, 30, 31, 32, 33, 34, 35, 36, 37, 39, 40, 67, 68, 69, 70, 71, 72, 73, 74, 75, 76, 77, 78, 79, 80, 81, 82, 83, 84, 85] V V141 := agV128.tr ajV141 (by decide) (by decide)
              have zlZ143 : ZL Z130 Z143 := zlZ143
              have zoZ143 : ZL Z Z143 := ZL.tr zoZ130 zlZ143
              have ziZ143 := zlZ143.1
              have zjZ143 := zlZ143.2.1
              have zkZ143 := zlZ143.2.2.1
              have zmZ143 := zoZ143.1
              have znZ143 := zoZ143.2.1
              have zpZ130_Z143 := zoZ130.1
              have zqZ130_Z143 := zoZ130.2.1
              have y139 : H.size ≤ Hk133.size + (zcc Z130 - zcc Z143) := by rw [hHk133]; exact y139
              have y140 : tot H ≤ tot Hk133 + (zss Z130 - zss Z143) := by rw [hHk133]; exact y140
              refine W.tight (k := zcc Z - zcc Z143) (n := zss Z - zss Z143) (by first | exact tg9 y139 k134 zlZ143.1 zoZ130.1 | omega) (by first | exact tg9 y140 k135 zlZ143.2.1 zoZ130.2.1 | omega) ?_
              have t145 : MJ V141 Z143 b := t145
              refine lv_iload_n hx hb dX11_close_95 rfl (lv_at hl 4 rfl) ?_
              refine lv_aload_n hx hb dX11_close_96 rfl (lv_at hl 5 rfl) ?_
              refine va_get (D := D) (ci := 11) (v := .ref (ad 5)) (fs := (xfHouse ad V141 L Z143)) (C := RX11) (T := TX11) (N := 10) hx hb hg inX11 hown hK hP 0 xgHouse rfl 5 (by decide) (hg _ w720) (fun _ h9 => h9) rfl dX11_close_97 ?_
              refine gA_int (gA_runV (As := []) (rest := [.int y27]) (ci := 5) (q0 := 5) hx hb hml hown hg hP hD hK hS hA hnw hgk (x_isSpent l D ks H.size ad kk V141 L Z143  hMV141 ) w1537 w1538 w1539 w171 w1540 rfl xgMachine hdV_yX5_isSpent ⟨Nat.le_of_ble_eq_true rfl, Nat.le_of_ble_eq_true rfl⟩ rfl hl.1 rfl (Nat.le_of_ble_eq_true rfl) dX11_close_100 ⟨z0, z0⟩) hP hD hK hS hA (fun z146 u147 H locs w148 hP hD hK hS => ?_)
              have rgz146 := w148
              have rgz146 : 0 ≤ z146.toInt ∧ z146.toInt ≤ 1 := rgz146
              refine lv_ior hx hb dX11_close_103 ?_
              refine lv_topi (fun z149 ez149 => ?_)
              refine lv_istore_n (lv' := [(2, .int z149), (6, .int z96), (5, .int z93), (4, .int y25), (3, .int y26), (0, .ref (ad 0)), (1, .int p0)]) hx hb dX11_close_104 rfl hl (by decide) rfl (fun ls hl => ?_)
              obtain ⟨z150, ez150⟩ : ∃ y : Int32, y = y26 + 1 := ⟨_, rfl⟩
              refine lv_iinc (v := z150) (lv' := [(3, .int z150), (2, .int z149), (6, .int z96), (5, .int z93), (4, .int y25), (0, .ref (ad 0)), (1, .int p0)]) hx hb dX11_close_105 hl (k := 4) rfl (by rw [ez150]; rfl) (by decide) rfl (fun ls hl => ?_)
              refine lv_goto (tgt := 120) hx hb dX11_close_108 (by decide) ?_
              obtain ⟨z151, ez151⟩ : ∃ y : Int32, y = y25 + 1 := ⟨_, rfl⟩
              have hz151 : z151.toInt = y25.toInt + 1 := i_add ez151 rfl (by decide) (by (first | exact om_ba9803c062a2 klp30_0.1 f58 | omega))
              refine lv_iinc (v := z151) (lv' := [(4, .int z151), (3, .int z150), (2, .int z149), (6, .int z96), (5, .int z93), (0, .ref (ad 0)), (1, .int p0)]) hx hb dX11_close_120 hl (k := 4) rfl (by rw [ez151]; rfl) (by decide) rfl (fun ls hl => ?_)
              refine lv_goto (tgt := 32) hx hb dX11_close_123 (by decide) ?_
              have pq152 : (V141 44 0).toInt = ((V28 44 0 + 1)).toInt := congrArg Int32.toInt ((ajV141 44 0 rfl).trans ((ajV128 44 0 rfl).trans (up2_s hV116)))
              have mq153 : MQZ V141 Z143 b := (⟨MJ.hi t145, Or.inr t145⟩ : MQZ V141 Z143 b)
              exact ihlp30 z151 z150 z149 V141 Z143 H locs ls (by first | exact om_2bcde7824b0c klp30_0.1 f58 hz151 | first | omega | ((try (have i_t62 := Imp.go t62 (by omega))); (try (have i_t20 := Imp.go t20 (by omega))); (try (have i_t20 := Imp.go t20 (by omega))); (try (have i_t62 := Imp.go t62 (by omega))); omega)) mq153 (show (V141 44 0).toInt ≤ (V 44 0).toInt + z151.toInt from by first | exact om_23f5d950775b xlp30_1 h44 hz151 pq152 | first | omega | ((try (have i_t62 := Imp.go t62 (by omega))); (try (have i_t20 := Imp.go t20 (by omega))); (try (have i_t20 := Imp.go t20 (by omega))); (try (have i_t62 := Imp.go t62 (by omega))); omega)) (by first | exact om_8a6183599dcf hn hz151 | first | omega | ((try (have i_t62 := Imp.go t62 (by omega))); (try (have i_t20 := Imp.go t20 (by omega))); (try (have i_t20 := Imp.go t20 (by omega))); (try (have i_t62 := Imp.go t62 (by omega))); omega)) (agr.tr (agr.tr (agr.up (agr.tr agr.rf ajV28 (by decide) (by decide)) hV116 rfl) ajV128 (by decide) (by decide)) ajV141 (by decide) (by decide)) hMV141 zoZ143 hK hP hD hS (lv_sub hl [0, 1, 2, 5, 6] rfl)
    have r154 : Int32.toInt 0 = 0 := by decide
    have pq155 : (V10 44 0).toInt = ((V 44 0)).toInt := congrArg Int32.toInt (ajV10 44 0 rfl)
    have hi156 : HI V10 Z b := (HI.ag hi ajV10 (by decide))
    have mq157 : MQZ V10 Z b := (⟨hi156, Or.inl (by omega)⟩ : MQZ V10 Z b)
    exact lp30 ((340 - (Int32.toInt 0) + 1 : Int).toNat) 0 0 0 V10 Z H locs ls (by decide) mq157 (show (V10 44 0).toInt ≤ (V 44 0).toInt + (Int32.toInt 0) from by first | exact om_4c3fb6bc78c8 r154 pq155 | first | omega | ((try (have i_t20 := Imp.go t20 (by omega))); omega)) (by first | exact om_3b52b5c92499 | first | omega | ((try (have i_t20 := Imp.go t20 (by omega))); omega)) agr.rf hMV10 zoZ hK hP hD hS (lv_sub hl [0, 1, 2, 3, 4] rfl)
  · skip
    have f158 : z17.toInt = 0 := b_eq rfl (by decide) c23
    refine lv_aload_n hx hb dX11_close_18 rfl (lv_at hl 0 rfl) ?_
    refine lv_iconst (v := 3) hx hb dX11_close_19 (by decide) ?_
    refine lv_iconst (v := (-1)) hx hb dX11_close_20 (by decide) ?_
    have r159 : Int32.toInt 3 = 3 := by decide
    have r160 : Int32.toInt (-1) = (-1) := by decide
    refine gA_int (gA_runV (As := [.int 3, .int (-1)]) (rest := []) (ci := 11) (q0 := 0) hx hb hml hown hg hP hD hK hS hA hnw hgk (x_ends l D ks H.size ad kk V10 L Z 3 (-1) hMV10 ) w1171 w1173 w42 w156 w1174 rfl xgHouse hdV_yX11_ends ⟨Nat.le_of_ble_eq_true rfl, Nat.le_of_ble_eq_true rfl⟩ rfl hl.1 rfl (Nat.le_of_ble_eq_true rfl) dX11_close_21 ⟨z0, z0⟩) hP hD hK hS hA (fun z161 u162 H locs w163 hP hD hK hS => ?_)
    obtain ⟨V164, L165⟩ := u162
    obtain ⟨hMV164, ajV164, axL165⟩ := w163
    have axL165 : L = L165 := Eq.symm axL165
    subst axL165
    have hP : va_P D vwCl (xw ad kk V164 L Z) H := hP
    have hD : va_D A (xw ad kk V164 L Z) := hD
    have hMV164 : rgd bX V164 := hMV164
    have ajV164 : agr [(0, 9)] [] V10 V164 := ajV164
    have agV164 : agr [(0, 9), (3, 13), (3, 14), (3, 15), (4, 5), (4, 6), (5, 6), (5, 7), (5, 8), (5, 9), (5, 10), (5, 11), (5, 12), (5, 13), (5, 14), (44, 0)] [23, 24, 25, 26, 27, 28, 29, 30, 31, 32, 33, 34, 35, 36, 37, 39, 40, 67, 68, 69, 70, 71, 72, 73, 74, 75, 76, 77, 78, 79, 80, 81, 82, 83, 84, 85] V V164 := agV10.tr ajV164 (by decide) (by decide)
    have pq166 : (V164 44 0).toInt = ((V 44 0)).toInt := congrArg Int32.toInt ((ajV164 44 0 rfl).trans (ajV10 44 0 rfl))
    have hi167 : HI V164 Z b := (HI.ag (HI.ag hi ajV10 (by decide)) ajV164 (by decide))
    refine W.know (fun kr1 kr2 => ?_)
    refine W.widen (k := zcc Z) (n := zss Z) (Nat.sub_le _ _) (Nat.sub_le _ _) ?_
    exact W.iret (v := z161) hx hb hr (fun t ht hW => ⟨⟨z161, (V164, L, Z), rfl, ⟨hMV164, agV164, rfl, zoZ, hi167, (show (V164 44 0).toInt ≤ (V 44 0).toInt + 340 from by first | exact om_d7c9b3cd7334 pq166 | first | omega | ((try (have i_t20 := Imp.go t20 (by omega))); omega))⟩, ⟨by rw [ht]; exact hP, va_K.moved hW.alike hK, hD⟩, by rw [ht]; exact kr1, by rw [ht]; exact kr2⟩, hS.F ht⟩) hS.2.2 dX11_close_24
end
