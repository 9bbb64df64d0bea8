section
theorem w1183 : Cond.code yX5_push cX5_push 7 (some (.object "WiringHouse$Frame")) ∈ GW := gw_k tk9_5 68 (rfl) rfl
theorem w1180 : Cond.methodLink RX5 119 yX5_push ∈ GW := gw_k tk9_5 65 (by decide +kernel) rfl
theorem w1182 : Cond.instanceMethod yX5_push ∈ GW := gw_k tk9_5 67 (by decide +kernel) rfl
theorem w43 : Cond.selects RX5 yX5_push yX5_push ∈ GW := gw_mem 43 (by decide +kernel) rfl
theorem hdV_yX5_push : yX5_push.cls = RX5 ∧ yX5_push.cls ≠ "java/lang/invoke/MethodHandle" ∧ yX5_push.cls ≠ "java/lang/invoke/VarHandle" ∧ (parseMethodDescriptor yX5_push.desc).map (fun d => d.parameters.length) = some 5 := by decide +kernel
theorem n1202 : lw_tbl[1202]? = some (Cond.fieldLinkNest RX5 123 "WiringHouse$Frame" "mark" "I" "WiringHouse") := la9 (n := 155) (i := 1047) lz9 (la9 (n := 240) (i := 807) ln9_1 (la9 (n := 240) (i := 567) ln9_2 (la9 (n := 240) (i := 327) ln9_3 (la9 (n := 240) (i := 87) ln9_4 (lb9 (i := 87) (by decide +kernel))))))
theorem w1327 : Cond.code yX8_componentOf cX8_componentOf 2 (some .int) ∈ GW := gw_k tk9_5 212 (rfl) rfl
theorem w1324 : Cond.methodLink RX5 126 yX8_componentOf ∈ GW := gw_k tk9_5 209 (by decide +kernel) rfl
theorem w1325 : Cond.instanceMethod yX8_componentOf ∈ GW := gw_k tk9_5 210 (by decide +kernel) rfl
theorem w1326 : Cond.selects RX8 yX8_componentOf yX8_componentOf ∈ GW := gw_k tk9_5 211 (by decide +kernel) rfl
theorem hdV_yX8_componentOf : yX8_componentOf.cls = RX8 ∧ yX8_componentOf.cls ≠ "java/lang/invoke/MethodHandle" ∧ yX8_componentOf.cls ≠ "java/lang/invoke/VarHandle" ∧ (parseMethodDescriptor yX8_componentOf.desc).map (fun d => d.parameters.length) = some 1 := by decide +kernel
theorem n1195 : lw_tbl[1195]? = some (Cond.fieldLinkNest RX5 132 "WiringHouse$Frame" "method" "I" "WiringHouse") := la9 (n := 155) (i := 1040) lz9 (la9 (n := 240) (i := 800) ln9_1 (la9 (n := 240) (i := 560) ln9_2 (la9 (n := 240) (i := 320) ln9_3 (la9 (n := 240) (i := 80) ln9_4 (lb9 (i := 80) (by decide +kernel))))))
theorem n1196 : lw_tbl[1196]? = some (Cond.fieldLinkNest RX5 135 "WiringHouse$Frame" "arg" "I" "WiringHouse") := la9 (n := 155) (i := 1041) lz9 (la9 (n := 240) (i := 801) ln9_1 (la9 (n := 240) (i := 561) ln9_2 (la9 (n := 240) (i := 321) ln9_3 (la9 (n := 240) (i := 81) ln9_4 (lb9 (i := 81) (by decide +kernel))))))
theorem n382 : lw_tbl[382]? = some (Cond.fieldLinkNest RX5 138 "WiringHouse$Stock" "places" "[I" "WiringHouse") := la9 (n := 155) (i := 227) lz9 (lb9 (i := 227) (by decide +kernel))
theorem n1206 : lw_tbl[1206]? = some (Cond.fieldLinkNest RX5 141 "WiringHouse$Frame" "at" "I" "WiringHouse") := la9 (n := 155) (i := 1051) lz9 (la9 (n := 240) (i := 811) ln9_1 (la9 (n := 240) (i := 571) ln9_2 (la9 (n := 240) (i := 331) ln9_3 (la9 (n := 240) (i := 91) ln9_4 (lb9 (i := 91) (by decide +kernel))))))
theorem dk9_dX5_pushRoot_0_0 : dOk cX5_pushRoot [(0, .aload_n 0, 1), (1, .iconst 0, 1), (2, .iload_n 3, 1), (3, .iconst (-1), 1), (4, .iload_n 1, 1), (5, .iload_n 2, 1), (6, .invokevirtual 119, 3), (9, .astore 4, 2), (11, .aload 4, 2), (13, .aload_n 0, 1), (14, .getfield 46, 3), (17, .putfield 123, 3), (20, .return_, 1)] = true := by decide +kernel
theorem dX5_pushRoot_0 : decode cX5_pushRoot 0 = .ok (.aload_n 0, 1) := dr9 dk9_dX5_pushRoot_0_0 0 (0, .aload_n 0, 1) rfl
theorem dX5_pushRoot_1 : decode cX5_pushRoot 1 = .ok (.iconst 0, 1) := dr9 dk9_dX5_pushRoot_0_0 1 (1, .iconst 0, 1) rfl
theorem dX5_pushRoot_2 : decode cX5_pushRoot 2 = .ok (.iload_n 3, 1) := dr9 dk9_dX5_pushRoot_0_0 2 (2, .iload_n 3, 1) rfl
theorem dX5_pushRoot_3 : decode cX5_pushRoot 3 = .ok (.iconst (-1), 1) := dr9 dk9_dX5_pushRoot_0_0 3 (3, .iconst (-1), 1) rfl
theorem dX5_pushRoot_4 : decode cX5_pushRoot 4 = .ok (.iload_n 1, 1) := dr9 dk9_dX5_pushRoot_0_0 4 (4, .iload_n 1, 1) rfl
theorem dX5_pushRoot_5 : decode cX5_pushRoot 5 = .ok (.iload_n 2, 1) := dr9 dk9_dX5_pushRoot_0_0 5 (5, .iload_n 2, 1) rfl
theorem dX5_pushRoot_6 : decode cX5_pushRoot 6 = .ok (.invokevirtual 119, 3) := dr9 dk9_dX5_pushRoot_0_0 6 (6, .invokevirtual 119, 3) rfl
theorem dX5_pushRoot_9 : decode cX5_pushRoot 9 = .ok (.astore 4, 2) := dr9 dk9_dX5_pushRoot_0_0 7 (9, .astore 4, 2) rfl
theorem dX5_pushRoot_11 : decode cX5_pushRoot 11 = .ok (.aload 4, 2) := dr9 dk9_dX5_pushRoot_0_0 8 (11, .aload 4, 2) rfl
theorem dX5_pushRoot_13 : decode cX5_pushRoot 13 = .ok (.aload_n 0, 1) := dr9 dk9_dX5_pushRoot_0_0 9 (13, .aload_n 0, 1) rfl
theorem dX5_pushRoot_14 : decode cX5_pushRoot 14 = .ok (.getfield 46, 3) := dr9 dk9_dX5_pushRoot_0_0 10 (14, .getfield 46, 3) rfl
theorem dX5_pushRoot_17 : decode cX5_pushRoot 17 = .ok (.putfield 123, 3) := dr9 dk9_dX5_pushRoot_0_0 11 (17, .putfield 123, 3) rfl
theorem dX5_pushRoot_20 : decode cX5_pushRoot 20 = .ok (.return_, 1) := dr9 dk9_dX5_pushRoot_0_0 12 (20, .return_, 1) rfl
theorem dk9_dX5_pushCall_0_0 : dOk cX5_pushCall [(0, .aload_n 0, 1), (1, .iconst 2, 1), (2, .iload 5, 2), (4, .iload_n 1, 1), (5, .aload_n 0, 1), (6, .getfield 28, 3), (9, .iload_n 1, 1), (10, .invokevirtual 126, 3), (13, .iload_n 2, 1), (14, .invokevirtual 119, 3), (17, .astore 6, 2), (19, .aload 6, 2), (21, .iload_n 3, 1), (22, .putfield 132, 3), (25, .aload 6, 2), (27, .iload 4, 2), (29, .putfield 135, 3), (32, .return_, 1)] = true := by decide +kernel
theorem dX5_pushCall_0 : decode cX5_pushCall 0 = .ok (.aload_n 0, 1) := dr9 dk9_dX5_pushCall_0_0 0 (0, .aload_n 0, 1) rfl
theorem dX5_pushCall_1 : decode cX5_pushCall 1 = .ok (.iconst 2, 1) := dr9 dk9_dX5_pushCall_0_0 1 (1, .iconst 2, 1) rfl
theorem dX5_pushCall_2 : decode cX5_pushCall 2 = .ok (.iload 5, 2) := dr9 dk9_dX5_pushCall_0_0 2 (2, .iload 5, 2) rfl
theorem dX5_pushCall_4 : decode cX5_pushCall 4 = .ok (.iload_n 1, 1) := dr9 dk9_dX5_pushCall_0_0 3 (4, .iload_n 1, 1) rfl
theorem dX5_pushCall_5 : decode cX5_pushCall 5 = .ok (.aload_n 0, 1) := dr9 dk9_dX5_pushCall_0_0 4 (5, .aload_n 0, 1) rfl
theorem dX5_pushCall_6 : decode cX5_pushCall 6 = .ok (.getfield 28, 3) := dr9 dk9_dX5_pushCall_0_0 5 (6, .getfield 28, 3) rfl
theorem dX5_pushCall_9 : decode cX5_pushCall 9 = .ok (.iload_n 1, 1) := dr9 dk9_dX5_pushCall_0_0 6 (9, .iload_n 1, 1) rfl
theorem dX5_pushCall_10 : decode cX5_pushCall 10 = .ok (.invokevirtual 126, 3) := dr9 dk9_dX5_pushCall_0_0 7 (10, .invokevirtual 126, 3) rfl
theorem dX5_pushCall_13 : decode cX5_pushCall 13 = .ok (.iload_n 2, 1) := dr9 dk9_dX5_pushCall_0_0 8 (13, .iload_n 2, 1) rfl
theorem dX5_pushCall_14 : decode cX5_pushCall 14 = .ok (.invokevirtual 119, 3) := dr9 dk9_dX5_pushCall_0_0 9 (14, .invokevirtual 119, 3) rfl
theorem dX5_pushCall_17 : decode cX5_pushCall 17 = .ok (.astore 6, 2) := dr9 dk9_dX5_pushCall_0_0 10 (17, .astore 6, 2) rfl
theorem dX5_pushCall_19 : decode cX5_pushCall 19 = .ok (.aload 6, 2) := dr9 dk9_dX5_pushCall_0_0 11 (19, .aload 6, 2) rfl
theorem dX5_pushCall_21 : decode cX5_pushCall 21 = .ok (.iload_n 3, 1) := dr9 dk9_dX5_pushCall_0_0 12 (21, .iload_n 3, 1) rfl
theorem dX5_pushCall_22 : decode cX5_pushCall 22 = .ok (.putfield 132, 3) := dr9 dk9_dX5_pushCall_0_0 13 (22, .putfield 132, 3) rfl
theorem dX5_pushCall_25 : decode cX5_pushCall 25 = .ok (.aload 6, 2) := dr9 dk9_dX5_pushCall_0_0 14 (25, .aload 6, 2) rfl
theorem dX5_pushCall_27 : decode cX5_pushCall 27 = .ok (.iload 4, 2) := dr9 dk9_dX5_pushCall_0_0 15 (27, .iload 4, 2) rfl
theorem dX5_pushCall_29 : decode cX5_pushCall 29 = .ok (.putfield 135, 3) := dr9 dk9_dX5_pushCall_0_0 16 (29, .putfield 135, 3) rfl
theorem dX5_pushCall_32 : decode cX5_pushCall 32 = .ok (.return_, 1) := dr9 dk9_dX5_pushCall_0_0 17 (32, .return_, 1) rfl
theorem dk9_dX5_pushClose_0_0 : dOk cX5_pushClose [(0, .aload_n 0, 1), (1, .iconst 5, 1), (2, .iload_n 2, 1), (3, .iload_n 1, 1), (4, .aload_n 0, 1), (5, .getfield 28, 3), (8, .iload_n 1, 1), (9, .invokevirtual 126, 3), (12, .aload_n 0, 1), (13, .getfield 28, 3), (16, .getfield 138, 3), (19, .iload_n 1, 1), (20, .iaload, 1), (21, .invokevirtual 119, 3), (24, .pop, 1), (25, .return_, 1)] = true := by decide +kernel
theorem dX5_pushClose_0 : decode cX5_pushClose 0 = .ok (.aload_n 0, 1) := dr9 dk9_dX5_pushClose_0_0 0 (0, .aload_n 0, 1) rfl
theorem dX5_pushClose_1 : decode cX5_pushClose 1 = .ok (.iconst 5, 1) := dr9 dk9_dX5_pushClose_0_0 1 (1, .iconst 5, 1) rfl
theorem dX5_pushClose_2 : decode cX5_pushClose 2 = .ok (.iload_n 2, 1) := dr9 dk9_dX5_pushClose_0_0 2 (2, .iload_n 2, 1) rfl
theorem dX5_pushClose_3 : decode cX5_pushClose 3 = .ok (.iload_n 1, 1) := dr9 dk9_dX5_pushClose_0_0 3 (3, .iload_n 1, 1) rfl
theorem dX5_pushClose_4 : decode cX5_pushClose 4 = .ok (.aload_n 0, 1) := dr9 dk9_dX5_pushClose_0_0 4 (4, .aload_n 0, 1) rfl
theorem dX5_pushClose_5 : decode cX5_pushClose 5 = .ok (.getfield 28, 3) := dr9 dk9_dX5_pushClose_0_0 5 (5, .getfield 28, 3) rfl
theorem dX5_pushClose_8 : decode cX5_pushClose 8 = .ok (.iload_n 1, 1) := dr9 dk9_dX5_pushClose_0_0 6 (8, .iload_n 1, 1) rfl
theorem dX5_pushClose_9 : decode cX5_pushClose 9 = .ok (.invokevirtual 126, 3) := dr9 dk9_dX5_pushClose_0_0 7 (9, .invokevirtual 126, 3) rfl
theorem dX5_pushClose_12 : decode cX5_pushClose 12 = .ok (.aload_n 0, 1) := dr9 dk9_dX5_pushClose_0_0 8 (12, .aload_n 0, 1) rfl
theorem dX5_pushClose_13 : decode cX5_pushClose 13 = .ok (.getfield 28, 3) := dr9 dk9_dX5_pushClose_0_0 9 (13, .getfield 28, 3) rfl
theorem dX5_pushClose_16 : decode cX5_pushClose 16 = .ok (.getfield 138, 3) := dr9 dk9_dX5_pushClose_0_0 10 (16, .getfield 138, 3) rfl
theorem dX5_pushClose_19 : decode cX5_pushClose 19 = .ok (.iload_n 1, 1) := dr9 dk9_dX5_pushClose_0_0 11 (19, .iload_n 1, 1) rfl
theorem dX5_pushClose_20 : decode cX5_pushClose 20 = .ok (.iaload, 1) := dr9 dk9_dX5_pushClose_0_0 12 (20, .iaload, 1) rfl
theorem dX5_pushClose_21 : decode cX5_pushClose 21 = .ok (.invokevirtual 119, 3) := dr9 dk9_dX5_pushClose_0_0 13 (21, .invokevirtual 119, 3) rfl
theorem dX5_pushClose_24 : decode cX5_pushClose 24 = .ok (.pop, 1) := dr9 dk9_dX5_pushClose_0_0 14 (24, .pop, 1) rfl
theorem dX5_pushClose_25 : decode cX5_pushClose 25 = .ok (.return_, 1) := dr9 dk9_dX5_pushClose_0_0 15 (25, .return_, 1) rfl
theorem dk9_dX5_pushWork_0_0 : dOk cX5_pushWork [(0, .aload_n 0, 1), (1, .iconst 4, 1), (2, .aload_n 1, 1), (3, .getfield 97, 3), (6, .aload_n 1, 1), (7, .getfield 100, 3), (10, .aload_n 1, 1), (11, .getfield 103, 3), (14, .aload_n 1, 1), (15, .getfield 106, 3), (18, .invokevirtual 119, 3), (21, .astore 4, 2), (23, .aload 4, 2), (25, .aload_n 1, 1), (26, .getfield 132, 3), (29, .putfield 132, 3), (32, .aload 4, 2), (34, .iload_n 3, 1), (35, .putfield 135, 3), (38, .aload 4, 2), (40, .iload_n 2, 1), (41, .putfield 141, 3), (44, .aload 4, 2), (46, .aload_n 0, 1)] = true ∧ dOk cX5_pushWork [(47, .getfield 43, 3), (50, .putfield 144, 3), (53, .aload 4, 2), (55, .areturn, 1)] = true := by decide +kernel
theorem dX5_pushWork_0 : decode cX5_pushWork 0 = .ok (.aload_n 0, 1) := dr9 dk9_dX5_pushWork_0_0.1 0 (0, .aload_n 0, 1) rfl
theorem dX5_pushWork_1 : decode cX5_pushWork 1 = .ok (.iconst 4, 1) := dr9 dk9_dX5_pushWork_0_0.1 1 (1, .iconst 4, 1) rfl
theorem dX5_pushWork_2 : decode cX5_pushWork 2 = .ok (.aload_n 1, 1) := dr9 dk9_dX5_pushWork_0_0.1 2 (2, .aload_n 1, 1) rfl
theorem dX5_pushWork_3 : decode cX5_pushWork 3 = .ok (.getfield 97, 3) := dr9 dk9_dX5_pushWork_0_0.1 3 (3, .getfield 97, 3) rfl
theorem dX5_pushWork_6 : decode cX5_pushWork 6 = .ok (.aload_n 1, 1) := dr9 dk9_dX5_pushWork_0_0.1 4 (6, .aload_n 1, 1) rfl
theorem dX5_pushWork_7 : decode cX5_pushWork 7 = .ok (.getfield 100, 3) := dr9 dk9_dX5_pushWork_0_0.1 5 (7, .getfield 100, 3) rfl
theorem dX5_pushWork_10 : decode cX5_pushWork 10 = .ok (.aload_n 1, 1) := dr9 dk9_dX5_pushWork_0_0.1 6 (10, .aload_n 1, 1) rfl
theorem dX5_pushWork_11 : decode cX5_pushWork 11 = .ok (.getfield 103, 3) := dr9 dk9_dX5_pushWork_0_0.1 7 (11, .getfield 103, 3) rfl
theorem dX5_pushWork_14 : decode cX5_pushWork 14 = .ok (.aload_n 1, 1) := dr9 dk9_dX5_pushWork_0_0.1 8 (14, .aload_n 1, 1) rfl
theorem dX5_pushWork_15 : decode cX5_pushWork 15 = .ok (.getfield 106, 3) := dr9 dk9_dX5_pushWork_0_0.1 9 (15, .getfield 106, 3) rfl
theorem dX5_pushWork_18 : decode cX5_pushWork 18 = .ok (.invokevirtual 119, 3) := dr9 dk9_dX5_pushWork_0_0.1 10 (18, .invokevirtual 119, 3) rfl
theorem dX5_pushWork_21 : decode cX5_pushWork 21 = .ok (.astore 4, 2) := dr9 dk9_dX5_pushWork_0_0.1 11 (21, .astore 4, 2) rfl
theorem dX5_pushWork_23 : decode cX5_pushWork 23 = .ok (.aload 4, 2) := dr9 dk9_dX5_pushWork_0_0.1 12 (23, .aload 4, 2) rfl
theorem dX5_pushWork_25 : decode cX5_pushWork 25 = .ok (.aload_n 1, 1) := dr9 dk9_dX5_pushWork_0_0.1 13 (25, .aload_n 1, 1) rfl
theorem dX5_pushWork_26 : decode cX5_pushWork 26 = .ok (.getfield 132, 3) := dr9 dk9_dX5_pushWork_0_0.1 14 (26, .getfield 132, 3) rfl
theorem dX5_pushWork_29 : decode cX5_pushWork 29 = .ok (.putfield 132, 3) := dr9 dk9_dX5_pushWork_0_0.1 15 (29, .putfield 132, 3) rfl
theorem dX5_pushWork_32 : decode cX5_pushWork 32 = .ok (.aload 4, 2) := dr9 dk9_dX5_pushWork_0_0.1 16 (32, .aload 4, 2) rfl
theorem dX5_pushWork_34 : decode cX5_pushWork 34 = .ok (.iload_n 3, 1) := dr9 dk9_dX5_pushWork_0_0.1 17 (34, .iload_n 3, 1) rfl
theorem dX5_pushWork_35 : decode cX5_pushWork 35 = .ok (.putfield 135, 3) := dr9 dk9_dX5_pushWork_0_0.1 18 (35, .putfield 135, 3) rfl
theorem dX5_pushWork_38 : decode cX5_pushWork 38 = .ok (.aload 4, 2) := dr9 dk9_dX5_pushWork_0_0.1 19 (38, .aload 4, 2) rfl
theorem dX5_pushWork_40 : decode cX5_pushWork 40 = .ok (.iload_n 2, 1) := dr9 dk9_dX5_pushWork_0_0.1 20 (40, .iload_n 2, 1) rfl
theorem dX5_pushWork_41 : decode cX5_pushWork 41 = .ok (.putfield 141, 3) := dr9 dk9_dX5_pushWork_0_0.1 21 (41, .putfield 141, 3) rfl
theorem dX5_pushWork_44 : decode cX5_pushWork 44 = .ok (.aload 4, 2) := dr9 dk9_dX5_pushWork_0_0.1 22 (44, .aload 4, 2) rfl
theorem dX5_pushWork_46 : decode cX5_pushWork 46 = .ok (.aload_n 0, 1) := dr9 dk9_dX5_pushWork_0_0.1 23 (46, .aload_n 0, 1) rfl
theorem dX5_pushWork_47 : decode cX5_pushWork 47 = .ok (.getfield 43, 3) := dr9 dk9_dX5_pushWork_0_0.2 0 (47, .getfield 43, 3) rfl
theorem dX5_pushWork_50 : decode cX5_pushWork 50 = .ok (.putfield 144, 3) := dr9 dk9_dX5_pushWork_0_0.2 1 (50, .putfield 144, 3) rfl
theorem dX5_pushWork_53 : decode cX5_pushWork 53 = .ok (.aload 4, 2) := dr9 dk9_dX5_pushWork_0_0.2 2 (53, .aload 4, 2) rfl
theorem dX5_pushWork_55 : decode cX5_pushWork 55 = .ok (.areturn, 1) := dr9 dk9_dX5_pushWork_0_0.2 3 (55, .areturn, 1) rfl
theorem dk9_dX5_pushInside_0_0 : dOk cX5_pushInside [(0, .aload_n 0, 1), (1, .iconst 3, 1), (2, .aload_n 1, 1), (3, .getfield 97, 3), (6, .aload_n 1, 1), (7, .getfield 100, 3), (10, .aload_n 1, 1), (11, .getfield 103, 3), (14, .aload_n 1, 1), (15, .getfield 106, 3), (18, .invokevirtual 119, 3), (21, .astore 4, 2), (23, .aload 4, 2), (25, .aload_n 1, 1), (26, .getfield 132, 3), (29, .putfield 132, 3), (32, .aload 4, 2), (34, .iload_n 3, 1), (35, .putfield 135, 3), (38, .aload 4, 2), (40, .iload_n 2, 1), (41, .putfield 109, 3), (44, .return_, 1)] = true := by decide +kernel
theorem dX5_pushInside_0 : decode cX5_pushInside 0 = .ok (.aload_n 0, 1) := dr9 dk9_dX5_pushInside_0_0 0 (0, .aload_n 0, 1) rfl
theorem dX5_pushInside_1 : decode cX5_pushInside 1 = .ok (.iconst 3, 1) := dr9 dk9_dX5_pushInside_0_0 1 (1, .iconst 3, 1) rfl
theorem dX5_pushInside_2 : decode cX5_pushInside 2 = .ok (.aload_n 1, 1) := dr9 dk9_dX5_pushInside_0_0 2 (2, .aload_n 1, 1) rfl
theorem dX5_pushInside_3 : decode cX5_pushInside 3 = .ok (.getfield 97, 3) := dr9 dk9_dX5_pushInside_0_0 3 (3, .getfield 97, 3) rfl
theorem dX5_pushInside_6 : decode cX5_pushInside 6 = .ok (.aload_n 1, 1) := dr9 dk9_dX5_pushInside_0_0 4 (6, .aload_n 1, 1) rfl
theorem dX5_pushInside_7 : decode cX5_pushInside 7 = .ok (.getfield 100, 3) := dr9 dk9_dX5_pushInside_0_0 5 (7, .getfield 100, 3) rfl
theorem dX5_pushInside_10 : decode cX5_pushInside 10 = .ok (.aload_n 1, 1) := dr9 dk9_dX5_pushInside_0_0 6 (10, .aload_n 1, 1) rfl
theorem dX5_pushInside_11 : decode cX5_pushInside 11 = .ok (.getfield 103, 3) := dr9 dk9_dX5_pushInside_0_0 7 (11, .getfield 103, 3) rfl
theorem dX5_pushInside_14 : decode cX5_pushInside 14 = .ok (.aload_n 1, 1) := dr9 dk9_dX5_pushInside_0_0 8 (14, .aload_n 1, 1) rfl
theorem dX5_pushInside_15 : decode cX5_pushInside 15 = .ok (.getfield 106, 3) := dr9 dk9_dX5_pushInside_0_0 9 (15, .getfield 106, 3) rfl
theorem dX5_pushInside_18 : decode cX5_pushInside 18 = .ok (.invokevirtual 119, 3) := dr9 dk9_dX5_pushInside_0_0 10 (18, .invokevirtual 119, 3) rfl
theorem dX5_pushInside_21 : decode cX5_pushInside 21 = .ok (.astore 4, 2) := dr9 dk9_dX5_pushInside_0_0 11 (21, .astore 4, 2) rfl
theorem dX5_pushInside_23 : decode cX5_pushInside 23 = .ok (.aload 4, 2) := dr9 dk9_dX5_pushInside_0_0 12 (23, .aload 4, 2) rfl
theorem dX5_pushInside_25 : decode cX5_pushInside 25 = .ok (.aload_n 1, 1) := dr9 dk9_dX5_pushInside_0_0 13 (25, .aload_n 1, 1) rfl
theorem dX5_pushInside_26 : decode cX5_pushInside 26 = .ok (.getfield 132, 3) := dr9 dk9_dX5_pushInside_0_0 14 (26, .getfield 132, 3) rfl
theorem dX5_pushInside_29 : decode cX5_pushInside 29 = .ok (.putfield 132, 3) := dr9 dk9_dX5_pushInside_0_0 15 (29, .putfield 132, 3) rfl
theorem dX5_pushInside_32 : decode cX5_pushInside 32 = .ok (.aload 4, 2) := dr9 dk9_dX5_pushInside_0_0 16 (32, .aload 4, 2) rfl
theorem dX5_pushInside_34 : decode cX5_pushInside 34 = .ok (.iload_n 3, 1) := dr9 dk9_dX5_pushInside_0_0 17 (34, .iload_n 3, 1) rfl
theorem dX5_pushInside_35 : decode cX5_pushInside 35 = .ok (.putfield 135, 3) := dr9 dk9_dX5_pushInside_0_0 18 (35, .putfield 135, 3) rfl
theorem dX5_pushInside_38 : decode cX5_pushInside 38 = .ok (.aload 4, 2) := dr9 dk9_dX5_pushInside_0_0 19 (38, .aload 4, 2) rfl
theorem dX5_pushInside_40 : decode cX5_pushInside 40 = .ok (.iload_n 2, 1) := dr9 dk9_dX5_pushInside_0_0 20 (40, .iload_n 2, 1) rfl
theorem dX5_pushInside_41 : decode cX5_pushInside 41 = .ok (.putfield 109, 3) := dr9 dk9_dX5_pushInside_0_0 21 (41, .putfield 109, 3) rfl
theorem dX5_pushInside_44 : decode cX5_pushInside 44 = .ok (.return_, 1) := dr9 dk9_dX5_pushInside_0_0 22 (44, .return_, 1) rfl
abbrev r_x_componentOf2 : Room := { frames := 1, cells := 0, slots := 0, locals := 21 }
abbrev q_x_componentOf2 (D : va_G) (ks : KS) (ad : Nat → Nat) (kk : Nat → ClassId) (V : Vf) (L : Lf) (Z : XZ) (p0 : Int32) (A : Nat → Prop) : Array Value → State → Outcome → State → Prop := va_Qi (fun (r : Int32) (_ : Unit) => (0 ≤ r.toInt ∧ r.toInt ≤ 23) ∧ (∀ n : Int, 0 < n → (∀ o : Nat, (o : Int) < (V 3 13).toInt → (V 26 o).toInt < n) → r.toInt < n)) (fun _ t => gq D A (xw ad kk V L Z) (xty kk Z) t) A
set_option maxHeartbeats 4000000 in
set_option maxRecDepth 100000 in
theorem x_componentOf2 (l : Launch) (D : va_G) (ks : KS) (sz : Nat) (ad : Nat → Nat) (kk : Nat → ClassId) (V : Vf) (L : Lf) (Z : XZ) (p0 : Int32) (hMV : rgd bX V)  : Met l yX8_componentOf (Cond.code yX8_componentOf cX8_componentOf 2 (some .int) :: GW) r_x_componentOf2 (va_Pc [.ref (ad 3), .int p0] (gp D ks (xw ad kk V L Z) (xty kk Z) sz)) (q_x_componentOf2 D ks ad kk V L Z p0 (va_A (xw ad kk V L Z) sz)) 0 0 (va_A (xw ad kk V L Z) sz) := by
  refine g_met (q_x_componentOf2 D ks ad kk V L Z p0) (by decide) (Nat.le_of_ble_eq_true rfl) ?_
  intro p e s m below meth c A ls H locs hx hb hr hml hown hg hlocks hin hnw hgk hP hK hD hS hA hl
  have hown : s.vm.findClass RX8 = some m.cls := hown
  have hl : lv_has ls 2 [(0, .ref (ad 3)), (1, .int p0)] := hl
  have hP : va_P D vwCl (xw ad kk V L Z) H := hP
  have hD : va_D A (xw ad kk V L Z) := hD
  have hK : va_K D vwCl (xty kk Z) s := hK
  refine lv_aload_n hx hb dX8_componentOf_0 rfl (lv_at hl 0 rfl) ?_
  refine lv_iload_n hx hb dX8_componentOf_1 rfl (lv_at hl 1 rfl) ?_
  refine gA_int (gA_runV (As := [.int p0]) (rest := []) (ci := 8) (q0 := 3) hx hb hml hown hg hP hD hK hS hA hnw hgk (x_has l D ks H.size ad kk V L Z p0 hMV ) w1300 w1301 w1302 w164 w1303 rfl xgStock hdV_yX8_has ⟨Nat.le_of_ble_eq_true rfl, Nat.le_of_ble_eq_true rfl⟩ rfl hl.1 rfl (Nat.le_of_ble_eq_true rfl) dX8_componentOf_2 ⟨Nat.le_of_ble_eq_true rfl, Nat.le_of_ble_eq_true rfl⟩) hP hD hK hS hA (fun z1 u2 H locs w3 hP hD hK hS => ?_)
  obtain ⟨rgz1, t4⟩ := w3
  have rgz1 : 0 ≤ z1.toInt ∧ z1.toInt ≤ 1 := rgz1
  have t4 : Imp (z1.toInt = 1) (0 ≤ p0.toInt ∧ p0.toInt < (V 3 13).toInt) := t4
  have r5 : 0 ≤ ((V 3 13)).toInt ∧ ((V 3 13)).toInt ≤ 300 := hMV 3 13
  refine lv_if_eq (tgt := 17) hx hb dX8_componentOf_5 (by decide) (fun c6 => ?_) (fun c6 => ?_)
  · skip
    have f7 : z1.toInt = 0 := b_eq rfl (by decide) c6
    refine lv_iconst (v := 0) hx hb dX8_componentOf_17 (by decide) ?_
    exact W.iret (v := 0) hx hb hr (fun t ht hW => ⟨⟨0, (), rfl, ⟨(by decide), (fun n h0 _ => h0)⟩, by rw [ht]; exact hP, va_K.moved hW.alike hK, hD⟩, hS.F ht⟩) hS.2.2 dX8_componentOf_18
  · skip
    have f8 : z1.toInt ≠ 0 := b_neq rfl (by decide) c6
    refine lv_aload_n hx hb dX8_componentOf_8 rfl (lv_at hl 0 rfl) ?_
    refine va_get (D := D) (ci := 8) (v := .ref (ad 23)) (fs := (xfStock ad V L Z)) (C := RX8) (T := TX8) (N := 16) hx hb hg inX8 hown hK hP 3 xgStock rfl 5 (by decide) (hg _ w379) (fun _ h9 => h9) rfl dX8_componentOf_9 ?_
    refine lv_iload_n hx hb dX8_componentOf_12 rfl (lv_at hl 1 rfl) ?_
    refine va_iald (D := D) (i := p0) hx hb hK hP 23 16 rfl rfl (i_in (a := p0.toInt) rfl (by first | exact om_e23680f16df4 r5.2 ((Imp.go t4 (imp_a (rgz1.1) (rgz1.2) (f8))).1) ((Imp.go t4 (imp_a (rgz1.1) (rgz1.2) (f8))).2) | first | omega | ((try (have i_t4 := Imp.go t4 (by omega))); omega))) dX8_componentOf_13 ?_
    have r9 : 0 ≤ ((V 26 (Int32.toNatClampNeg p0))).toInt ∧ ((V 26 (Int32.toNatClampNeg p0))).toInt ≤ 23 := hMV 26 (Int32.toNatClampNeg p0)
    refine lv_goto (tgt := 18) hx hb dX8_componentOf_14 (by decide) ?_
    have kcp := i_clamp (x := p0) rfl (by first | exact om_eafa9039069c ((Imp.go t4 (imp_a (rgz1.1) (rgz1.2) (f8))).1) | first | omega | ((try (have i_t4 := Imp.go t4 (by omega))); omega))
    exact W.iret (v := (V 26 (Int32.toNatClampNeg p0))) hx hb hr (fun t ht hW => ⟨⟨(V 26 (Int32.toNatClampNeg p0)), (), rfl, ⟨(show 0 ≤ ((V 26 (Int32.toNatClampNeg p0))).toInt ∧ ((V 26 (Int32.toNatClampNeg p0))).toInt ≤ 23 from by first | exact om_d3435e1acec6 r9.1 r9.2 | first | omega | ((try (have i_t4 := Imp.go t4 (by omega))); omega)), (fun n _ hh => hh _ (by first | omega | ((try (have i_t4 := Imp.go t4 (by omega))); omega)))⟩, by rw [ht]; exact hP, va_K.moved hW.alike hK, hD⟩, hS.F ht⟩) hS.2.2 dX8_componentOf_18
abbrev r_x_pushRoot (Z : XZ) : Room := { frames := 3, cells := zcc Z, slots := zss Z, locals := 66 }
abbrev q_x_pushRoot (D : va_G) (ks : KS) (ad : Nat → Nat) (kk : Nat → ClassId) (V : Vf) (L : Lf) (Z : XZ) (p0 : Int32) (p1 : Int32) (p2 : Int32) (b : Nat) (A : Nat → Prop) : Array Value → State → Outcome → State → Prop := qZv D (fun (u : Vf × Lf × XZ) => rgd bX u.1 ∧ agr [(5, 6), (5, 9)] [67, 68, 69, 70, 71, 72, 73, 74, 75, 76, 77, 78, 79, 80, 81, 82, 83, 84, 85] V u.1 ∧ u.2.1 = L ∧ ZL Z u.2.2 ∧ (MJ u.1 u.2.2 b)) (fun u => xw ad kk u.1 u.2.1 u.2.2) (fun u => xty kk u.2.2) (fun u => zcc Z - zcc u.2.2) (fun u => zss Z - zss u.2.2) A
set_option maxHeartbeats 4000000 in
set_option maxRecDepth 100000 in
theorem x_pushRoot (l : Launch) (D : va_G) (ks : KS) (sz : Nat) (ad : Nat → Nat) (kk : Nat → ClassId) (V : Vf) (L : Lf) (Z : XZ) (p0 : Int32) (p1 : Int32) (p2 : Int32) (b : Nat) (hMV : rgd bX V) (rg_p0 : (-1) ≤ p0.toInt ∧ p0.toInt ≤ 23) (rg_p1 : 0 ≤ p1.toInt ∧ p1.toInt ≤ 39) (hb2 : b < 2) (mt : MTr V Z b)  : Met l yX5_pushRoot (Cond.code yX5_pushRoot cX5_pushRoot 5 none :: GW) (r_x_pushRoot Z) (va_Pc [.ref (ad 5), .int p0, .int p1, .int p2] (gp D ks (xw ad kk V L Z) (xty kk Z) sz)) (q_x_pushRoot D ks ad kk V L Z p0 p1 p2 b (va_A (xw ad kk V L Z) sz)) (zcc Z) (zss Z) (va_A (xw ad kk V L Z) sz) := by
  refine g_met (q_x_pushRoot D ks ad kk V L Z p0 p1 p2 b) (by decide) (Nat.le_of_ble_eq_true rfl) ?_
  intro p e s m below meth c A ls H locs hx hb hr hml hown hg hlocks hin hnw hgk hP hK hD hS hA hl
  have hown : s.vm.findClass RX5 = some m.cls := hown
  have hl : lv_has ls 5 [(0, .ref (ad 5)), (1, .int p0), (2, .int p1), (3, .int p2)] := hl
  have hP : va_P D vwCl (xw ad kk V L Z) H := hP
  have hD : va_D A (xw ad kk V L Z) := hD
  have hK : va_K D vwCl (xty kk Z) s := hK
  have agV : agr [(5, 6), (5, 9)] [67, 68, 69, 70, 71, 72, 73, 74, 75, 76, 77, 78, 79, 80, 81, 82, 83, 84, 85] V V := agr.rf
  have zoZ : ZL Z Z := ZL.rf
  refine W.know (fun ka kb => ?_)
  refine W.tight (k := zcc Z - zcc Z) (n := zss Z - zss Z) (by omega) (by omega) ?_
  have r1 : 0 ≤ ((V 5 6)).toInt ∧ ((V 5 6)).toInt ≤ 400 := hMV 5 6
  have kdp := i_clamp (x := V 5 6) rfl (by (first | exact om_eafa9039069c r1.1 | omega))
  have hdn := MTr.dn mt (by (first | exact om_eafa9039069c r1.1 | omega))
  have mup := MTr.up mt
  have msz := mup.1
  have mbk := mup.2.2.2.1
  refine lv_aload_n hx hb dX5_pushRoot_0 rfl (lv_at hl 0 rfl) ?_
  refine lv_iconst (v := 0) hx hb dX5_pushRoot_1 (by decide) ?_
  refine lv_iload_n hx hb dX5_pushRoot_2 rfl (lv_at hl 3 rfl) ?_
  refine lv_iconst (v := (-1)) hx hb dX5_pushRoot_3 (by decide) ?_
  refine lv_iload_n hx hb dX5_pushRoot_4 rfl (lv_at hl 1 rfl) ?_
  refine lv_iload_n hx hb dX5_pushRoot_5 rfl (lv_at hl 2 rfl) ?_
  have r2 : Int32.toInt 0 = 0 := by decide
  have r3 : Int32.toInt (-1) = (-1) := by decide
  refine W.know (fun k5 k6 => ?_)
  obtain ⟨Hk4, hHk4⟩ : ∃ z, z = H := ⟨_, rfl⟩
  have k5 : Hk4.size ≤ s.heap.size + (zcc Z - zcc Z) := by rw [hHk4]; exact k5
  have k6 : tot Hk4 ≤ tot s.heap + (zss Z - zss Z) := by rw [hHk4]; exact k6
  refine gZ_ref (gA_runV (As := [.int 0, .int p2, .int (-1), .int p0, .int p1]) (rest := []) (ci := 5) (q0 := 5) hx hb hml hown hg hP hD hK hS hA hnw hgk (x_push l D ks H.size ad kk V L Z 0 p2 (-1) p0 p1 hMV (by (first | exact om_b5ea211f5a81 rg_p0.1 rg_p0.2 | omega)) (by (first | exact om_13ba01c174fe rg_p1.1 rg_p1.2 | omega)) (show (V 5 6).toInt ≤ (Z.nf : Int) from by (first | exact om_cbf4821a2053 hdn.1 | omega)) (show (Z.nf : Int) ≤ 400 from by (first | exact om_16a0bbaa0b2a hdn.2 | omega))) w1180 w1182 w43 w171 w1183 rfl xgMachine hdV_yX5_push ⟨Nat.le_of_ble_eq_true rfl, Nat.le_of_ble_eq_true rfl⟩ rfl hl.1 rfl (Nat.le_of_ble_eq_true rfl) dX5_pushRoot_6 ⟨z1 zoZ.1, z1 zoZ.2.1⟩) hD hS hA (fun u8 H locs w9 hP hD hK hS y10 y11 => ?_)
  obtain ⟨V12, L13, Z14, f15⟩ := u8
  obtain ⟨hMV12, ajV12, axL13, zlZ14, ilf15, t16, t17, t18, t19, t20, t21⟩ := w9
  have axL13 : L = L13 := Eq.symm axL13
  subst axL13
  have hP : va_P D vwCl (xw ad kk V12 L Z14) H := hP
  have hD : va_D A (xw ad kk V12 L Z14) := hD
  have hK : va_K D vwCl (xty kk Z14) s := hK
  have hMV12 : rgd bX V12 := hMV12
  have ajV12 : agr [(5, 6), (5, 9)] [67, 68, 69, 70, 71, 72, 73, 74, 75, 76, 77, 78, 79, 80, 81, 82, 83, 84, 85] V V12 := ajV12
  have agV12 : agr [(5, 6), (5, 9)] [67, 68, 69, 70, 71, 72, 73, 74, 75, 76, 77, 78, 79, 80, 81, 82, 83, 84, 85] V V12 := agV.tr ajV12 (by decide) (by decide)
  have zlZ14 : ZL Z Z14 := zlZ14
  have zoZ14 : ZL Z Z14 := ZL.tr zoZ zlZ14
  have ziZ14 := zlZ14.1
  have zjZ14 := zlZ14.2.1
  have zkZ14 := zlZ14.2.2.1
  have zmZ14 := zoZ14.1
  have znZ14 := zoZ14.2.1
  have zpZ_Z14 := zoZ.1
  have zqZ_Z14 := zoZ.2.1
  have y10 : H.size ≤ Hk4.size + (zcc Z - zcc Z14) := by rw [hHk4]; exact y10
  have y11 : tot H ≤ tot Hk4 + (zss Z - zss Z14) := by rw [hHk4]; exact y11
  refine W.tight (k := zcc Z - zcc Z14) (n := zss Z - zss Z14) (by first | exact tg9 y10 k5 zlZ14.1 zoZ.1 | omega) (by first | exact tg9 y11 k6 zlZ14.2.1 zoZ.2.1 | omega) ?_
  have ilf15 : f15 < Z14.nf := ilf15
  have t16 : ME V V12 f15 := t16
  have t17 : V12 67 f15 = 0 ∧ V12 68 f15 = 0 ∧ V12 70 f15 = (-1) ∧ V12 71 f15 = p0 ∧ V12 75 f15 = 0 ∧ V12 76 f15 = 0 := t17
  have t18 : (f15 : Int) + 1 = (V12 5 6).toInt := t18
  have t19 : (f15 : Int) ≤ (V 5 6).toInt ∧ (V 5 6).toInt ≤ (f15 : Int) + 1 := t19
  have t20 : (V12 5 9).toInt = 0 := t20
  have t21 : Z14.ln = Z.ln ∧ Z14.nf ≤ 400 := t21
  have r22 : 0 ≤ ((V12 5 6)).toInt ∧ ((V12 5 6)).toInt ≤ 400 := hMV12 5 6
  have r23 : 0 ≤ ((V12 5 9)).toInt ∧ ((V12 5 9)).toInt ≤ 3 := hMV12 5 9
  have pr24 : (V12 67 f15).toInt = 0 := (congrArg Int32.toInt t17.1).trans (by decide)
  have pr25 : (V12 68 f15).toInt = 0 := (congrArg Int32.toInt t17.2.1).trans (by decide)
  have pr26 : (V12 70 f15).toInt = (-1) := (congrArg Int32.toInt t17.2.2.1).trans (by decide)
  have pr27 : (V12 71 f15).toInt = p0.toInt := (congrArg Int32.toInt t17.2.2.2.1)
  have pr28 : (V12 75 f15).toInt = 0 := (congrArg Int32.toInt t17.2.2.2.2.1).trans (by decide)
  have pr29 : (V12 76 f15).toInt = 0 := (congrArg Int32.toInt t17.2.2.2.2.2).trans (by decide)
  refine lv_astore (lv' := [(4, .ref (Z14.fa f15)), (0, .ref (ad 5)), (1, .int p0), (2, .int p1), (3, .int p2)]) hx hb dX5_pushRoot_9 hl (by decide) rfl (fun ls hl => ?_)
  refine lv_aload hx hb dX5_pushRoot_11 (lv_at hl 0 rfl) ?_
  refine lv_aload_n hx hb dX5_pushRoot_13 rfl (lv_at hl 1 rfl) ?_
  refine va_get (D := D) (ci := 5) (v := .int (V12 5 8)) (fs := (xfMachine ad V12 L Z14)) (C := RX5) (T := TX5) (N := 15) hx hb hg inX5 hown hK hP 5 xgMachine rfl 8 (by decide) (hg _ w675) (fun _ h9 => h9) rfl dX5_pushRoot_14 ?_
  refine g_top (v := (V 5 8)) (ajV12 5 8 rfl) ?_
  have r30 : 0 ≤ ((V 5 8)).toInt ∧ ((V 5 8)).toInt ≤ 300 := hMV 5 8
  refine va_putN (D := D) (ci := 4) (v := .int (V 5 8)) (ty := tyX4 13) (fs := (xfFrame V12 f15)) (C := RX4) (T := TX4) (N := 19) hx hb hg inX4 tyX4 tyX4_ok nmX4 hown hK hP hD hS (336 + f15) (xgFrame ilf15) rfl 13 (by decide) (hnw.use 1202 n1202 rfl) (fun _ h9 => h9) rfl (tyX4_ok 13 (by decide)) rfl rfl (Nat.le_of_ble_eq_true rfl) dX5_pushRoot_17 (fun H locs hP hD hS => ?_)
  obtain ⟨V31, hV31⟩ : ∃ z, z = up2 V12 80 f15 (V 5 8) := ⟨_, rfl⟩
  have ew32 : (xw ad kk V12 L Z14).set (336 + f15) ((Z14.fa f15), .inr (4, (xfFrame V12 f15).set 13 (.int (V 5 8)))) = xw ad kk V31 L Z14 := by rw [hV31]; exact xpFrame_mark ilf15
  have hP : va_P D vwCl (xw ad kk V31 L Z14) H := by rw [← ew32]; exact hP
  have hD : va_D A (xw ad kk V31 L Z14) := by rw [← ew32]; exact hD
  have hMV31 : rgd bX V31 := hMV12.put hV31 (show 0 ≤ ((V 5 8)).toInt ∧ ((V 5 8)).toInt ≤ 300 from by (first | exact om_c7b5e7b90639 r30.1 r30.2 | omega))
  have agV31 : agr [(5, 6), (5, 9)] [67, 68, 69, 70, 71, 72, 73, 74, 75, 76, 77, 78, 79, 80, 81, 82, 83, 84, 85] V V31 := agV12.up hV31 rfl
  have me33 : ME V V31 f15 := (ME.up (ME.tr ME.rf t16) hV31 (Or.inl ⟨by decide, by decide, Nat.le_refl _⟩))
  have pq34 : (V31 67 f15).toInt = ((V12 67 f15)).toInt := congrArg Int32.toInt (up2_o hV31 (by decide))
  have pq35 : (V31 68 f15).toInt = ((V12 68 f15)).toInt := congrArg Int32.toInt (up2_o hV31 (by decide))
  have pq36 : (V31 70 f15).toInt = ((V12 70 f15)).toInt := congrArg Int32.toInt (up2_o hV31 (by decide))
  have pq37 : (V31 71 f15).toInt = ((V12 71 f15)).toInt := congrArg Int32.toInt (up2_o hV31 (by decide))
  have r38 : (-1) ≤ ((V12 71 f15)).toInt ∧ ((V12 71 f15)).toInt ≤ 23 := hMV12 71 f15
  have pq39 : (V31 75 f15).toInt = ((V12 75 f15)).toInt := congrArg Int32.toInt (up2_o hV31 (by decide))
  have r40 : 0 ≤ ((V12 75 f15)).toInt ∧ ((V12 75 f15)).toInt ≤ 12 := hMV12 75 f15
  have pq41 : (V31 76 f15).toInt = ((V12 76 f15)).toInt := congrArg Int32.toInt (up2_o hV31 (by decide))
  have pq42 : (V31 80 f15).toInt = ((V 5 8)).toInt := congrArg Int32.toInt (up2_s hV31)
  have pq43 : (V31 84 f15).toInt = ((V12 84 f15)).toInt := congrArg Int32.toInt (up2_o hV31 (by decide))
  have r44 : 0 ≤ ((V12 84 f15)).toInt ∧ ((V12 84 f15)).toInt ≤ 2147483647 := hMV12 84 f15
  have pq45 : (V31 5 6).toInt = ((V12 5 6)).toInt := congrArg Int32.toInt (up2_o hV31 (by decide))
  have pq46 : (V31 5 8).toInt = ((V 5 8)).toInt := congrArg Int32.toInt ((up2_o hV31 (by decide)).trans (ajV12 5 8 rfl))
  have pq47 : (V31 5 9).toInt = ((V12 5 9)).toInt := congrArg Int32.toInt (up2_o hV31 (by decide))
  have pq48 : (V31 3 13).toInt = ((V 3 13)).toInt := congrArg Int32.toInt ((up2_o hV31 (by decide)).trans (ajV12 3 13 rfl))
  have r49 : 0 ≤ ((V 3 13)).toInt ∧ ((V 3 13)).toInt ≤ 300 := hMV 3 13
  have pq50 : (V31 43 (5 * b + 2)).toInt = ((V 43 (5 * b + 2))).toInt := congrArg Int32.toInt ((up2_o hV31 (by decide)).trans (ajV12 43 (5 * b + 2) rfl))
  have r51 : 0 ≤ ((V 43 (5 * b + 2))).toInt ∧ ((V 43 (5 * b + 2))).toInt ≤ ((xcap (5 * b + 2) : Nat) : Int) := hMV 43 (5 * b + 2)
  have r52 : xcap (5 * b + 2) = 24 := xcap_2
  have pq53 : (V31 42 b).toInt = ((V 42 b)).toInt := congrArg Int32.toInt ((up2_o hV31 (by decide)).trans (ajV12 42 b rfl))
  have r54 : 0 ≤ ((V 42 b)).toInt ∧ ((V 42 b)).toInt ≤ 8200 := hMV 42 b
  have pq55 : (V31 41 b).toInt = ((V 41 b)).toInt := congrArg Int32.toInt ((up2_o hV31 (by decide)).trans (ajV12 41 b rfl))
  have r56 : 0 ≤ ((V 41 b)).toInt ∧ ((V 41 b)).toInt ≤ 12 := hMV 41 b
  have rp57 : MJ V31 Z14 b := MTr.pu (v := False) mt (by omega) me33 t21.1 (by omega) t21.2 (FK.k0 (by omega) (by omega)) (fun _ => (up2_s hV31).trans ((up2_o hV31 (by decide)).trans (ajV12 5 8 rfl)).symm) (by omega) (by omega) (by omega)
  refine W.know (fun kr1 kr2 => ?_)
  refine W.widen (k := zcc Z) (n := zss Z) (Nat.sub_le _ _) (Nat.sub_le _ _) ?_
  exact W.vret hx hb hr (fun t ht hW => ⟨⟨(V31, L, Z14), rfl, ⟨hMV31, agV31, rfl, zoZ14, rp57⟩, ⟨by rw [ht]; exact hP, va_K.moved hW.alike hK, hD⟩, by rw [ht]; exact kr1, by rw [ht]; exact kr2⟩, hS.F ht⟩) hS.2.2 dX5_pushRoot_20
abbrev r_x_pushCall (Z : XZ) : Room := { frames := 3, cells := zcc Z, slots := zss Z, locals := 66 }
abbrev q_x_pushCall (D : va_G) (ks : KS) (ad : Nat → Nat) (kk : Nat → ClassId) (V : Vf) (L : Lf) (Z : XZ) (p0 : Int32) (p1 : Int32) (p2 : Int32) (p3 : Int32) (p4 : Int32) (b : Nat) (A : Nat → Prop) : Array Value → State → Outcome → State → Prop := qZv D (fun (u : Vf × Lf × XZ) => rgd bX u.1 ∧ agr [(5, 6), (5, 9)] [67, 68, 69, 70, 71, 72, 73, 74, 75, 76, 77, 78, 79, 80, 81, 82, 83, 84, 85] V u.1 ∧ u.2.1 = L ∧ ZL Z u.2.2 ∧ (MJ u.1 u.2.2 b)) (fun u => xw ad kk u.1 u.2.1 u.2.2) (fun u => xty kk u.2.2) (fun u => zcc Z - zcc u.2.2) (fun u => zss Z - zss u.2.2) A
set_option maxHeartbeats 4000000 in
set_option maxRecDepth 100000 in
theorem x_pushCall (l : Launch) (D : va_G) (ks : KS) (sz : Nat) (ad : Nat → Nat) (kk : Nat → ClassId) (V : Vf) (L : Lf) (Z : XZ) (p0 : Int32) (p1 : Int32) (p2 : Int32) (p3 : Int32) (p4 : Int32) (b : Nat) (hMV : rgd bX V) (rg_p1 : 0 ≤ p1.toInt ∧ p1.toInt ≤ 39) (rg_p2 : 0 ≤ p2.toInt ∧ p2.toInt ≤ 19) (hb2 : b < 2) (mt : MT V Z b)  : Met l yX5_pushCall (Cond.code yX5_pushCall cX5_pushCall 7 none :: GW) (r_x_pushCall Z) (va_Pc [.ref (ad 5), .int p0, .int p1, .int p2, .int p3, .int p4] (gp D ks (xw ad kk V L Z) (xty kk Z) sz)) (q_x_pushCall D ks ad kk V L Z p0 p1 p2 p3 p4 b (va_A (xw ad kk V L Z) sz)) (zcc Z) (zss Z) (va_A (xw ad kk V L Z) sz) := by
  refine g_met (q_x_pushCall D ks ad kk V L Z p0 p1 p2 p3 p4 b) (by decide) (Nat.le_of_ble_eq_true rfl) ?_
  intro p e s m below meth c A ls H locs hx hb hr hml hown hg hlocks hin hnw hgk hP hK hD hS hA hl
  have hown : s.vm.findClass RX5 = some m.cls := hown
  have hl : lv_has ls 7 [(0, .ref (ad 5)), (1, .int p0), (2, .int p1), (3, .int p2), (4, .int p3), (5, .int p4)] := hl
  have hP : va_P D vwCl (xw ad kk V L Z) H := hP
  have hD : va_D A (xw ad kk V L Z) := hD
  have hK : va_K D vwCl (xty kk Z) s := hK
  have agV : agr [(5, 6), (5, 9)] [67, 68, 69, 70, 71, 72, 73, 74, 75, 76, 77, 78, 79, 80, 81, 82, 83, 84, 85] V V := agr.rf
  have zoZ : ZL Z Z := ZL.rf
  refine W.know (fun ka kb => ?_)
  refine W.tight (k := zcc Z - zcc Z) (n := zss Z - zss Z) (by omega) (by omega) ?_
  have r1 : 0 ≤ ((V 5 6)).toInt ∧ ((V 5 6)).toInt ≤ 400 := hMV 5 6
  have kdp := i_clamp (x := V 5 6) rfl (by (first | exact om_eafa9039069c r1.1 | omega))
  have hdn := MT.dn mt (by (first | exact om_eafa9039069c r1.1 | omega))
  have mup := MT.up mt
  have msz := mup.1
  have mbk := mup.2.2.2.1
  refine lv_aload_n hx hb dX5_pushCall_0 rfl (lv_at hl 0 rfl) ?_
  refine lv_iconst (v := 2) hx hb dX5_pushCall_1 (by decide) ?_
  refine lv_iload hx hb dX5_pushCall_2 (lv_at hl 5 rfl) ?_
  refine lv_iload_n hx hb dX5_pushCall_4 rfl (lv_at hl 1 rfl) ?_
  refine lv_aload_n hx hb dX5_pushCall_5 rfl (lv_at hl 0 rfl) ?_
  refine va_get (D := D) (ci := 5) (v := .ref (ad 3)) (fs := (xfMachine ad V L Z)) (C := RX5) (T := TX5) (N := 15) hx hb hg inX5 hown hK hP 5 xgMachine rfl 0 (by decide) (hg _ w667) (fun _ h9 => h9) rfl dX5_pushCall_6 ?_
  refine lv_iload_n hx hb dX5_pushCall_9 rfl (lv_at hl 1 rfl) ?_
  refine gA_int (gA_runV (As := [.int p0]) (rest := [.int p0, .int p4, .int 2, .ref (ad 5)]) (ci := 8) (q0 := 3) hx hb hml hown hg hP hD hK hS hA hnw hgk (x_componentOf2 l D ks H.size ad kk V L Z p0 hMV ) w1324 w1325 w1326 w164 w1327 rfl xgStock hdV_yX8_componentOf ⟨Nat.le_of_ble_eq_true rfl, Nat.le_of_ble_eq_true rfl⟩ rfl hl.1 rfl (Nat.le_of_ble_eq_true rfl) dX5_pushCall_10 ⟨z0, z0⟩) hP hD hK hS hA (fun z2 u3 H locs w4 hP hD hK hS => ?_)
  obtain ⟨rgz2, t5⟩ := w4
  have rgz2 : 0 ≤ z2.toInt ∧ z2.toInt ≤ 23 := rgz2
  have t5 : ∀ n : Int, 0 < n → (∀ o : Nat, (o : Int) < (V 3 13).toInt → (V 26 o).toInt < n) → z2.toInt < n := t5
  have hcm := t5 _ mup.1 mup.2.2.2.2.2.1
  refine lv_iload_n hx hb dX5_pushCall_13 rfl (lv_at hl 2 rfl) ?_
  have r6 : Int32.toInt 2 = 2 := by decide
  refine W.know (fun k8 k9 => ?_)
  obtain ⟨Hk7, hHk7⟩ : ∃ z, z = H := ⟨_, rfl⟩
  have k8 : Hk7.size ≤ s.heap.size + (zcc Z - zcc Z) := by rw [hHk7]; exact k8
  have k9 : tot Hk7 ≤ tot s.heap + (zss Z - zss Z) := by rw [hHk7]; exact k9
  refine gZ_ref (gA_runV (As := [.int 2, .int p4, .int p0, .int z2, .int p1]) (rest := []) (ci := 5) (q0 := 5) hx hb hml hown hg hP hD hK hS hA hnw hgk (x_push l D ks H.size ad kk V L Z 2 p4 p0 z2 p1 hMV (by (first | exact om_f52419b73d7d rgz2.1 rgz2.2 | omega)) (by (first | exact om_13ba01c174fe rg_p1.1 rg_p1.2 | omega)) (show (V 5 6).toInt ≤ (Z.nf : Int) from by (first | exact om_cbf4821a2053 hdn.1 | omega)) (show (Z.nf : Int) ≤ 400 from by (first | exact om_16a0bbaa0b2a hdn.2 | omega))) w1180 w1182 w43 w171 w1183 rfl xgMachine hdV_yX5_push ⟨Nat.le_of_ble_eq_true rfl, Nat.le_of_ble_eq_true rfl⟩ rfl hl.1 rfl (Nat.le_of_ble_eq_true rfl) dX5_pushCall_14 ⟨z1 zoZ.1, z1 zoZ.2.1⟩) hD hS hA (fun u11 H locs w12 hP hD hK hS y13 y14 => ?_)
  obtain ⟨V15, L16, Z17, f18⟩ := u11
  obtain ⟨hMV15, ajV15, axL16, zlZ17, ilf18, t19, t20, t21, t22, t23, t24⟩ := w12
  have axL16 : L = L16 := Eq.symm axL16
  subst axL16
  have hP : va_P D vwCl (xw ad kk V15 L Z17) H := hP
  have hD : va_D A (xw ad kk V15 L Z17) := hD
  have hK : va_K D vwCl (xty kk Z17) s := hK
  have hMV15 : rgd bX V15 := hMV15
  have ajV15 : agr [(5, 6), (5, 9)] [67, 68, 69, 70, 71, 72, 73, 74, 75, 76, 77, 78, 79, 80, 81, 82, 83, 84, 85] V V15 := ajV15
  have agV15 : agr [(5, 6), (5, 9)] [67, 68, 69, 70, 71, 72, 73, 74, 75, 76, 77, 78, 79, 80, 81, 82, 83, 84, 85] V V15 := agV.tr ajV15 (by decide) (by decide)
  have zlZ17 : ZL Z Z17 := zlZ17
  have zoZ17 : ZL Z Z17 := ZL.tr zoZ zlZ17
  have ziZ17 := zlZ17.1
  have zjZ17 := zlZ17.2.1
  have zkZ17 := zlZ17.2.2.1
  have zmZ17 := zoZ17.1
  have znZ17 := zoZ17.2.1
  have zpZ_Z17 := zoZ.1
  have zqZ_Z17 := zoZ.2.1
  have y13 : H.size ≤ Hk7.size + (zcc Z - zcc Z17) := by rw [hHk7]; exact y13
  have y14 : tot H ≤ tot Hk7 + (zss Z - zss Z17) := by rw [hHk7]; exact y14
  refine W.tight (k := zcc Z - zcc Z17) (n := zss Z - zss Z17) (by first | exact tg9 y13 k8 zlZ17.1 zoZ.1 | omega) (by first | exact tg9 y14 k9 zlZ17.2.1 zoZ.2.1 | omega) ?_
  have ilf18 : f18 < Z17.nf := ilf18
  have t19 : ME V V15 f18 := t19
  have t20 : V15 67 f18 = 2 ∧ V15 68 f18 = 0 ∧ V15 70 f18 = p0 ∧ V15 71 f18 = z2 ∧ V15 75 f18 = 0 ∧ V15 76 f18 = 0 := t20
  have t21 : (f18 : Int) + 1 = (V15 5 6).toInt := t21
  have t22 : (f18 : Int) ≤ (V 5 6).toInt ∧ (V 5 6).toInt ≤ (f18 : Int) + 1 := t22
  have t23 : (V15 5 9).toInt = 0 := t23
  have t24 : Z17.ln = Z.ln ∧ Z17.nf ≤ 400 := t24
  have r25 : 0 ≤ ((V15 5 6)).toInt ∧ ((V15 5 6)).toInt ≤ 400 := hMV15 5 6
  have r26 : 0 ≤ ((V15 5 9)).toInt ∧ ((V15 5 9)).toInt ≤ 3 := hMV15 5 9
  have pr27 : (V15 67 f18).toInt = 2 := (congrArg Int32.toInt t20.1).trans (by decide)
  have pr28 : (V15 68 f18).toInt = 0 := (congrArg Int32.toInt t20.2.1).trans (by decide)
  have pr29 : (V15 70 f18).toInt = p0.toInt := (congrArg Int32.toInt t20.2.2.1)
  have pr30 : (V15 71 f18).toInt = z2.toInt := (congrArg Int32.toInt t20.2.2.2.1)
  have pr31 : (V15 75 f18).toInt = 0 := (congrArg Int32.toInt t20.2.2.2.2.1).trans (by decide)
  have pr32 : (V15 76 f18).toInt = 0 := (congrArg Int32.toInt t20.2.2.2.2.2).trans (by decide)
  refine lv_astore (lv' := [(6, .ref (Z17.fa f18)), (0, .ref (ad 5)), (1, .int p0), (2, .int p1), (3, .int p2), (4, .int p3), (5, .int p4)]) hx hb dX5_pushCall_17 hl (by decide) rfl (fun ls hl => ?_)
  refine lv_aload hx hb dX5_pushCall_19 (lv_at hl 0 rfl) ?_
  refine lv_iload_n hx hb dX5_pushCall_21 rfl (lv_at hl 4 rfl) ?_
  refine va_putN (D := D) (ci := 4) (v := .int p2) (ty := tyX4 6) (fs := (xfFrame V15 f18)) (C := RX4) (T := TX4) (N := 19) hx hb hg inX4 tyX4 tyX4_ok nmX4 hown hK hP hD hS (336 + f18) (xgFrame ilf18) rfl 6 (by decide) (hnw.use 1195 n1195 rfl) (fun _ h9 => h9) rfl (tyX4_ok 6 (by decide)) rfl rfl (Nat.le_of_ble_eq_true rfl) dX5_pushCall_22 (fun H locs hP hD hS => ?_)
  obtain ⟨V33, hV33⟩ : ∃ z, z = up2 V15 73 f18 p2 := ⟨_, rfl⟩
  have ew34 : (xw ad kk V15 L Z17).set (336 + f18) ((Z17.fa f18), .inr (4, (xfFrame V15 f18).set 6 (.int p2))) = xw ad kk V33 L Z17 := by rw [hV33]; exact xpFrame_method ilf18
  have hP : va_P D vwCl (xw ad kk V33 L Z17) H := by rw [← ew34]; exact hP
  have hD : va_D A (xw ad kk V33 L Z17) := by rw [← ew34]; exact hD
  have hMV33 : rgd bX V33 := hMV15.put hV33 (show 0 ≤ p2.toInt ∧ p2.toInt ≤ 19 from by (first | exact om_0916ac166aa8 rg_p2.1 rg_p2.2 | omega))
  have agV33 : agr [(5, 6), (5, 9)] [67, 68, 69, 70, 71, 72, 73, 74, 75, 76, 77, 78, 79, 80, 81, 82, 83, 84, 85] V V33 := agV15.up hV33 rfl
  refine lv_aload hx hb dX5_pushCall_25 (lv_at hl 0 rfl) ?_
  refine lv_iload hx hb dX5_pushCall_27 (lv_at hl 5 rfl) ?_
  refine va_putN (D := D) (ci := 4) (v := .int p3) (ty := tyX4 7) (fs := (xfFrame V33 f18)) (C := RX4) (T := TX4) (N := 19) hx hb hg inX4 tyX4 tyX4_ok nmX4 hown hK hP hD hS (336 + f18) (xgFrame ilf18) rfl 7 (by decide) (hnw.use 1196 n1196 rfl) (fun _ h9 => h9) rfl (tyX4_ok 7 (by decide)) rfl rfl (Nat.le_of_ble_eq_true rfl) dX5_pushCall_29 (fun H locs hP hD hS => ?_)
  obtain ⟨V35, hV35⟩ : ∃ z, z = up2 V33 74 f18 p3 := ⟨_, rfl⟩
  have ew36 : (xw ad kk V33 L Z17).set (336 + f18) ((Z17.fa f18), .inr (4, (xfFrame V33 f18).set 7 (.int p3))) = xw ad kk V35 L Z17 := by rw [hV35]; exact xpFrame_arg ilf18
  have hP : va_P D vwCl (xw ad kk V35 L Z17) H := by rw [← ew36]; exact hP
  have hD : va_D A (xw ad kk V35 L Z17) := by rw [← ew36]; exact hD
  have hMV35 : rgd bX V35 := hMV33.put hV35 (i_full _)
  have agV35 : agr [(5, 6), (5, 9)] [67, 68, 69, 70, 71, 72, 73, 74, 75, 76, 77, 78, 79, 80, 81, 82, 83, 84, 85] V V35 := agV33.up hV35 rfl
  have me37 : ME V V35 f18 := (ME.up (ME.up (ME.tr ME.rf t19) hV33 (Or.inl ⟨by decide, by decide, Nat.le_refl _⟩)) hV35 (Or.inl ⟨by decide, by decide, Nat.le_refl _⟩))
  have pq38 : (V35 67 f18).toInt = ((V15 67 f18)).toInt := congrArg Int32.toInt ((up2_o hV35 (by decide)).trans (up2_o hV33 (by decide)))
  have pq39 : (V35 68 f18).toInt = ((V15 68 f18)).toInt := congrArg Int32.toInt ((up2_o hV35 (by decide)).trans (up2_o hV33 (by decide)))
  have pq40 : (V35 70 f18).toInt = ((V15 70 f18)).toInt := congrArg Int32.toInt ((up2_o hV35 (by decide)).trans (up2_o hV33 (by decide)))
  have pq41 : (V35 71 f18).toInt = ((V15 71 f18)).toInt := congrArg Int32.toInt ((up2_o hV35 (by decide)).trans (up2_o hV33 (by decide)))
  have r42 : (-1) ≤ ((V15 71 f18)).toInt ∧ ((V15 71 f18)).toInt ≤ 23 := hMV15 71 f18
  have pq43 : (V35 75 f18).toInt = ((V15 75 f18)).toInt := congrArg Int32.toInt ((up2_o hV35 (by decide)).trans (up2_o hV33 (by decide)))
  have r44 : 0 ≤ ((V15 75 f18)).toInt ∧ ((V15 75 f18)).toInt ≤ 12 := hMV15 75 f18
  have pq45 : (V35 76 f18).toInt = ((V15 76 f18)).toInt := congrArg Int32.toInt ((up2_o hV35 (by decide)).trans (up2_o hV33 (by decide)))
  have pq46 : (V35 80 f18).toInt = ((V15 80 f18)).toInt := congrArg Int32.toInt ((up2_o hV35 (by decide)).trans (up2_o hV33 (by decide)))
  have r47 : 0 ≤ ((V15 80 f18)).toInt ∧ ((V15 80 f18)).toInt ≤ 300 := hMV15 80 f18
  have pq48 : (V35 84 f18).toInt = ((V15 84 f18)).toInt := congrArg Int32.toInt ((up2_o hV35 (by decide)).trans (up2_o hV33 (by decide)))
  have r49 : 0 ≤ ((V15 84 f18)).toInt ∧ ((V15 84 f18)).toInt ≤ 2147483647 := hMV15 84 f18
  have pq50 : (V35 5 6).toInt = ((V15 5 6)).toInt := congrArg Int32.toInt ((up2_o hV35 (by decide)).trans (up2_o hV33 (by decide)))
  have pq51 : (V35 5 8).toInt = ((V 5 8)).toInt := congrArg Int32.toInt ((up2_o hV35 (by decide)).trans ((up2_o hV33 (by decide)).trans (ajV15 5 8 rfl)))
  have r52 : 0 ≤ ((V 5 8)).toInt ∧ ((V 5 8)).toInt ≤ 300 := hMV 5 8
  have pq53 : (V35 5 9).toInt = ((V15 5 9)).toInt := congrArg Int32.toInt ((up2_o hV35 (by decide)).trans (up2_o hV33 (by decide)))
  have pq54 : (V35 3 13).toInt = ((V 3 13)).toInt := congrArg Int32.toInt ((up2_o hV35 (by decide)).trans ((up2_o hV33 (by decide)).trans (ajV15 3 13 rfl)))
  have r55 : 0 ≤ ((V 3 13)).toInt ∧ ((V 3 13)).toInt ≤ 300 := hMV 3 13
  have pq56 : (V35 43 (5 * b + 2)).toInt = ((V 43 (5 * b + 2))).toInt := congrArg Int32.toInt ((up2_o hV35 (by decide)).trans ((up2_o hV33 (by decide)).trans (ajV15 43 (5 * b + 2) rfl)))
  have r57 : 0 ≤ ((V 43 (5 * b + 2))).toInt ∧ ((V 43 (5 * b + 2))).toInt ≤ ((xcap (5 * b + 2) : Nat) : Int) := hMV 43 (5 * b + 2)
  have r58 : xcap (5 * b + 2) = 24 := xcap_2
  have pq59 : (V35 42 b).toInt = ((V 42 b)).toInt := congrArg Int32.toInt ((up2_o hV35 (by decide)).trans ((up2_o hV33 (by decide)).trans (ajV15 42 b rfl)))
  have r60 : 0 ≤ ((V 42 b)).toInt ∧ ((V 42 b)).toInt ≤ 8200 := hMV 42 b
  have pq61 : (V35 41 b).toInt = ((V 41 b)).toInt := congrArg Int32.toInt ((up2_o hV35 (by decide)).trans ((up2_o hV33 (by decide)).trans (ajV15 41 b rfl)))
  have r62 : 0 ≤ ((V 41 b)).toInt ∧ ((V 41 b)).toInt ≤ 12 := hMV 41 b
  have rp63 : MJ V35 Z17 b := MT.pu (v := False) mt (by omega) me37 t24.1 (by omega) t24.2 (FK.k2 (by omega) (by omega) (by omega) (by omega)) (fun h => absurd h (by omega)) (by omega) (by omega)
  refine W.know (fun kr1 kr2 => ?_)
  refine W.widen (k := zcc Z) (n := zss Z) (Nat.sub_le _ _) (Nat.sub_le _ _) ?_
  exact W.vret hx hb hr (fun t ht hW => ⟨⟨(V35, L, Z17), rfl, ⟨hMV35, agV35, rfl, zoZ17, rp63⟩, ⟨by rw [ht]; exact hP, va_K.moved hW.alike hK, hD⟩, by rw [ht]; exact kr1, by rw [ht]; exact kr2⟩, hS.F ht⟩) hS.2.2 dX5_pushCall_32
abbrev r_x_pushClose (Z : XZ) : Room := { frames := 3, cells := zcc Z, slots := zss Z, locals := 66 }
abbrev q_x_pushClose (D : va_G) (ks : KS) (ad : Nat → Nat) (kk : Nat → ClassId) (V : Vf) (L : Lf) (Z : XZ) (p0 : Int32) (p1 : Int32) (b : Nat) (A : Nat → Prop) : Array Value → State → Outcome → State → Prop := qZv D (fun (u : Vf × Lf × XZ) => rgd bX u.1 ∧ agr [(5, 6), (5, 9)] [67, 68, 69, 70, 71, 72, 73, 74, 75, 76, 77, 78, 79, 80, 81, 82, 83, 84, 85] V u.1 ∧ u.2.1 = L ∧ ZL Z u.2.2 ∧ (MJ u.1 u.2.2 b)) (fun u => xw ad kk u.1 u.2.1 u.2.2) (fun u => xty kk u.2.2) (fun u => zcc Z - zcc u.2.2) (fun u => zss Z - zss u.2.2) A
set_option maxHeartbeats 4000000 in
set_option maxRecDepth 100000 in
theorem x_pushClose (l : Launch) (D : va_G) (ks : KS) (sz : Nat) (ad : Nat → Nat) (kk : Nat → ClassId) (V : Vf) (L : Lf) (Z : XZ) (p0 : Int32) (p1 : Int32) (b : Nat) (hMV : rgd bX V) (rg_p0 : 0 ≤ p0.toInt ∧ p0.toInt ≤ 299) (hb2 : b < 2) (mt : MT V Z b) (hob : p0.toInt < (V 3 13).toInt)  : Met l yX5_pushClose (Cond.code yX5_pushClose cX5_pushClose 3 none :: GW) (r_x_pushClose Z) (va_Pc [.ref (ad 5), .int p0, .int p1] (gp D ks (xw ad kk V L Z) (xty kk Z) sz)) (q_x_pushClose D ks ad kk V L Z p0 p1 b (va_A (xw ad kk V L Z) sz)) (zcc Z) (zss Z) (va_A (xw ad kk V L Z) sz) := by
  refine g_met (q_x_pushClose D ks ad kk V L Z p0 p1 b) (by decide) (Nat.le_of_ble_eq_true rfl) ?_
  intro p e s m below meth c A ls H locs hx hb hr hml hown hg hlocks hin hnw hgk hP hK hD hS hA hl
  have hown : s.vm.findClass RX5 = some m.cls := hown
  have hl : lv_has ls 3 [(0, .ref (ad 5)), (1, .int p0), (2, .int p1)] := hl
  have hP : va_P D vwCl (xw ad kk V L Z) H := hP
  have hD : va_D A (xw ad kk V L Z) := hD
  have hK : va_K D vwCl (xty kk Z) s := hK
  have agV : agr [(5, 6), (5, 9)] [67, 68, 69, 70, 71, 72, 73, 74, 75, 76, 77, 78, 79, 80, 81, 82, 83, 84, 85] V V := agr.rf
  have zoZ : ZL Z Z := ZL.rf
  refine W.know (fun ka kb => ?_)
  refine W.tight (k := zcc Z - zcc Z) (n := zss Z - zss Z) (by omega) (by omega) ?_
  have r1 : 0 ≤ ((V 3 13)).toInt ∧ ((V 3 13)).toInt ≤ 300 := hMV 3 13
  have r2 : 0 ≤ ((V 5 6)).toInt ∧ ((V 5 6)).toInt ≤ 400 := hMV 5 6
  have kdp := i_clamp (x := V 5 6) rfl (by (first | exact om_eafa9039069c r2.1 | omega))
  have hdn := MT.dn mt (by (first | exact om_eafa9039069c r2.1 | omega))
  have mup := MT.up mt
  have msz := mup.1
  have mbk := mup.2.2.2.1
  refine lv_aload_n hx hb dX5_pushClose_0 rfl (lv_at hl 0 rfl) ?_
  refine lv_iconst (v := 5) hx hb dX5_pushClose_1 (by decide) ?_
  refine lv_iload_n hx hb dX5_pushClose_2 rfl (lv_at hl 2 rfl) ?_
  refine lv_iload_n hx hb dX5_pushClose_3 rfl (lv_at hl 1 rfl) ?_
  refine lv_aload_n hx hb dX5_pushClose_4 rfl (lv_at hl 0 rfl) ?_
  refine va_get (D := D) (ci := 5) (v := .ref (ad 3)) (fs := (xfMachine ad V L Z)) (C := RX5) (T := TX5) (N := 15) hx hb hg inX5 hown hK hP 5 xgMachine rfl 0 (by decide) (hg _ w667) (fun _ h9 => h9) rfl dX5_pushClose_5 ?_
  refine lv_iload_n hx hb dX5_pushClose_8 rfl (lv_at hl 1 rfl) ?_
  refine gA_int (gA_runV (As := [.int p0]) (rest := [.int p0, .int p1, .int 5, .ref (ad 5)]) (ci := 8) (q0 := 3) hx hb hml hown hg hP hD hK hS hA hnw hgk (x_componentOf2 l D ks H.size ad kk V L Z p0 hMV ) w1324 w1325 w1326 w164 w1327 rfl xgStock hdV_yX8_componentOf ⟨Nat.le_of_ble_eq_true rfl, Nat.le_of_ble_eq_true rfl⟩ rfl hl.1 rfl (Nat.le_of_ble_eq_true rfl) dX5_pushClose_9 ⟨z0, z0⟩) hP hD hK hS hA (fun z3 u4 H locs w5 hP hD hK hS => ?_)
  obtain ⟨rgz3, t6⟩ := w5
  have rgz3 : 0 ≤ z3.toInt ∧ z3.toInt ≤ 23 := rgz3
  have t6 : ∀ n : Int, 0 < n → (∀ o : Nat, (o : Int) < (V 3 13).toInt → (V 26 o).toInt < n) → z3.toInt < n := t6
  have hcm := t6 _ mup.1 mup.2.2.2.2.2.1
  refine lv_aload_n hx hb dX5_pushClose_12 rfl (lv_at hl 0 rfl) ?_
  refine va_get (D := D) (ci := 5) (v := .ref (ad 3)) (fs := (xfMachine ad V L Z)) (C := RX5) (T := TX5) (N := 15) hx hb hg inX5 hown hK hP 5 xgMachine rfl 0 (by decide) (hg _ w667) (fun _ h9 => h9) rfl dX5_pushClose_13 ?_
  refine va_getN (D := D) (ci := 8) (v := .ref (ad 24)) (fs := (xfStock ad V L Z)) (C := RX8) (T := TX8) (N := 16) hx hb hg inX8 hown hK hP 3 xgStock rfl 6 (by decide) (hnw.use 382 n382 rfl) (fun _ h9 => h9) rfl dX5_pushClose_16 ?_
  refine lv_iload_n hx hb dX5_pushClose_19 rfl (lv_at hl 1 rfl) ?_
  refine va_iald (D := D) (i := p0) hx hb hK hP 24 17 rfl rfl (i_in (a := p0.toInt) rfl (by (first | exact om_375eda9ff8f1 rg_p0.1 rg_p0.2 | omega))) dX5_pushClose_20 ?_
  have r7 : 0 ≤ ((V 27 (Int32.toNatClampNeg p0))).toInt ∧ ((V 27 (Int32.toNatClampNeg p0))).toInt ≤ 39 := hMV 27 (Int32.toNatClampNeg p0)
  have r8 : Int32.toInt 5 = 5 := by decide
  refine W.know (fun k10 k11 => ?_)
  obtain ⟨Hk9, hHk9⟩ : ∃ z, z = H := ⟨_, rfl⟩
  have k10 : Hk9.size ≤ s.heap.size + (zcc Z - zcc Z) := by rw [hHk9]; exact k10
  have k11 : tot Hk9 ≤ tot s.heap + (zss Z - zss Z) := by rw [hHk9]; exact k11
  refine gZ_ref (gA_runV (As := [.int 5, .int p1, .int p0, .int z3, .int (V 27 (Int32.toNatClampNeg p0))]) (rest := []) (ci := 5) (q0 := 5) hx hb hml hown hg hP hD hK hS hA hnw hgk (x_push l D ks H.size ad kk V L Z 5 p1 p0 z3 (V 27 (Int32.toNatClampNeg p0)) hMV (by (first | exact om_f52419b73d7d rgz3.1 rgz3.2 | omega)) (by (first | exact om_13ba01c174fe r7.1 r7.2 | omega)) (show (V 5 6).toInt ≤ (Z.nf : Int) from by (first | exact om_cbf4821a2053 hdn.1 | omega)) (show (Z.nf : Int) ≤ 400 from by (first | exact om_16a0bbaa0b2a hdn.2 | omega))) w1180 w1182 w43 w171 w1183 rfl xgMachine hdV_yX5_push ⟨Nat.le_of_ble_eq_true rfl, Nat.le_of_ble_eq_true rfl⟩ rfl hl.1 rfl (Nat.le_of_ble_eq_true rfl) dX5_pushClose_21 ⟨z1 zoZ.1, z1 zoZ.2.1⟩) hD hS hA (fun u13 H locs w14 hP hD hK hS y15 y16 => ?_)
  obtain ⟨V17, L18, Z19, f20⟩ := u13
  obtain ⟨hMV17, ajV17, axL18, zlZ19, ilf20, t21, t22, t23, t24, t25, t26⟩ := w14
  have axL18 : L = L18 := Eq.symm axL18
  subst axL18
  have hP : va_P D vwCl (xw ad kk V17 L Z19) H := hP
  have hD : va_D A (xw ad kk V17 L Z19) := hD
  have hK : va_K D vwCl (xty kk Z19) s := hK
  have hMV17 : rgd bX V17 := hMV17
  have ajV17 : agr [(5, 6), (5, 9)] [67, 68, 69, 70, 71, 72, 73, 74, 75, 76, 77, 78, 79, 80, 81, 82, 83, 84, 85] V V17 := ajV17
  have agV17 : agr [(5, 6), (5, 9)] [67, 68, 69, 70, 71, 72, 73, 74, 75, 76, 77, 78, 79, 80, 81, 82, 83, 84, 85] V V17 := agV.tr ajV17 (by decide) (by decide)
  have zlZ19 : ZL Z Z19 := zlZ19
  have zoZ19 : ZL Z Z19 := ZL.tr zoZ zlZ19
  have ziZ19 := zlZ19.1
  have zjZ19 := zlZ19.2.1
  have zkZ19 := zlZ19.2.2.1
  have zmZ19 := zoZ19.1
  have znZ19 := zoZ19.2.1
  have zpZ_Z19 := zoZ.1
  have zqZ_Z19 := zoZ.2.1
  have y15 : H.size ≤ Hk9.size + (zcc Z - zcc Z19) := by rw [hHk9]; exact y15
  have y16 : tot H ≤ tot Hk9 + (zss Z - zss Z19) := by rw [hHk9]; exact y16
  refine W.tight (k := zcc Z - zcc Z19) (n := zss Z - zss Z19) (by first | exact tg9 y15 k10 zlZ19.1 zoZ.1 | omega) (by first | exact tg9 y16 k11 zlZ19.2.1 zoZ.2.1 | omega) ?_
  have ilf20 : f20 < Z19.nf := ilf20
  have t21 : ME V V17 f20 := t21
  have t22 : V17 67 f20 = 5 ∧ V17 68 f20 = 0 ∧ V17 70 f20 = p0 ∧ V17 71 f20 = z3 ∧ V17 75 f20 = 0 ∧ V17 76 f20 = 0 := t22
  have t23 : (f20 : Int) + 1 = (V17 5 6).toInt := t23
  have t24 : (f20 : Int) ≤ (V 5 6).toInt ∧ (V 5 6).toInt ≤ (f20 : Int) + 1 := t24
  have t25 : (V17 5 9).toInt = 0 := t25
  have t26 : Z19.ln = Z.ln ∧ Z19.nf ≤ 400 := t26
  have r27 : 0 ≤ ((V17 5 6)).toInt ∧ ((V17 5 6)).toInt ≤ 400 := hMV17 5 6
  have r28 : 0 ≤ ((V17 5 9)).toInt ∧ ((V17 5 9)).toInt ≤ 3 := hMV17 5 9
  have pr29 : (V17 67 f20).toInt = 5 := (congrArg Int32.toInt t22.1).trans (by decide)
  have pr30 : (V17 68 f20).toInt = 0 := (congrArg Int32.toInt t22.2.1).trans (by decide)
  have pr31 : (V17 70 f20).toInt = p0.toInt := (congrArg Int32.toInt t22.2.2.1)
  have pr32 : (V17 71 f20).toInt = z3.toInt := (congrArg Int32.toInt t22.2.2.2.1)
  have pr33 : (V17 75 f20).toInt = 0 := (congrArg Int32.toInt t22.2.2.2.2.1).trans (by decide)
  have pr34 : (V17 76 f20).toInt = 0 := (congrArg Int32.toInt t22.2.2.2.2.2).trans (by decide)
  refine lv_pop hx hb dX5_pushClose_24 rfl ?_
  have me35 : ME V V17 f20 := (ME.tr ME.rf t21)
  have r36 : (-1) ≤ ((V17 71 f20)).toInt ∧ ((V17 71 f20)).toInt ≤ 23 := hMV17 71 f20
  have r37 : 0 ≤ ((V17 75 f20)).toInt ∧ ((V17 75 f20)).toInt ≤ 12 := hMV17 75 f20
  have r38 : 0 ≤ ((V17 80 f20)).toInt ∧ ((V17 80 f20)).toInt ≤ 300 := hMV17 80 f20
  have r39 : 0 ≤ ((V17 84 f20)).toInt ∧ ((V17 84 f20)).toInt ≤ 2147483647 := hMV17 84 f20
  have pq40 : (V17 5 8).toInt = ((V 5 8)).toInt := congrArg Int32.toInt (ajV17 5 8 rfl)
  have r41 : 0 ≤ ((V 5 8)).toInt ∧ ((V 5 8)).toInt ≤ 300 := hMV 5 8
  have pq42 : (V17 3 13).toInt = ((V 3 13)).toInt := congrArg Int32.toInt (ajV17 3 13 rfl)
  have pq43 : (V17 43 (5 * b + 2)).toInt = ((V 43 (5 * b + 2))).toInt := congrArg Int32.toInt (ajV17 43 (5 * b + 2) rfl)
  have r44 : 0 ≤ ((V 43 (5 * b + 2))).toInt ∧ ((V 43 (5 * b + 2))).toInt ≤ ((xcap (5 * b + 2) : Nat) : Int) := hMV 43 (5 * b + 2)
  have r45 : xcap (5 * b + 2) = 24 := xcap_2
  have pq46 : (V17 42 b).toInt = ((V 42 b)).toInt := congrArg Int32.toInt (ajV17 42 b rfl)
  have r47 : 0 ≤ ((V 42 b)).toInt ∧ ((V 42 b)).toInt ≤ 8200 := hMV 42 b
  have pq48 : (V17 41 b).toInt = ((V 41 b)).toInt := congrArg Int32.toInt (ajV17 41 b rfl)
  have r49 : 0 ≤ ((V 41 b)).toInt ∧ ((V 41 b)).toInt ≤ 12 := hMV 41 b
  have rp50 : MJ V17 Z19 b := MT.pu (v := False) mt (by omega) me35 t26.1 (by omega) t26.2 (FK.k5 (by omega) (by omega) (by omega)) (fun h => absurd h (by omega)) (by omega) (by omega)
  refine W.know (fun kr1 kr2 => ?_)
  refine W.widen (k := zcc Z) (n := zss Z) (Nat.sub_le _ _) (Nat.sub_le _ _) ?_
  exact W.vret hx hb hr (fun t ht hW => ⟨⟨(V17, L, Z19), rfl, ⟨hMV17, agV17, rfl, zoZ19, rp50⟩, ⟨by rw [ht]; exact hP, va_K.moved hW.alike hK, hD⟩, by rw [ht]; exact kr1, by rw [ht]; exact kr2⟩, hS.F ht⟩) hS.2.2 dX5_pushClose_25
abbrev r_x_pushWork (Z : XZ) : Room := { frames := 3, cells := zcc Z, slots := zss Z, locals := 66 }
abbrev q_x_pushWork (D : va_G) (ks : KS) (ad : Nat → Nat) (kk : Nat → ClassId) (V : Vf) (L : Lf) (Z : XZ) (p1 : Int32) (p2 : Int32) (b : Nat) (gf : Nat) (A : Nat → Prop) : Array Value → State → Outcome → State → Prop := qZr D (fun (u : Vf × Lf × XZ × Nat) => rgd bX u.1 ∧ agr [(5, 6), (5, 9)] [67, 68, 69, 70, 71, 72, 73, 74, 75, 76, 77, 78, 79, 80, 81, 82, 83, 84, 85] V u.1 ∧ u.2.1 = L ∧ ZL Z u.2.2.1 ∧ (u.2.2.2 < u.2.2.1.nf) ∧ (MJ u.1 u.2.2.1 b) ∧ ((u.2.2.2 : Int) + 1 = (u.1 5 6).toInt) ∧ ((u.1 67 u.2.2.2).toInt = 4 ∧ (u.1 68 u.2.2.2).toInt = 0) ∧ ((u.1 5 9).toInt = 0)) (fun u => u.2.2.1.fa u.2.2.2) (fun u => xw ad kk u.1 u.2.1 u.2.2.1) (fun u => xty kk u.2.2.1) (fun u => zcc Z - zcc u.2.2.1) (fun u => zss Z - zss u.2.2.1) A
set_option maxHeartbeats 4000000 in
set_option maxRecDepth 100000 in
theorem x_pushWork (l : Launch) (D : va_G) (ks : KS) (sz : Nat) (ad : Nat → Nat) (kk : Nat → ClassId) (V : Vf) (L : Lf) (Z : XZ) (p1 : Int32) (p2 : Int32) (b : Nat) (gf : Nat) (hMV : rgd bX V) (rg_p1 : 0 ≤ p1.toInt ∧ p1.toInt ≤ 2147483647) (hb2 : b < 2) (hgf : gf < Z.nf) (mt : MT V Z b) (hcm : 0 ≤ (V 71 gf).toInt ∧ (V 71 gf).toInt < (V 43 (5 * b + 2)).toInt) (hob : 0 ≤ (V 70 gf).toInt ∧ (V 70 gf).toInt < (V 3 13).toInt) (hat : (V 42 b).toInt ≤ p1.toInt ∨ (bdp V b (p1.toInt).toNat).1 = true)  : Met l yX5_pushWork (Cond.code yX5_pushWork cX5_pushWork 5 (some (.object "WiringHouse$Frame")) :: GW) (r_x_pushWork Z) (va_Pc [.ref (ad 5), .ref (Z.fa gf), .int p1, .int p2] (gp D ks (xw ad kk V L Z) (xty kk Z) sz)) (q_x_pushWork D ks ad kk V L Z p1 p2 b gf (va_A (xw ad kk V L Z) sz)) (zcc Z) (zss Z) (va_A (xw ad kk V L Z) sz) := by
  refine g_met (q_x_pushWork D ks ad kk V L Z p1 p2 b gf) (by decide) (Nat.le_of_ble_eq_true rfl) ?_
  intro p e s m below meth c A ls H locs hx hb hr hml hown hg hlocks hin hnw hgk hP hK hD hS hA hl
  have hown : s.vm.findClass RX5 = some m.cls := hown
  have hl : lv_has ls 5 [(0, .ref (ad 5)), (1, .ref (Z.fa gf)), (2, .int p1), (3, .int p2)] := hl
  have hP : va_P D vwCl (xw ad kk V L Z) H := hP
  have hD : va_D A (xw ad kk V L Z) := hD
  have hK : va_K D vwCl (xty kk Z) s := hK
  have agV : agr [(5, 6), (5, 9)] [67, 68, 69, 70, 71, 72, 73, 74, 75, 76, 77, 78, 79, 80, 81, 82, 83, 84, 85] V V := agr.rf
  have zoZ : ZL Z Z := ZL.rf
  refine W.know (fun ka kb => ?_)
  refine W.tight (k := zcc Z - zcc Z) (n := zss Z - zss Z) (by omega) (by omega) ?_
  have r1 : (-1) ≤ ((V 71 gf)).toInt ∧ ((V 71 gf)).toInt ≤ 23 := hMV 71 gf
  have r2 : 0 ≤ ((V 43 (5 * b + 2))).toInt ∧ ((V 43 (5 * b + 2))).toInt ≤ ((xcap (5 * b + 2) : Nat) : Int) := hMV 43 (5 * b + 2)
  have r3 : xcap (5 * b + 2) = 24 := xcap_2
  have r4 : 0 ≤ ((V 3 13)).toInt ∧ ((V 3 13)).toInt ≤ 300 := hMV 3 13
  have r5 : 0 ≤ ((V 5 6)).toInt ∧ ((V 5 6)).toInt ≤ 400 := hMV 5 6
  have kdp := i_clamp (x := V 5 6) rfl (by (first | exact om_eafa9039069c r5.1 | omega))
  have hdn := MT.dn mt (by (first | exact om_eafa9039069c r5.1 | omega))
  have mup := MT.up mt
  have msz := mup.1
  have mbk := mup.2.2.2.1
  refine lv_aload_n hx hb dX5_pushWork_0 rfl (lv_at hl 0 rfl) ?_
  refine lv_iconst (v := 4) hx hb dX5_pushWork_1 (by decide) ?_
  refine lv_aload_n hx hb dX5_pushWork_2 rfl (lv_at hl 1 rfl) ?_
  refine va_getN (D := D) (ci := 4) (v := .int (V 69 gf)) (fs := (xfFrame V gf)) (C := RX4) (T := TX4) (N := 19) hx hb hg inX4 hown hK hP (336 + gf) (xgFrame hgf) rfl 2 (by decide) (hnw.use 1191 n1191 rfl) (fun _ h9 => h9) rfl dX5_pushWork_3 ?_
  refine lv_aload_n hx hb dX5_pushWork_6 rfl (lv_at hl 1 rfl) ?_
  refine va_getN (D := D) (ci := 4) (v := .int (V 70 gf)) (fs := (xfFrame V gf)) (C := RX4) (T := TX4) (N := 19) hx hb hg inX4 hown hK hP (336 + gf) (xgFrame hgf) rfl 3 (by decide) (hnw.use 1192 n1192 rfl) (fun _ h9 => h9) rfl dX5_pushWork_7 ?_
  refine lv_aload_n hx hb dX5_pushWork_10 rfl (lv_at hl 1 rfl) ?_
  refine va_getN (D := D) (ci := 4) (v := .int (V 71 gf)) (fs := (xfFrame V gf)) (C := RX4) (T := TX4) (N := 19) hx hb hg inX4 hown hK hP (336 + gf) (xgFrame hgf) rfl 4 (by decide) (hnw.use 1193 n1193 rfl) (fun _ h9 => h9) rfl dX5_pushWork_11 ?_
  refine lv_aload_n hx hb dX5_pushWork_14 rfl (lv_at hl 1 rfl) ?_
  refine va_getN (D := D) (ci := 4) (v := .int (V 72 gf)) (fs := (xfFrame V gf)) (C := RX4) (T := TX4) (N := 19) hx hb hg inX4 hown hK hP (336 + gf) (xgFrame hgf) rfl 5 (by decide) (hnw.use 1194 n1194 rfl) (fun _ h9 => h9) rfl dX5_pushWork_15 ?_
  have r6 : 0 ≤ ((V 72 gf)).toInt ∧ ((V 72 gf)).toInt ≤ 39 := hMV 72 gf
  have r7 : Int32.toInt 4 = 4 := by decide
  refine W.know (fun k9 k10 => ?_)
  obtain ⟨Hk8, hHk8⟩ : ∃ z, z = H := ⟨_, rfl⟩
  have k9 : Hk8.size ≤ s.heap.size + (zcc Z - zcc Z) := by rw [hHk8]; exact k9
  have k10 : tot Hk8 ≤ tot s.heap + (zss Z - zss Z) := by rw [hHk8]; exact k10
  refine gZ_ref (gA_runV (As := [.int 4, .int (V 69 gf), .int (V 70 gf), .int (V 71 gf), .int (V 72 gf)]) (rest := []) (ci := 5) (q0 := 5) hx hb hml hown hg hP hD hK hS hA hnw hgk (x_push l D ks H.size ad kk V L Z 4 (V 69 gf) (V 70 gf) (V 71 gf) (V 72 gf) hMV (by (first | exact om_f52419b73d7d hcm.1 r1.2 | omega)) (by (first | exact om_13ba01c174fe r6.1 r6.2 | omega)) (show (V 5 6).toInt ≤ (Z.nf : Int) from by (first | exact om_cbf4821a2053 hdn.1 | omega)) (show (Z.nf : Int) ≤ 400 from by (first | exact om_16a0bbaa0b2a hdn.2 | omega))) w1180 w1182 w43 w171 w1183 rfl xgMachine hdV_yX5_push ⟨Nat.le_of_ble_eq_true rfl, Nat.le_of_ble_eq_true rfl⟩ rfl hl.1 rfl (Nat.le_of_ble_eq_true rfl) dX5_pushWork_18 ⟨z1 zoZ.1, z1 zoZ.2.1⟩) hD hS hA (fun u12 H locs w13 hP hD hK hS y14 y15 => ?_)
  obtain ⟨V16, L17, Z18, f19⟩ := u12
  obtain ⟨hMV16, ajV16, axL17, zlZ18, ilf19, t20, t21, t22, t23, t24, t25⟩ := w13
  have axL17 : L = L17 := Eq.symm axL17
  subst axL17
  have hP : va_P D vwCl (xw ad kk V16 L Z18) H := hP
  have hD : va_D A (xw ad kk V16 L Z18) := hD
  have hK : va_K D vwCl (xty kk Z18) s := hK
  have hMV16 : rgd bX V16 := hMV16
  have ajV16 : agr [(5, 6), (5, 9)] [67, 68, 69, 70, 71, 72, 73, 74, 75, 76, 77, 78, 79, 80, 81, 82, 83, 84, 85] V V16 := ajV16
  have agV16 : agr [(5, 6), (5, 9)] [67, 68, 69, 70, 71, 72, 73, 74, 75, 76, 77, 78, 79, 80, 81, 82, 83, 84, 85] V V16 := agV.tr ajV16 (by decide) (by decide)
  have zlZ18 : ZL Z Z18 := zlZ18
  have zoZ18 : ZL Z Z18 := ZL.tr zoZ zlZ18
  have ziZ18 := zlZ18.1
  have zjZ18 := zlZ18.2.1
  have zkZ18 := zlZ18.2.2.1
  have zmZ18 := zoZ18.1
  have znZ18 := zoZ18.2.1
  have zpZ_Z18 := zoZ.1
  have zqZ_Z18 := zoZ.2.1
  have y14 : H.size ≤ Hk8.size + (zcc Z - zcc Z18) := by rw [hHk8]; exact y14
  have y15 : tot H ≤ tot Hk8 + (zss Z - zss Z18) := by rw [hHk8]; exact y15
  refine W.tight (k := zcc Z - zcc Z18) (n := zss Z - zss Z18) (by first | exact tg9 y14 k9 zlZ18.1 zoZ.1 | omega) (by first | exact tg9 y15 k10 zlZ18.2.1 zoZ.2.1 | omega) ?_
  have hl : lv_has ls 5 [(0, .ref (ad 5)), (1, .ref (Z18.fa gf)), (2, .int p1), (3, .int p2)] := by rw [zlZ18.2.2.2.2 gf hgf]; exact hl
  have ilf19 : f19 < Z18.nf := ilf19
  have t20 : ME V V16 f19 := t20
  have t21 : V16 67 f19 = 4 ∧ V16 68 f19 = 0 ∧ V16 70 f19 = (V 70 gf) ∧ V16 71 f19 = (V 71 gf) ∧ V16 75 f19 = 0 ∧ V16 76 f19 = 0 := t21
  have t22 : (f19 : Int) + 1 = (V16 5 6).toInt := t22
  have t23 : (f19 : Int) ≤ (V 5 6).toInt ∧ (V 5 6).toInt ≤ (f19 : Int) + 1 := t23
  have t24 : (V16 5 9).toInt = 0 := t24
  have t25 : Z18.ln = Z.ln ∧ Z18.nf ≤ 400 := t25
  have r26 : 0 ≤ ((V16 5 6)).toInt ∧ ((V16 5 6)).toInt ≤ 400 := hMV16 5 6
  have r27 : 0 ≤ ((V16 5 9)).toInt ∧ ((V16 5 9)).toInt ≤ 3 := hMV16 5 9
  have pr28 : (V16 67 f19).toInt = 4 := (congrArg Int32.toInt t21.1).trans (by decide)
  have pr29 : (V16 68 f19).toInt = 0 := (congrArg Int32.toInt t21.2.1).trans (by decide)
  have pr30 : (V16 70 f19).toInt = ((V 70 gf)).toInt := (congrArg Int32.toInt t21.2.2.1)
  have pr31 : (V16 71 f19).toInt = ((V 71 gf)).toInt := (congrArg Int32.toInt t21.2.2.2.1)
  have pr32 : (V16 75 f19).toInt = 0 := (congrArg Int32.toInt t21.2.2.2.2.1).trans (by decide)
  have pr33 : (V16 76 f19).toInt = 0 := (congrArg Int32.toInt t21.2.2.2.2.2).trans (by decide)
  refine lv_astore (lv' := [(4, .ref (Z18.fa f19)), (0, .ref (ad 5)), (1, .ref (Z18.fa gf)), (2, .int p1), (3, .int p2)]) hx hb dX5_pushWork_21 hl (by decide) rfl (fun ls hl => ?_)
  refine lv_aload hx hb dX5_pushWork_23 (lv_at hl 0 rfl) ?_
  refine lv_aload_n hx hb dX5_pushWork_25 rfl (lv_at hl 2 rfl) ?_
  have il34 : gf < Z18.nf := by omega
  refine va_getN (D := D) (ci := 4) (v := .int (V16 73 gf)) (fs := (xfFrame V16 gf)) (C := RX4) (T := TX4) (N := 19) hx hb hg inX4 hown hK hP (336 + gf) (xgFrame il34) rfl 6 (by decide) (hnw.use 1195 n1195 rfl) (fun _ h9 => h9) rfl dX5_pushWork_26 ?_
  have r35 : 0 ≤ ((V16 73 gf)).toInt ∧ ((V16 73 gf)).toInt ≤ 19 := hMV16 73 gf
  refine va_putN (D := D) (ci := 4) (v := .int (V16 73 gf)) (ty := tyX4 6) (fs := (xfFrame V16 f19)) (C := RX4) (T := TX4) (N := 19) hx hb hg inX4 tyX4 tyX4_ok nmX4 hown hK hP hD hS (336 + f19) (xgFrame ilf19) rfl 6 (by decide) (hnw.use 1195 n1195 rfl) (fun _ h9 => h9) rfl (tyX4_ok 6 (by decide)) rfl rfl (Nat.le_of_ble_eq_true rfl) dX5_pushWork_29 (fun H locs hP hD hS => ?_)
  obtain ⟨V36, hV36⟩ : ∃ z, z = up2 V16 73 f19 (V16 73 gf) := ⟨_, rfl⟩
  have ew37 : (xw ad kk V16 L Z18).set (336 + f19) ((Z18.fa f19), .inr (4, (xfFrame V16 f19).set 6 (.int (V16 73 gf)))) = xw ad kk V36 L Z18 := by rw [hV36]; exact xpFrame_method ilf19
  have hP : va_P D vwCl (xw ad kk V36 L Z18) H := by rw [← ew37]; exact hP
  have hD : va_D A (xw ad kk V36 L Z18) := by rw [← ew37]; exact hD
  have hMV36 : rgd bX V36 := hMV16.put hV36 (show 0 ≤ ((V16 73 gf)).toInt ∧ ((V16 73 gf)).toInt ≤ 19 from by (first | exact om_0916ac166aa8 r35.1 r35.2 | omega))
  have agV36 : agr [(5, 6), (5, 9)] [67, 68, 69, 70, 71, 72, 73, 74, 75, 76, 77, 78, 79, 80, 81, 82, 83, 84, 85] V V36 := agV16.up hV36 rfl
  refine lv_aload hx hb dX5_pushWork_32 (lv_at hl 0 rfl) ?_
  refine lv_iload_n hx hb dX5_pushWork_34 rfl (lv_at hl 4 rfl) ?_
  refine va_putN (D := D) (ci := 4) (v := .int p2) (ty := tyX4 7) (fs := (xfFrame V36 f19)) (C := RX4) (T := TX4) (N := 19) hx hb hg inX4 tyX4 tyX4_ok nmX4 hown hK hP hD hS (336 + f19) (xgFrame ilf19) rfl 7 (by decide) (hnw.use 1196 n1196 rfl) (fun _ h9 => h9) rfl (tyX4_ok 7 (by decide)) rfl rfl (Nat.le_of_ble_eq_true rfl) dX5_pushWork_35 (fun H locs hP hD hS => ?_)
  obtain ⟨V38, hV38⟩ : ∃ z, z = up2 V36 74 f19 p2 := ⟨_, rfl⟩
  have ew39 : (xw ad kk V36 L Z18).set (336 + f19) ((Z18.fa f19), .inr (4, (xfFrame V36 f19).set 7 (.int p2))) = xw ad kk V38 L Z18 := by rw [hV38]; exact xpFrame_arg ilf19
  have hP : va_P D vwCl (xw ad kk V38 L Z18) H := by rw [← ew39]; exact hP
  have hD : va_D A (xw ad kk V38 L Z18) := by rw [← ew39]; exact hD
  have hMV38 : rgd bX V38 := hMV36.put hV38 (i_full _)
  have agV38 : agr [(5, 6), (5, 9)] [67, 68, 69, 70, 71, 72, 73, 74, 75, 76, 77, 78, 79, 80, 81, 82, 83, 84, 85] V V38 := agV36.up hV38 rfl
  refine lv_aload hx hb dX5_pushWork_38 (lv_at hl 0 rfl) ?_
  refine lv_iload_n hx hb dX5_pushWork_40 rfl (lv_at hl 3 rfl) ?_
  refine va_putN (D := D) (ci := 4) (v := .int p1) (ty := tyX4 17) (fs := (xfFrame V38 f19)) (C := RX4) (T := TX4) (N := 19) hx hb hg inX4 tyX4 tyX4_ok nmX4 hown hK hP hD hS (336 + f19) (xgFrame ilf19) rfl 17 (by decide) (hnw.use 1206 n1206 rfl) (fun _ h9 => h9) rfl (tyX4_ok 17 (by decide)) rfl rfl (Nat.le_of_ble_eq_true rfl) dX5_pushWork_41 (fun H locs hP hD hS => ?_)
  obtain ⟨V40, hV40⟩ : ∃ z, z = up2 V38 84 f19 p1 := ⟨_, rfl⟩
  have ew41 : (xw ad kk V38 L Z18).set (336 + f19) ((Z18.fa f19), .inr (4, (xfFrame V38 f19).set 17 (.int p1))) = xw ad kk V40 L Z18 := by rw [hV40]; exact xpFrame_at ilf19
  have hP : va_P D vwCl (xw ad kk V40 L Z18) H := by rw [← ew41]; exact hP
  have hD : va_D A (xw ad kk V40 L Z18) := by rw [← ew41]; exact hD
  have hMV40 : rgd bX V40 := hMV38.put hV40 (show 0 ≤ p1.toInt ∧ p1.toInt ≤ 2147483647 from by (first | exact om_1ef0cfc3b2d2 rg_p1.1 rg_p1.2 | omega))
  have agV40 : agr [(5, 6), (5, 9)] [67, 68, 69, 70, 71, 72, 73, 74, 75, 76, 77, 78, 79, 80, 81, 82, 83, 84, 85] V V40 := agV38.up hV40 rfl
  refine lv_aload hx hb dX5_pushWork_44 (lv_at hl 0 rfl) ?_
  refine lv_aload_n hx hb dX5_pushWork_46 rfl (lv_at hl 1 rfl) ?_
  refine va_get (D := D) (ci := 5) (v := .int (V40 5 7)) (fs := (xfMachine ad V40 L Z18)) (C := RX5) (T := TX5) (N := 15) hx hb hg inX5 hown hK hP 5 xgMachine rfl 7 (by decide) (hg _ w674) (fun _ h9 => h9) rfl dX5_pushWork_47 ?_
  refine g_top (v := (V 5 7)) ((up2_o hV40 (by decide)).trans ((up2_o hV38 (by decide)).trans ((up2_o hV36 (by decide)).trans (ajV16 5 7 rfl)))) ?_
  have r42 : 0 ≤ ((V 5 7)).toInt ∧ ((V 5 7)).toInt ≤ 2048 := hMV 5 7
  refine va_putN (D := D) (ci := 4) (v := .int (V 5 7)) (ty := tyX4 18) (fs := (xfFrame V40 f19)) (C := RX4) (T := TX4) (N := 19) hx hb hg inX4 tyX4 tyX4_ok nmX4 hown hK hP hD hS (336 + f19) (xgFrame ilf19) rfl 18 (by decide) (hnw.use 1207 n1207 rfl) (fun _ h9 => h9) rfl (tyX4_ok 18 (by decide)) rfl rfl (Nat.le_of_ble_eq_true rfl) dX5_pushWork_50 (fun H locs hP hD hS => ?_)
  obtain ⟨V43, hV43⟩ : ∃ z, z = up2 V40 85 f19 (V 5 7) := ⟨_, rfl⟩
  have ew44 : (xw ad kk V40 L Z18).set (336 + f19) ((Z18.fa f19), .inr (4, (xfFrame V40 f19).set 18 (.int (V 5 7)))) = xw ad kk V43 L Z18 := by rw [hV43]; exact xpFrame_base ilf19
  have hP : va_P D vwCl (xw ad kk V43 L Z18) H := by rw [← ew44]; exact hP
  have hD : va_D A (xw ad kk V43 L Z18) := by rw [← ew44]; exact hD
  have hMV43 : rgd bX V43 := hMV40.put hV43 (show 0 ≤ ((V 5 7)).toInt ∧ ((V 5 7)).toInt ≤ 2048 from by (first | exact om_01b7a0d43c7e r42.1 r42.2 | omega))
  have agV43 : agr [(5, 6), (5, 9)] [67, 68, 69, 70, 71, 72, 73, 74, 75, 76, 77, 78, 79, 80, 81, 82, 83, 84, 85] V V43 := agV40.up hV43 rfl
  refine lv_aload hx hb dX5_pushWork_53 (lv_at hl 0 rfl) ?_
  have pq45 : (V43 5 6).toInt = ((V16 5 6)).toInt := congrArg Int32.toInt ((up2_o hV43 (by decide)).trans ((up2_o hV40 (by decide)).trans ((up2_o hV38 (by decide)).trans (up2_o hV36 (by decide)))))
  have pq46 : (V43 5 9).toInt = ((V16 5 9)).toInt := congrArg Int32.toInt ((up2_o hV43 (by decide)).trans ((up2_o hV40 (by decide)).trans ((up2_o hV38 (by decide)).trans (up2_o hV36 (by decide)))))
  have me47 : ME V V43 f19 := (ME.up (ME.up (ME.up (ME.up (ME.tr ME.rf t20) hV36 (Or.inl ⟨by decide, by decide, Nat.le_refl _⟩)) hV38 (Or.inl ⟨by decide, by decide, Nat.le_refl _⟩)) hV40 (Or.inl ⟨by decide, by decide, Nat.le_refl _⟩)) hV43 (Or.inl ⟨by decide, by decide, Nat.le_refl _⟩))
  have pq48 : (V43 67 f19).toInt = ((V16 67 f19)).toInt := congrArg Int32.toInt ((up2_o hV43 (by decide)).trans ((up2_o hV40 (by decide)).trans ((up2_o hV38 (by decide)).trans (up2_o hV36 (by decide)))))
  have pq49 : (V43 68 f19).toInt = ((V16 68 f19)).toInt := congrArg Int32.toInt ((up2_o hV43 (by decide)).trans ((up2_o hV40 (by decide)).trans ((up2_o hV38 (by decide)).trans (up2_o hV36 (by decide)))))
  have pq50 : (V43 70 f19).toInt = ((V16 70 f19)).toInt := congrArg Int32.toInt ((up2_o hV43 (by decide)).trans ((up2_o hV40 (by decide)).trans ((up2_o hV38 (by decide)).trans (up2_o hV36 (by decide)))))
  have pq51 : (V43 71 f19).toInt = ((V16 71 f19)).toInt := congrArg Int32.toInt ((up2_o hV43 (by decide)).trans ((up2_o hV40 (by decide)).trans ((up2_o hV38 (by decide)).trans (up2_o hV36 (by decide)))))
  have r52 : (-1) ≤ ((V16 71 f19)).toInt ∧ ((V16 71 f19)).toInt ≤ 23 := hMV16 71 f19
  have pq53 : (V43 75 f19).toInt = ((V16 75 f19)).toInt := congrArg Int32.toInt ((up2_o hV43 (by decide)).trans ((up2_o hV40 (by decide)).trans ((up2_o hV38 (by decide)).trans (up2_o hV36 (by decide)))))
  have r54 : 0 ≤ ((V16 75 f19)).toInt ∧ ((V16 75 f19)).toInt ≤ 12 := hMV16 75 f19
  have pq55 : (V43 76 f19).toInt = ((V16 76 f19)).toInt := congrArg Int32.toInt ((up2_o hV43 (by decide)).trans ((up2_o hV40 (by decide)).trans ((up2_o hV38 (by decide)).trans (up2_o hV36 (by decide)))))
  have pq56 : (V43 80 f19).toInt = ((V16 80 f19)).toInt := congrArg Int32.toInt ((up2_o hV43 (by decide)).trans ((up2_o hV40 (by decide)).trans ((up2_o hV38 (by decide)).trans (up2_o hV36 (by decide)))))
  have r57 : 0 ≤ ((V16 80 f19)).toInt ∧ ((V16 80 f19)).toInt ≤ 300 := hMV16 80 f19
  have pq58 : (V43 84 f19).toInt = p1.toInt := congrArg Int32.toInt ((up2_o hV43 (by decide)).trans (up2_s hV40))
  have pq59 : (V43 5 8).toInt = ((V 5 8)).toInt := congrArg Int32.toInt ((up2_o hV43 (by decide)).trans ((up2_o hV40 (by decide)).trans ((up2_o hV38 (by decide)).trans ((up2_o hV36 (by decide)).trans (ajV16 5 8 rfl)))))
  have r60 : 0 ≤ ((V 5 8)).toInt ∧ ((V 5 8)).toInt ≤ 300 := hMV 5 8
  have pq61 : (V43 3 13).toInt = ((V 3 13)).toInt := congrArg Int32.toInt ((up2_o hV43 (by decide)).trans ((up2_o hV40 (by decide)).trans ((up2_o hV38 (by decide)).trans ((up2_o hV36 (by decide)).trans (ajV16 3 13 rfl)))))
  have pq62 : (V43 43 (5 * b + 2)).toInt = ((V 43 (5 * b + 2))).toInt := congrArg Int32.toInt ((up2_o hV43 (by decide)).trans ((up2_o hV40 (by decide)).trans ((up2_o hV38 (by decide)).trans ((up2_o hV36 (by decide)).trans (ajV16 43 (5 * b + 2) rfl)))))
  have pq63 : (V43 42 b).toInt = ((V 42 b)).toInt := congrArg Int32.toInt ((up2_o hV43 (by decide)).trans ((up2_o hV40 (by decide)).trans ((up2_o hV38 (by decide)).trans ((up2_o hV36 (by decide)).trans (ajV16 42 b rfl)))))
  have r64 : 0 ≤ ((V 42 b)).toInt ∧ ((V 42 b)).toInt ≤ 8200 := hMV 42 b
  have pq65 : (V43 41 b).toInt = ((V 41 b)).toInt := congrArg Int32.toInt ((up2_o hV43 (by decide)).trans ((up2_o hV40 (by decide)).trans ((up2_o hV38 (by decide)).trans ((up2_o hV36 (by decide)).trans (ajV16 41 b rfl)))))
  have r66 : 0 ≤ ((V 41 b)).toInt ∧ ((V 41 b)).toInt ≤ 12 := hMV 41 b
  have me67 : ME V V43 0 := (ME.up (ME.up (ME.up (ME.up (ME.tr ME.rf (ME.lo t20 (by omega))) hV36 (Or.inl ⟨by decide, by decide, by omega⟩)) hV38 (Or.inl ⟨by decide, by decide, by omega⟩)) hV40 (Or.inl ⟨by decide, by decide, by omega⟩)) hV43 (Or.inl ⟨by decide, by decide, by omega⟩))
  have af68 : (V43 42 b).toInt ≤ (V43 84 f19).toInt ∨ (bdp V43 b (V43 84 f19).toInt.toNat).1 = true := by rw [((up2_o hV43 (by decide)).trans (up2_s hV40)), me67.1.bd, me67.1 42 b (by decide) (by decide)]; exact hat
  have rp69 : MJ V43 Z18 b := MT.pu (v := False) mt (by omega) me47 t25.1 (by omega) t25.2 (FK.k4 (by omega) (by omega) (by omega) af68 (by omega) (fun h => absurd h (by omega))) (fun h => absurd h (by omega)) (by omega) (by omega)
  have rp70 : (V43 67 f19).toInt = 4 ∧ (V43 68 f19).toInt = 0 := ⟨by omega, by omega⟩
  refine W.know (fun kr1 kr2 => ?_)
  refine W.widen (k := zcc Z) (n := zss Z) (Nat.sub_le _ _) (Nat.sub_le _ _) ?_
  exact W.aret (v := .ref (Z18.fa f19)) hx hb hr (Or.inl ⟨_, rfl⟩) (Or.inr ⟨_, rfl⟩) (fun t ht hW => ⟨⟨(V43, L, Z18, f19), rfl, ⟨hMV43, agV43, rfl, zoZ18, ilf19, rp69, (show (f19 : Int) + 1 = (V43 5 6).toInt from by omega), rp70, (show (V43 5 9).toInt = 0 from by (first | exact om_36161e850215 t24 pq46 | omega))⟩, ⟨by rw [ht]; exact hP, va_K.moved hW.alike hK, hD⟩, by rw [ht]; exact kr1, by rw [ht]; exact kr2⟩, hS.F ht⟩) hS.2.2 dX5_pushWork_55
abbrev r_x_pushInside (Z : XZ) : Room := { frames := 3, cells := zcc Z, slots := zss Z, locals := 66 }
abbrev q_x_pushInside (D : va_G) (ks : KS) (ad : Nat → Nat) (kk : Nat → ClassId) (V : Vf) (L : Lf) (Z : XZ) (p1 : Int32) (p2 : Int32) (b : Nat) (gf : Nat) (A : Nat → Prop) : Array Value → State → Outcome → State → Prop := qZv D (fun (u : Vf × Lf × XZ) => rgd bX u.1 ∧ agr [(5, 6), (5, 9)] [67, 68, 69, 70, 71, 72, 73, 74, 75, 76, 77, 78, 79, 80, 81, 82, 83, 84, 85] V u.1 ∧ u.2.1 = L ∧ ZL Z u.2.2 ∧ (MJ u.1 u.2.2 b)) (fun u => xw ad kk u.1 u.2.1 u.2.2) (fun u => xty kk u.2.2) (fun u => zcc Z - zcc u.2.2) (fun u => zss Z - zss u.2.2) A
set_option maxHeartbeats 4000000 in
set_option maxRecDepth 100000 in
theorem x_pushInside (l : Launch) (D : va_G) (ks : KS) (sz : Nat) (ad : Nat → Nat) (kk : Nat → ClassId) (V : Vf) (L : Lf) (Z : XZ) (p1 : Int32) (p2 : Int32) (b : Nat) (gf : Nat) (hMV : rgd bX V) (rg_p1 : 0 ≤ p1.toInt ∧ p1.toInt ≤ 12) (hb2 : b < 2) (hgf : gf < Z.nf) (mt : MT V Z b) (hcm : 0 ≤ (V 71 gf).toInt ∧ (V 71 gf).toInt < (V 43 (5 * b + 2)).toInt) (hob : 0 ≤ (V 70 gf).toInt ∧ (V 70 gf).toInt < (V 3 13).toInt)  : Met l yX5_pushInside (Cond.code yX5_pushInside cX5_pushInside 5 none :: GW) (r_x_pushInside Z) (va_Pc [.ref (ad 5), .ref (Z.fa gf), .int p1, .int p2] (gp D ks (xw ad kk V L Z) (xty kk Z) sz)) (q_x_pushInside D ks ad kk V L Z p1 p2 b gf (va_A (xw ad kk V L Z) sz)) (zcc Z) (zss Z) (va_A (xw ad kk V L Z) sz) := by
  refine g_met (q_x_pushInside D ks ad kk V L Z p1 p2 b gf) (by decide) (Nat.le_of_ble_eq_true rfl) ?_
  intro p e s m below meth c A ls H locs hx hb hr hml hown hg hlocks hin hnw hgk hP hK hD hS hA hl
  have hown : s.vm.findClass RX5 = some m.cls := hown
  have hl : lv_has ls 5 [(0, .ref (ad 5)), (1, .ref (Z.fa gf)), (2, .int p1), (3, .int p2)] := hl
  have hP : va_P D vwCl (xw ad kk V L Z) H := hP
  have hD : va_D A (xw ad kk V L Z) := hD
  have hK : va_K D vwCl (xty kk Z) s := hK
  have agV : agr [(5, 6), (5, 9)] [67, 68, 69, 70, 71, 72, 73, 74, 75, 76, 77, 78, 79, 80, 81, 82, 83, 84, 85] V V := agr.rf
  have zoZ : ZL Z Z := ZL.rf
  refine W.know (fun ka kb => ?_)
  refine W.tight (k := zcc Z - zcc Z) (n := zss Z - zss Z) (by omega) (by omega) ?_
  have r1 : (-1) ≤ ((V 71 gf)).toInt ∧ ((V 71 gf)).toInt ≤ 23 := hMV 71 gf
  have r2 : 0 ≤ ((V 43 (5 * b + 2))).toInt ∧ ((V 43 (5 * b + 2))).toInt ≤ ((xcap (5 * b + 2) : Nat) : Int) := hMV 43 (5 * b + 2)
  have r3 : xcap (5 * b + 2) = 24 := xcap_2
  have r4 : 0 ≤ ((V 3 13)).toInt ∧ ((V 3 13)).toInt ≤ 300 := hMV 3 13
  have r5 : 0 ≤ ((V 5 6)).toInt ∧ ((V 5 6)).toInt ≤ 400 := hMV 5 6
  have kdp := i_clamp (x := V 5 6) rfl (by (first | exact om_eafa9039069c r5.1 | omega))
  have hdn := MT.dn mt (by (first | exact om_eafa9039069c r5.1 | omega))
  have mup := MT.up mt
  have msz := mup.1
  have mbk := mup.2.2.2.1
  refine lv_aload_n hx hb dX5_pushInside_0 rfl (lv_at hl 0 rfl) ?_
  refine lv_iconst (v := 3) hx hb dX5_pushInside_1 (by decide) ?_
  refine lv_aload_n hx hb dX5_pushInside_2 rfl (lv_at hl 1 rfl) ?_
  refine va_getN (D := D) (ci := 4) (v := .int (V 69 gf)) (fs := (xfFrame V gf)) (C := RX4) (T := TX4) (N := 19) hx hb hg inX4 hown hK hP (336 + gf) (xgFrame hgf) rfl 2 (by decide) (hnw.use 1191 n1191 rfl) (fun _ h9 => h9) rfl dX5_pushInside_3 ?_
  refine lv_aload_n hx hb dX5_pushInside_6 rfl (lv_at hl 1 rfl) ?_
  refine va_getN (D := D) (ci := 4) (v := .int (V 70 gf)) (fs := (xfFrame V gf)) (C := RX4) (T := TX4) (N := 19) hx hb hg inX4 hown hK hP (336 + gf) (xgFrame hgf) rfl 3 (by decide) (hnw.use 1192 n1192 rfl) (fun _ h9 => h9) rfl dX5_pushInside_7 ?_
  refine lv_aload_n hx hb dX5_pushInside_10 rfl (lv_at hl 1 rfl) ?_
  refine va_getN (D := D) (ci := 4) (v := .int (V 71 gf)) (fs := (xfFrame V gf)) (C := RX4) (T := TX4) (N := 19) hx hb hg inX4 hown hK hP (336 + gf) (xgFrame hgf) rfl 4 (by decide) (hnw.use 1193 n1193 rfl) (fun _ h9 => h9) rfl dX5_pushInside_11 ?_
  refine lv_aload_n hx hb dX5_pushInside_14 rfl (lv_at hl 1 rfl) ?_
  refine va_getN (D := D) (ci := 4) (v := .int (V 72 gf)) (fs := (xfFrame V gf)) (C := RX4) (T := TX4) (N := 19) hx hb hg inX4 hown hK hP (336 + gf) (xgFrame hgf) rfl 5 (by decide) (hnw.use 1194 n1194 rfl) (fun _ h9 => h9) rfl dX5_pushInside_15 ?_
  have r6 : 0 ≤ ((V 72 gf)).toInt ∧ ((V 72 gf)).toInt ≤ 39 := hMV 72 gf
  have r7 : Int32.toInt 3 = 3 := by decide
  refine W.know (fun k9 k10 => ?_)
  obtain ⟨Hk8, hHk8⟩ : ∃ z, z = H := ⟨_, rfl⟩
  have k9 : Hk8.size ≤ s.heap.size + (zcc Z - zcc Z) := by rw [hHk8]; exact k9
  have k10 : tot Hk8 ≤ tot s.heap + (zss Z - zss Z) := by rw [hHk8]; exact k10
  refine gZ_ref (gA_runV (As := [.int 3, .int (V 69 gf), .int (V 70 gf), .int (V 71 gf), .int (V 72 gf)]) (rest := []) (ci := 5) (q0 := 5) hx hb hml hown hg hP hD hK hS hA hnw hgk (x_push l D ks H.size ad kk V L Z 3 (V 69 gf) (V 70 gf) (V 71 gf) (V 72 gf) hMV (by (first | exact om_f52419b73d7d hcm.1 r1.2 | omega)) (by (first | exact om_13ba01c174fe r6.1 r6.2 | omega)) (show (V 5 6).toInt ≤ (Z.nf : Int) from by (first | exact om_cbf4821a2053 hdn.1 | omega)) (show (Z.nf : Int) ≤ 400 from by (first | exact om_16a0bbaa0b2a hdn.2 | omega))) w1180 w1182 w43 w171 w1183 rfl xgMachine hdV_yX5_push ⟨Nat.le_of_ble_eq_true rfl, Nat.le_of_ble_eq_true rfl⟩ rfl hl.1 rfl (Nat.le_of_ble_eq_true rfl) dX5_pushInside_18 ⟨z1 zoZ.1, z1 zoZ.2.1⟩) hD hS hA (fun u12 H locs w13 hP hD hK hS y14 y15 => ?_)
  obtain ⟨V16, L17, Z18, f19⟩ := u12
  obtain ⟨hMV16, ajV16, axL17, zlZ18, ilf19, t20, t21, t22, t23, t24, t25⟩ := w13
  have axL17 : L = L17 := Eq.symm axL17
  subst axL17
  have hP : va_P D vwCl (xw ad kk V16 L Z18) H := hP
  have hD : va_D A (xw ad kk V16 L Z18) := hD
  have hK : va_K D vwCl (xty kk Z18) s := hK
  have hMV16 : rgd bX V16 := hMV16
  have ajV16 : agr [(5, 6), (5, 9)] [67, 68, 69, 70, 71, 72, 73, 74, 75, 76, 77, 78, 79, 80, 81, 82, 83, 84, 85] V V16 := ajV16
  have agV16 : agr [(5, 6), (5, 9)] [67, 68, 69, 70, 71, 72, 73, 74, 75, 76, 77, 78, 79, 80, 81, 82, 83, 84, 85] V V16 := agV.tr ajV16 (by decide) (by decide)
  have zlZ18 : ZL Z Z18 := zlZ18
  have zoZ18 : ZL Z Z18 := ZL.tr zoZ zlZ18
  have ziZ18 := zlZ18.1
  have zjZ18 := zlZ18.2.1
  have zkZ18 := zlZ18.2.2.1
  have zmZ18 := zoZ18.1
  have znZ18 := zoZ18.2.1
  have zpZ_Z18 := zoZ.1
  have zqZ_Z18 := zoZ.2.1
  have y14 : H.size ≤ Hk8.size + (zcc Z - zcc Z18) := by rw [hHk8]; exact y14
  have y15 : tot H ≤ tot Hk8 + (zss Z - zss Z18) := by rw [hHk8]; exact y15
  refine W.tight (k := zcc Z - zcc Z18) (n := zss Z - zss Z18) (by first | exact tg9 y14 k9 zlZ18.1 zoZ.1 | omega) (by first | exact tg9 y15 k10 zlZ18.2.1 zoZ.2.1 | omega) ?_
  have hl : lv_has ls 5 [(0, .ref (ad 5)), (1, .ref (Z18.fa gf)), (2, .int p1), (3, .int p2)] := by rw [zlZ18.2.2.2.2 gf hgf]; exact hl
  have ilf19 : f19 < Z18.nf := ilf19
  have t20 : ME V V16 f19 := t20
  have t21 : V16 67 f19 = 3 ∧ V16 68 f19 = 0 ∧ V16 70 f19 = (V 70 gf) ∧ V16 71 f19 = (V 71 gf) ∧ V16 75 f19 = 0 ∧ V16 76 f19 = 0 := t21
  have t22 : (f19 : Int) + 1 = (V16 5 6).toInt := t22
  have t23 : (f19 : Int) ≤ (V 5 6).toInt ∧ (V 5 6).toInt ≤ (f19 : Int) + 1 := t23
  have t24 : (V16 5 9).toInt = 0 := t24
  have t25 : Z18.ln = Z.ln ∧ Z18.nf ≤ 400 := t25
  have r26 : 0 ≤ ((V16 5 6)).toInt ∧ ((V16 5 6)).toInt ≤ 400 := hMV16 5 6
  have r27 : 0 ≤ ((V16 5 9)).toInt ∧ ((V16 5 9)).toInt ≤ 3 := hMV16 5 9
  have pr28 : (V16 67 f19).toInt = 3 := (congrArg Int32.toInt t21.1).trans (by decide)
  have pr29 : (V16 68 f19).toInt = 0 := (congrArg Int32.toInt t21.2.1).trans (by decide)
  have pr30 : (V16 70 f19).toInt = ((V 70 gf)).toInt := (congrArg Int32.toInt t21.2.2.1)
  have pr31 : (V16 71 f19).toInt = ((V 71 gf)).toInt := (congrArg Int32.toInt t21.2.2.2.1)
  have pr32 : (V16 75 f19).toInt = 0 := (congrArg Int32.toInt t21.2.2.2.2.1).trans (by decide)
  have pr33 : (V16 76 f19).toInt = 0 := (congrArg Int32.toInt t21.2.2.2.2.2).trans (by decide)
  refine lv_astore (lv' := [(4, .ref (Z18.fa f19)), (0, .ref (ad 5)), (1, .ref (Z18.fa gf)), (2, .int p1), (3, .int p2)]) hx hb dX5_pushInside_21 hl (by decide) rfl (fun ls hl => ?_)
  refine lv_aload hx hb dX5_pushInside_23 (lv_at hl 0 rfl) ?_
  refine lv_aload_n hx hb dX5_pushInside_25 rfl (lv_at hl 2 rfl) ?_
  have il34 : gf < Z18.nf := by omega
  refine va_getN (D := D) (ci := 4) (v := .int (V16 73 gf)) (fs := (xfFrame V16 gf)) (C := RX4) (T := TX4) (N := 19) hx hb hg inX4 hown hK hP (336 + gf) (xgFrame il34) rfl 6 (by decide) (hnw.use 1195 n1195 rfl) (fun _ h9 => h9) rfl dX5_pushInside_26 ?_
  have r35 : 0 ≤ ((V16 73 gf)).toInt ∧ ((V16 73 gf)).toInt ≤ 19 := hMV16 73 gf
  refine va_putN (D := D) (ci := 4) (v := .int (V16 73 gf)) (ty := tyX4 6) (fs := (xfFrame V16 f19)) (C := RX4) (T := TX4) (N := 19) hx hb hg inX4 tyX4 tyX4_ok nmX4 hown hK hP hD hS (336 + f19) (xgFrame ilf19) rfl 6 (by decide) (hnw.use 1195 n1195 rfl) (fun _ h9 => h9) rfl (tyX4_ok 6 (by decide)) rfl rfl (Nat.le_of_ble_eq_true rfl) dX5_pushInside_29 (fun H locs hP hD hS => ?_)
  obtain ⟨V36, hV36⟩ : ∃ z, z = up2 V16 73 f19 (V16 73 gf) := ⟨_, rfl⟩
  have ew37 : (xw ad kk V16 L Z18).set (336 + f19) ((Z18.fa f19), .inr (4, (xfFrame V16 f19).set 6 (.int (V16 73 gf)))) = xw ad kk V36 L Z18 := by rw [hV36]; exact xpFrame_method ilf19
  have hP : va_P D vwCl (xw ad kk V36 L Z18) H := by rw [← ew37]; exact hP
  have hD : va_D A (xw ad kk V36 L Z18) := by rw [← ew37]; exact hD
  have hMV36 : rgd bX V36 := hMV16.put hV36 (show 0 ≤ ((V16 73 gf)).toInt ∧ ((V16 73 gf)).toInt ≤ 19 from by (first | exact om_0916ac166aa8 r35.1 r35.2 | omega))
  have agV36 : agr [(5, 6), (5, 9)] [67, 68, 69, 70, 71, 72, 73, 74, 75, 76, 77, 78, 79, 80, 81, 82, 83, 84, 85] V V36 := agV16.up hV36 rfl
  refine lv_aload hx hb dX5_pushInside_32 (lv_at hl 0 rfl) ?_
  refine lv_iload_n hx hb dX5_pushInside_34 rfl (lv_at hl 4 rfl) ?_
  refine va_putN (D := D) (ci := 4) (v := .int p2) (ty := tyX4 7) (fs := (xfFrame V36 f19)) (C := RX4) (T := TX4) (N := 19) hx hb hg inX4 tyX4 tyX4_ok nmX4 hown hK hP hD hS (336 + f19) (xgFrame ilf19) rfl 7 (by decide) (hnw.use 1196 n1196 rfl) (fun _ h9 => h9) rfl (tyX4_ok 7 (by decide)) rfl rfl (Nat.le_of_ble_eq_true rfl) dX5_pushInside_35 (fun H locs hP hD hS => ?_)
  obtain ⟨V38, hV38⟩ : ∃ z, z = up2 V36 74 f19 p2 := ⟨_, rfl⟩
  have ew39 : (xw ad kk V36 L Z18).set (336 + f19) ((Z18.fa f19), .inr (4, (xfFrame V36 f19).set 7 (.int p2))) = xw ad kk V38 L Z18 := by rw [hV38]; exact xpFrame_arg ilf19
  have hP : va_P D vwCl (xw ad kk V38 L Z18) H := by rw [← ew39]; exact hP
  have hD : va_D A (xw ad kk V38 L Z18) := by rw [← ew39]; exact hD
  have hMV38 : rgd bX V38 := hMV36.put hV38 (i_full _)
  have agV38 : agr [(5, 6), (5, 9)] [67, 68, 69, 70, 71, 72, 73, 74, 75, 76, 77, 78, 79, 80, 81, 82, 83, 84, 85] V V38 := agV36.up hV38 rfl
  refine lv_aload hx hb dX5_pushInside_38 (lv_at hl 0 rfl) ?_
  refine lv_iload_n hx hb dX5_pushInside_40 rfl (lv_at hl 3 rfl) ?_
  refine va_putN (D := D) (ci := 4) (v := .int p1) (ty := tyX4 8) (fs := (xfFrame V38 f19)) (C := RX4) (T := TX4) (N := 19) hx hb hg inX4 tyX4 tyX4_ok nmX4 hown hK hP hD hS (336 + f19) (xgFrame ilf19) rfl 8 (by decide) (hnw.use 1197 n1197 rfl) (fun _ h9 => h9) rfl (tyX4_ok 8 (by decide)) rfl rfl (Nat.le_of_ble_eq_true rfl) dX5_pushInside_41 (fun H locs hP hD hS => ?_)
  obtain ⟨V40, hV40⟩ : ∃ z, z = up2 V38 75 f19 p1 := ⟨_, rfl⟩
  have ew41 : (xw ad kk V38 L Z18).set (336 + f19) ((Z18.fa f19), .inr (4, (xfFrame V38 f19).set 8 (.int p1))) = xw ad kk V40 L Z18 := by rw [hV40]; exact xpFrame_position ilf19
  have hP : va_P D vwCl (xw ad kk V40 L Z18) H := by rw [← ew41]; exact hP
  have hD : va_D A (xw ad kk V40 L Z18) := by rw [← ew41]; exact hD
  have hMV40 : rgd bX V40 := hMV38.put hV40 (show 0 ≤ p1.toInt ∧ p1.toInt ≤ 12 from by (first | exact om_8dd06492493b rg_p1.1 rg_p1.2 | omega))
  have agV40 : agr [(5, 6), (5, 9)] [67, 68, 69, 70, 71, 72, 73, 74, 75, 76, 77, 78, 79, 80, 81, 82, 83, 84, 85] V V40 := agV38.up hV40 rfl
  have me42 : ME V V40 f19 := (ME.up (ME.up (ME.up (ME.tr ME.rf t20) hV36 (Or.inl ⟨by decide, by decide, Nat.le_refl _⟩)) hV38 (Or.inl ⟨by decide, by decide, Nat.le_refl _⟩)) hV40 (Or.inl ⟨by decide, by decide, Nat.le_refl _⟩))
  have pq43 : (V40 67 f19).toInt = ((V16 67 f19)).toInt := congrArg Int32.toInt ((up2_o hV40 (by decide)).trans ((up2_o hV38 (by decide)).trans (up2_o hV36 (by decide))))
  have pq44 : (V40 68 f19).toInt = ((V16 68 f19)).toInt := congrArg Int32.toInt ((up2_o hV40 (by decide)).trans ((up2_o hV38 (by decide)).trans (up2_o hV36 (by decide))))
  have pq45 : (V40 70 f19).toInt = ((V16 70 f19)).toInt := congrArg Int32.toInt ((up2_o hV40 (by decide)).trans ((up2_o hV38 (by decide)).trans (up2_o hV36 (by decide))))
  have pq46 : (V40 71 f19).toInt = ((V16 71 f19)).toInt := congrArg Int32.toInt ((up2_o hV40 (by decide)).trans ((up2_o hV38 (by decide)).trans (up2_o hV36 (by decide))))
  have r47 : (-1) ≤ ((V16 71 f19)).toInt ∧ ((V16 71 f19)).toInt ≤ 23 := hMV16 71 f19
  have pq48 : (V40 75 f19).toInt = p1.toInt := congrArg Int32.toInt (up2_s hV40)
  have pq49 : (V40 76 f19).toInt = ((V16 76 f19)).toInt := congrArg Int32.toInt ((up2_o hV40 (by decide)).trans ((up2_o hV38 (by decide)).trans (up2_o hV36 (by decide))))
  have pq50 : (V40 80 f19).toInt = ((V16 80 f19)).toInt := congrArg Int32.toInt ((up2_o hV40 (by decide)).trans ((up2_o hV38 (by decide)).trans (up2_o hV36 (by decide))))
  have r51 : 0 ≤ ((V16 80 f19)).toInt ∧ ((V16 80 f19)).toInt ≤ 300 := hMV16 80 f19
  have pq52 : (V40 84 f19).toInt = ((V16 84 f19)).toInt := congrArg Int32.toInt ((up2_o hV40 (by decide)).trans ((up2_o hV38 (by decide)).trans (up2_o hV36 (by decide))))
  have r53 : 0 ≤ ((V16 84 f19)).toInt ∧ ((V16 84 f19)).toInt ≤ 2147483647 := hMV16 84 f19
  have pq54 : (V40 5 6).toInt = ((V16 5 6)).toInt := congrArg Int32.toInt ((up2_o hV40 (by decide)).trans ((up2_o hV38 (by decide)).trans (up2_o hV36 (by decide))))
  have pq55 : (V40 5 8).toInt = ((V 5 8)).toInt := congrArg Int32.toInt ((up2_o hV40 (by decide)).trans ((up2_o hV38 (by decide)).trans ((up2_o hV36 (by decide)).trans (ajV16 5 8 rfl))))
  have r56 : 0 ≤ ((V 5 8)).toInt ∧ ((V 5 8)).toInt ≤ 300 := hMV 5 8
  have pq57 : (V40 5 9).toInt = ((V16 5 9)).toInt := congrArg Int32.toInt ((up2_o hV40 (by decide)).trans ((up2_o hV38 (by decide)).trans (up2_o hV36 (by decide))))
  have pq58 : (V40 3 13).toInt = ((V 3 13)).toInt := congrArg Int32.toInt ((up2_o hV40 (by decide)).trans ((up2_o hV38 (by decide)).trans ((up2_o hV36 (by decide)).trans (ajV16 3 13 rfl))))
  have pq59 : (V40 43 (5 * b + 2)).toInt = ((V 43 (5 * b + 2))).toInt := congrArg Int32.toInt ((up2_o hV40 (by decide)).trans ((up2_o hV38 (by decide)).trans ((up2_o hV36 (by decide)).trans (ajV16 43 (5 * b + 2) rfl))))
  have pq60 : (V40 42 b).toInt = ((V 42 b)).toInt := congrArg Int32.toInt ((up2_o hV40 (by decide)).trans ((up2_o hV38 (by decide)).trans ((up2_o hV36 (by decide)).trans (ajV16 42 b rfl))))
  have r61 : 0 ≤ ((V 42 b)).toInt ∧ ((V 42 b)).toInt ≤ 8200 := hMV 42 b
  have pq62 : (V40 41 b).toInt = ((V 41 b)).toInt := congrArg Int32.toInt ((up2_o hV40 (by decide)).trans ((up2_o hV38 (by decide)).trans ((up2_o hV36 (by decide)).trans (ajV16 41 b rfl))))
  have r63 : 0 ≤ ((V 41 b)).toInt ∧ ((V 41 b)).toInt ≤ 12 := hMV 41 b
  have rp64 : MJ V40 Z18 b := MT.pu (v := False) mt (by omega) me42 t25.1 (by omega) t25.2 (FK.k3 (by omega) (by omega) (by omega) (by omega)) (fun h => absurd h (by omega)) (by omega) (by omega)
  refine W.know (fun kr1 kr2 => ?_)
  refine W.widen (k := zcc Z) (n := zss Z) (Nat.sub_le _ _) (Nat.sub_le _ _) ?_
  exact W.vret hx hb hr (fun t ht hW => ⟨⟨(V40, L, Z18), rfl, ⟨hMV40, agV40, rfl, zoZ18, rp64⟩, ⟨by rw [ht]; exact hP, va_K.moved hW.alike hK, hD⟩, by rw [ht]; exact kr1, by rw [ht]; exact kr2⟩, hS.F ht⟩) hS.2.2 dX5_pushInside_44
end
section
/-- the last row gets a credit -/
theorem sm_last {g : Nat → Nat} (m : Nat) : ∀ n, sm (fun i => if i + 1 = m then g i + 1 else g i) n ≤ sm g n + (if m < n + 1 then 1 else 0)
  | 0 => Nat.zero_le _
  | n + 1 => by
    have ih := sm_last (g := g) m n
    show sm (fun i => if i + 1 = m then g i + 1 else g i) n + (if n + 1 = m then g n + 1 else g n) ≤ sm g n + g n + _
    by_cases h : n + 1 = m
    · rw [if_pos h, if_pos (by omega)]
      rw [if_neg (by omega)] at ih
      omega
    · rw [if_neg h]
      by_cases h2 : m < n + 1
      · rw [if_pos h2] at ih
        rw [if_pos (by omega)]
        omega
      · rw [if_neg h2] at ih
        rw [if_neg (by omega)]
        omega
theorem MI.lastb {V : Vf} {Z : XZ} {b n r : Nat} {g : Nat → Nat} {w v u : Prop} (h : MI V Z b g n r w v u) (hr : 1 ≤ r) : MI V Z b (fun i => if i + 1 = n then g i + 1 else g i) n (r - 1) w True u := by
  refine ⟨h.sl, h.nf, h.dn, h.sz, h.oc, h.md, h.mk2, ?_, h.o0, ?_, h.tx, h.cd, h.mb, h.ln, h.pt⟩
  · intro i hi
    show FK V b (if i + 1 = n then g i + 1 else g i) i (i + 1 < n ∨ w) (vI V n True u i)
    have f := h.fk i hi
    by_cases e : i + 1 = n
    · rw [if_pos e]
      have f2 := f.w (y := g i + 1) (w' := i + 1 < n ∨ w) (v' := False) id False.elim (Nat.le_succ _)
      exact ⟨f2.1, f2.2.1, f2.2.2.1, f2.2.2.2.1, f2.2.2.2.2.1, f2.2.2.2.2.2.1, f2.2.2.2.2.2.2.1, f2.2.2.2.2.2.2.2.1, f2.2.2.2.2.2.2.2.2.1, fun _ _ _ => Nat.succ_le_succ (Nat.zero_le _)⟩
    · rw [if_neg e]
      exact f.w id (fun z => z.elim Or.inl (fun a => absurd a.1 e)) (Nat.le_refl _)
  · have p := h.pot
    have s := sm_last (g := g) n n
    have : (if n < n + 1 then 1 else 0) = 1 := if_pos (by omega)
    omega
/-- fewer are held as made: the top frame is a root; what is left over may go to the one below -/
theorem MO.mcnt {V W : Vf} {Z : XZ} {b d : Nat} {w v u w' v' u' : Prop} {y : Int32} (h : MO V Z b d w v u) (hk : (V 67 d).toInt = 0) (e : W = up2 V 5 8 y) (h1 : (V 80 d).toInt ≤ y.toInt) (h2 : y.toInt ≤ (V 5 8).toInt) (h3 : 0 ≤ y.toInt) (q3 : u' → u ∨ y.toInt + 1 ≤ (V 5 8).toInt) : MO W Z b d w' v' u' := by
  obtain ⟨g, r, x, h0, hx, hF, hm⟩ := h
  have o : ∀ c k, ¬ (c = 5 ∧ k = 8) → W c k = V c k := fun c k q => by rw [e]; exact up2_pl q
  have e8 : W 5 8 = y := up2_s e
  have hB : BE V W := fun c k a1 a2 => o c k (by omega)
  have e43 : W 43 (5 * b + 2) = V 43 (5 * b + 2) := o _ _ (by omega)
  have e13 : W 3 13 = V 3 13 := o _ _ (by omega)
  have o0 := h0.o0
  have nf : FK W b x d w' v' := FK.k0 (by rw [o 67 d (by omega)]; exact hk) (by rw [o 80 d (by omega), e8]; exact h1)
  have key : MI W Z b g d (r + ((V 5 8).toInt - y.toInt).toNat) True ((V 67 d).toInt ≠ 0 ∨ u) True := by
    refine ⟨?_, h0.nf, h0.dn, by rw [e43]; exact h0.sz, ?_, ?_, ?_, ?_, by rw [e13, o 3 15 (by omega), e8]; exact ⟨o0.1, o0.2.1, h3⟩, ?_, h0.tx.be hB, h0.cd.be hB, by rw [o 5 5 (by omega)]; exact h0.mb, h0.ln, ?_⟩
    · unfold SL
      rw [o 3 15 (by omega), e13]
      exact ⟨h0.sl.1, h0.sl.2.1, fun o' k a1 a2 => by rw [o 30 _ (by omega)]; exact h0.sl.2.2.1 o' k a1 a2, fun i a1 => by rw [o 32 _ (by omega)]; exact h0.sl.2.2.2 i a1⟩
    · intro i hi
      rw [e13] at hi
      rw [o 26 _ (by omega), e43]
      exact h0.oc i hi
    · intro i hi
      rw [e8] at hi
      rw [o 40 _ (by omega), e13]
      exact h0.md i (by omega)
    · intro i j a1 a2
      rw [o 67 i (by omega), o 67 j (by omega), o 80 i (by omega), o 80 j (by omega)]
      exact h0.mk2 i j a1 a2
    · intro i hi
      have f := h0.fk i hi
      have ev : vI W d ((V 67 d).toInt ≠ 0 ∨ u) True i = vI V d ((V 67 d).toInt ≠ 0 ∨ u) True i := by unfold vI; rw [o 67 (d - 1) (by omega)]
      rw [ev]
      unfold FK at f ⊢
      rw [o 67 i (by omega), o 68 i (by omega), o 70 i (by omega), o 71 i (by omega), o 75 i (by omega), o 76 i (by omega), o 80 i (by omega), o 84 i (by omega), e43, o 42 b (by omega), o 41 b (by omega), e13, hB.bd, e8]
      refine ⟨f.1, f.2.1, f.2.2.1, f.2.2.2.1, f.2.2.2.2.1, f.2.2.2.2.2.1, fun k => ?_, f.2.2.2.2.2.2.2⟩
      have := hm hk i hi k
      omega
    · have p := h0.pot
      rw [o 3 15 (by omega), e13, e8, o 44 0 (by omega)]
      omega
    · intro k hk'
      rw [o 25 _ (by omega), e13]
      refine ⟨(h0.pt k hk').1, fun o' h1' => ?_⟩
      rw [o 26 _ (by omega)]
      exact (h0.pt k hk').2 o' h1'
  have hm' : (W 67 d).toInt = 0 → ∀ i, i < d → (W 67 i).toInt = 0 → (W 80 i).toInt ≤ (W 80 d).toInt := by
    intro k i a1 a2
    rw [o 80 i (by omega), o 80 d (by omega)]
    rw [o 67 i (by omega)] at a2
    exact hm hk i a1 a2
  by_cases z : y.toInt + 1 ≤ (V 5 8).toInt
  · have kb := key.lastb (by omega)
    exact ⟨_, _, x, kb.w id (fun _ => trivial) id (Nat.le_refl _), by omega, nf, hm'⟩
  · exact ⟨g, _, x, key.w id (fun a => a.elim (fun c => absurd (by rw [o 67 d (by omega)]; exact hk) c) (fun c => Or.inr ((q3 c).resolve_right z))) id (Nat.le_refl _), by omega, nf, hm'⟩
def mrl2 (fs : List (Nat × Nat)) (cs : List Nat) : Bool := fs.all (fun y => decide (y.1 ≤ 6) && !([(3, 15), (5, 5), (5, 6), (5, 8)].contains y)) && cs.all (fun c => decide (7 ≤ c) && decide (c ≤ 40) && !([32, 40].contains c))
theorem mrl2_no {fs : List (Nat × Nat)} {cs : List Nat} (q : mrl2 fs cs = true) {c k : Nat} (h : (41 ≤ c) ∨ c = 32 ∨ c = 40 ∨ (c, k) = (3, 15) ∨ (c, k) = (5, 5) ∨ (c, k) = (5, 6) ∨ (c, k) = (5, 8)) : wrL fs cs c k = false := by
  unfold mrl2 at q
  rw [Bool.and_eq_true, List.all_eq_true, List.all_eq_true] at q
  unfold wrL
  rw [Bool.or_eq_false_iff]
  refine ⟨?_, ?_⟩
  · rw [← Bool.not_eq_true]
    intro z
    have y := q.1 _ (List.contains_iff_mem.mp z)
    rw [Bool.and_eq_true] at y
    have y1 : c ≤ 6 := of_decide_eq_true y.1
    have y2 := y.2
    rcases h with h | h | h | h | h | h | h
    · omega
    · omega
    · omega
    all_goals (rw [h] at y2; exact absurd y2 (by decide))
  · rw [← Bool.not_eq_true]
    intro z
    have y := q.2 _ (List.contains_iff_mem.mp z)
    rw [Bool.and_eq_true, Bool.and_eq_true] at y
    have y1 : c ≤ 40 := of_decide_eq_true y.1.2
    have y0 : 7 ≤ c := of_decide_eq_true y.1.1
    have y2 := y.2
    rcases h with h | h | h | h | h | h | h
    · omega
    · rw [h] at y2; exact absurd y2 (by decide)
    · rw [h] at y2; exact absurd y2 (by decide)
    all_goals (have := congrArg Prod.fst h; simp only at this; omega)
/-- an object more -/
theorem MI.ob {fs : List (Nat × Nat)} {cs : List Nat} {V W : Vf} {Z : XZ} {b n r o : Nat} {g : Nat → Nat} {w v u : Prop} (h : MI V Z b g n r w v u) (a : agr fs cs V W) (q : mrl2 fs cs = true) (sl : SL W Z) (ho : (o : Int) = (V 3 13).toInt) (h13 : (W 3 13).toInt = (V 3 13).toInt + 1) (h300 : (W 3 13).toInt ≤ 300) (e26 : ∀ q : Nat, ¬ q = o → W 26 q = V 26 q) (n26 : (W 26 o).toInt < (V 43 (5 * b + 2)).toInt) (e25 : ∀ k : Nat, k < 960 → W 25 k = V 25 k ∨ ((W 25 k).toInt = (o : Int) ∧ (W 26 o).toInt = ((k % 24 : Nat) : Int))) : MI W Z b g n (r + 203) w v u := by
  have hB : BE V W := fun c k a1 _ => a c k (mrl2_no q (Or.inl a1))
  have er : ∀ c k, 67 ≤ c → W c k = V c k := fun c k a1 => a c k (mrl2_no q (Or.inl (by omega)))
  have e15 : W 3 15 = V 3 15 := a _ _ (mrl2_no q (by simp))
  have e5 : W 5 5 = V 5 5 := a _ _ (mrl2_no q (by simp))
  have e8 : W 5 8 = V 5 8 := a _ _ (mrl2_no q (by simp))
  have e40 : ∀ k, W 40 k = V 40 k := fun k => a _ _ (mrl2_no q (by simp))
  have e43 : W 43 (5 * b + 2) = V 43 (5 * b + 2) := hB _ _ (by decide) (by decide)
  have o0 := h.o0
  refine ⟨sl, h.nf, h.dn, by rw [e43]; exact h.sz, ?_, ?_, ?_, ?_, ⟨⟨by omega, h300⟩, by rw [e15, e8]; exact o0.2⟩, ?_, h.tx.be hB, h.cd.be hB, by rw [e5]; exact h.mb, h.ln, ?_⟩
  · intro i hi
    rw [e43]
    by_cases e : i = o
    · rw [e]; exact n26
    · rw [e26 i e]; exact h.oc i (by omega)
  · intro i hi
    rw [e8] at hi
    rw [e40, h13]
    have := h.md i hi
    omega
  · intro i j a1 a2
    rw [er 67 i (by decide), er 67 j (by decide), er 80 i (by decide), er 80 j (by decide)]
    exact h.mk2 i j a1 a2
  · intro i hi
    have f := h.fk i hi
    have ev : vI W n v u i = vI V n v u i := by unfold vI; rw [er 67 (n - 1) (by decide)]
    rw [ev]
    unfold FK at f ⊢
    rw [er 67 i (by decide), er 68 i (by decide), er 70 i (by decide), er 71 i (by decide), er 75 i (by decide), er 76 i (by decide), er 80 i (by decide), er 84 i (by decide), e43, hB 42 b (by decide) (by decide), hB 41 b (by decide) (by decide), hB.bd, e8, h13]
    refine ⟨f.1, fun a1 a2 => ?_, f.2.2⟩
    have := f.2.1 a1 a2
    omega
  · have p := h.pot
    rw [e15, h13, e8, hB 44 0 (by decide) (by decide)]
    omega
  · intro k hk
    rcases e25 k hk with z | z
    · have q2 := (h.pt k hk).1
      rw [z, h13]
      refine ⟨by omega, fun o' h1 => ?_⟩
      rw [e26 o' (by omega)]
      exact (h.pt k hk).2 o' h1
    · rw [z.1, h13]
      refine ⟨by omega, fun o' h1 => ?_⟩
      rw [show o' = o from by omega]
      exact z.2
/-- MTw, with room for x links -/
def MTx (V : Vf) (Z : XZ) (b x : Nat) : Prop := ∃ g r, x + 1 ≤ r ∧ MI V Z b g (V 5 6).toInt.toNat r True True False
theorem MTw.ob {fs : List (Nat × Nat)} {cs : List Nat} {V W : Vf} {Z : XZ} {b o : Nat} (h : MTw V Z b) (a : agr fs cs V W) (q : mrl2 fs cs = true) (sl : SL W Z) (ho : (o : Int) = (V 3 13).toInt) (h13 : (W 3 13).toInt = (V 3 13).toInt + 1) (h300 : (W 3 13).toInt ≤ 300) (e26 : ∀ q : Nat, ¬ q = o → W 26 q = V 26 q) (n26 : (W 26 o).toInt < (V 43 (5 * b + 2)).toInt) (e25 : ∀ k : Nat, k < 960 → W 25 k = V 25 k ∨ ((W 25 k).toInt = (o : Int) ∧ (W 26 o).toInt = ((k % 24 : Nat) : Int))) : MTx W Z b 202 := by
  obtain ⟨g, r, h⟩ := h
  have e6 : W 5 6 = V 5 6 := a _ _ (mrl2_no q (by simp))
  exact ⟨g, r + 203, by omega, by rw [e6]; exact h.ob a q sl ho h13 h300 e26 n26 e25⟩
theorem MTx.pu {V W : Vf} {Z Z' : XZ} {b f x : Nat} {v : Prop} (h : MTx V Z b x) (hf : (f : Int) ≤ (V 5 6).toInt ∧ (V 5 6).toInt ≤ (f : Int) + 1) (m : ME V W f) (ez : Z'.ln = Z.ln) (h1 : f + 1 ≤ Z'.nf) (h2 : Z'.nf ≤ 400) (hx : FK W b x f True v) (hm : (W 67 f).toInt = 0 → W 80 f = W 5 8) (e : (W 5 6).toInt = (f : Int) + 1) (q : ¬ (W 5 9).toInt = 1) : MJ W Z' b := by
  obtain ⟨g, r, hxr, h⟩ := h
  exact (h.bump (by omega)).pu (by omega) hf m ez h1 h2 hx hm e trivial (fun z => absurd z.1 q) (fun _ => trivial)
/-- one more is held as made: the frame's life goes there -/
theorem MO.made {V V1 W : Vf} {Z : XZ} {b d k : Nat} {w v u : Prop} {x y : Int32} (h : MO V Z b d w v u) (hk : (V 67 d).toInt = 1) (e1 : V1 = up2 V 5 8 y) (e2 : W = up2 V1 40 k x) (hy : y.toInt = (V 5 8).toInt + 1) (hj : (k : Int) = (V 5 8).toInt) (hx : x.toInt < (V 3 13).toInt) : MP W Z b d True := by
  obtain ⟨g, r, z, h0, hz, hF, hm⟩ := h
  have z1 := (hF.2.2.2.2.2.1 hk).1
  have o0 := h0.o0
  have o : ∀ c k', ¬ (c = 5 ∧ k' = 8) → c ≠ 40 → W c k' = V c k' := fun c k' q q2 => by rw [e2, up2_pl (fun a => q2 a.1), e1]; exact up2_pl q
  have e8 : W 5 8 = y := by rw [e2, up2_pl (by omega), e1]; exact up2_s rfl
  have e40 : ∀ i, i ≠ k → W 40 i = V 40 i := fun i q => by rw [e2, up2_pl (by omega), e1]; exact up2_pl (by omega)
  have n40 : W 40 k = x := up2_s e2
  have hB : BE V W := fun c k' a1 a2 => o c k' (by omega) (by omega)
  have e43 : W 43 (5 * b + 2) = V 43 (5 * b + 2) := o _ _ (by omega) (by omega)
  have e13 : W 3 13 = V 3 13 := o _ _ (by omega) (by omega)
  refine ⟨g, r - 1, ⟨?_, h0.nf, h0.dn, by rw [e43]; exact h0.sz, ?_, ?_, ?_, fun i hi => ?_, by rw [e13, o 3 15 (by omega) (by omega), e8]; exact ⟨o0.1, o0.2.1, by omega⟩, ?_, h0.tx.be hB, h0.cd.be hB, by rw [o 5 5 (by omega) (by omega)]; exact h0.mb, h0.ln, ?_⟩⟩
  · unfold SL
    rw [o 3 15 (by omega) (by omega), e13]
    exact ⟨h0.sl.1, h0.sl.2.1, fun o' k' a1 a2 => by rw [o 30 _ (by omega) (by omega)]; exact h0.sl.2.2.1 o' k' a1 a2, fun i a1 => by rw [o 32 _ (by omega) (by omega)]; exact h0.sl.2.2.2 i a1⟩
  · intro i hi
    rw [e13] at hi
    rw [o 26 _ (by omega) (by omega), e43]
    exact h0.oc i hi
  · intro i hi
    rw [e8] at hi
    rw [e13]
    by_cases q : i = k
    · rw [q, n40]; exact hx
    · rw [e40 i q]; exact h0.md i (by omega)
  · intro i j a1 a2
    rw [o 67 i (by omega) (by omega), o 67 j (by omega) (by omega), o 80 i (by omega) (by omega), o 80 j (by omega) (by omega)]
    exact h0.mk2 i j a1 a2
  · have f := (h0.fk i hi).w (y := g i) (w' := i + 1 < d ∨ True) (v' := vI V d True True i) id (fun z => z.elim Or.inl (fun a => Or.inr ⟨a.1, Or.inl (by omega)⟩)) (Nat.le_refl _)
    have ev : vI W d True True i = vI V d True True i := by unfold vI; rw [o 67 (d - 1) (by omega) (by omega)]
    rw [ev]
    unfold FK at f ⊢
    rw [o 67 i (by omega) (by omega), o 68 i (by omega) (by omega), o 70 i (by omega) (by omega), o 71 i (by omega) (by omega), o 75 i (by omega) (by omega), o 76 i (by omega) (by omega), o 80 i (by omega) (by omega), o 84 i (by omega) (by omega), e43, o 42 b (by omega) (by omega), o 41 b (by omega) (by omega), e13, hB.bd, e8]
    refine ⟨f.1, f.2.1, f.2.2.1, f.2.2.2.1, f.2.2.2.2.1, f.2.2.2.2.2.1, fun a1 => ?_, f.2.2.2.2.2.2.2⟩
    have := f.2.2.2.2.2.2.1 a1
    omega
  · have p := h0.pot
    rw [o 3 15 (by omega) (by omega), e13, e8, o 44 0 (by omega) (by omega)]
    omega
  · intro k' hk'
    rw [o 25 _ (by omega) (by omega), e13]
    refine ⟨(h0.pt k' hk').1, fun o' h1 => ?_⟩
    rw [o 26 _ (by omega) (by omega)]
    exact (h0.pt k' hk').2 o' h1

theorem n622 : lw_tbl[622]? = some (Cond.fieldLinkNest RX5 276 "WiringHouse$Book" "wrapOrder" "[I" "WiringHouse") := la9 (n := 155) (i := 467) lz9 (la9 (n := 240) (i := 227) ln9_1 (lb9 (i := 227) (by decide +kernel)))
theorem n620 : lw_tbl[620]? = some (Cond.fieldLinkNest RX5 279 "WiringHouse$Book" "wraps" "[LWiringHouse$Wrap;" "WiringHouse") := la9 (n := 155) (i := 465) lz9 (la9 (n := 240) (i := 225) ln9_1 (lb9 (i := 225) (by decide +kernel)))
theorem n579 : lw_tbl[579]? = some (Cond.fieldLinkNest RX5 283 "WiringHouse$Wrap" "phase" "I" "WiringHouse") := la9 (n := 155) (i := 424) lz9 (la9 (n := 240) (i := 184) ln9_1 (lb9 (i := 184) (by decide +kernel)))
theorem w1410 : Cond.code yX7_noteThing cX7_noteThing 4 none ∈ GW := gw_k tk9_6 55 (rfl) rfl
theorem w1407 : Cond.methodLink RX5 286 yX7_noteThing ∈ GW := gw_k tk9_6 52 (by decide +kernel) rfl
theorem w1408 : Cond.instanceMethod yX7_noteThing ∈ GW := gw_k tk9_6 53 (by decide +kernel) rfl
theorem w1409 : Cond.selects RX7 yX7_noteThing yX7_noteThing ∈ GW := gw_k tk9_6 54 (by decide +kernel) rfl
theorem hdV_yX7_noteThing : yX7_noteThing.cls = RX7 ∧ yX7_noteThing.cls ≠ "java/lang/invoke/MethodHandle" ∧ yX7_noteThing.cls ≠ "java/lang/invoke/VarHandle" ∧ (parseMethodDescriptor yX7_noteThing.desc).map (fun d => d.parameters.length) = some 3 := by decide +kernel
theorem n581 : lw_tbl[581]? = some (Cond.fieldLinkNest RX5 289 "WiringHouse$Wrap" "start" "I" "WiringHouse") := la9 (n := 155) (i := 426) lz9 (la9 (n := 240) (i := 186) ln9_1 (lb9 (i := 186) (by decide +kernel)))
theorem w1379 : Cond.code yX5_pushWork cX5_pushWork 5 (some (.object "WiringHouse$Frame")) ∈ GW := gw_k tk9_6 24 (rfl) rfl
theorem w1376 : Cond.methodLink RX5 231 yX5_pushWork ∈ GW := gw_k tk9_6 21 (by decide +kernel) rfl
theorem w1378 : Cond.instanceMethod yX5_pushWork ∈ GW := gw_k tk9_6 23 (by decide +kernel) rfl
theorem w57 : Cond.selects RX5 yX5_pushWork yX5_pushWork ∈ GW := gw_mem 57 (by decide +kernel) rfl
theorem hdV_yX5_pushWork : yX5_pushWork.cls = RX5 ∧ yX5_pushWork.cls ≠ "java/lang/invoke/MethodHandle" ∧ yX5_pushWork.cls ≠ "java/lang/invoke/VarHandle" ∧ (parseMethodDescriptor yX5_pushWork.desc).map (fun d => d.parameters.length) = some 3 := by decide +kernel
theorem dk9_dX5_workWrap_0_0 : dOk cX5_workWrap [(0, .aload_n 0, 1), (1, .getfield 24, 3), (4, .getfield 276, 3), (7, .iload_n 2, 1), (8, .iaload, 1), (9, .istore 4, 2), (11, .aload_n 0, 1), (12, .getfield 24, 3), (15, .getfield 279, 3), (18, .iload 4, 2), (20, .aaload, 1), (21, .astore 5, 2), (23, .aload_n 0, 1), (24, .getfield 32, 3), (27, .aload 5, 2), (29, .getfield 283, 3), (32, .iload 4, 2), (34, .iload_n 3, 1), (35, .invokevirtual 286, 3), (38, .aload_n 0, 1), (39, .aload_n 1, 1), (40, .aload 5, 2), (42, .getfield 289, 3), (45, .iload_n 3, 1)] = true ∧ dOk cX5_workWrap [(46, .invokevirtual 231, 3), (49, .areturn, 1)] = true := by decide +kernel
theorem dX5_workWrap_0 : decode cX5_workWrap 0 = .ok (.aload_n 0, 1) := dr9 dk9_dX5_workWrap_0_0.1 0 (0, .aload_n 0, 1) rfl
theorem dX5_workWrap_1 : decode cX5_workWrap 1 = .ok (.getfield 24, 3) := dr9 dk9_dX5_workWrap_0_0.1 1 (1, .getfield 24, 3) rfl
theorem dX5_workWrap_4 : decode cX5_workWrap 4 = .ok (.getfield 276, 3) := dr9 dk9_dX5_workWrap_0_0.1 2 (4, .getfield 276, 3) rfl
theorem dX5_workWrap_7 : decode cX5_workWrap 7 = .ok (.iload_n 2, 1) := dr9 dk9_dX5_workWrap_0_0.1 3 (7, .iload_n 2, 1) rfl
theorem dX5_workWrap_8 : decode cX5_workWrap 8 = .ok (.iaload, 1) := dr9 dk9_dX5_workWrap_0_0.1 4 (8, .iaload, 1) rfl
theorem dX5_workWrap_9 : decode cX5_workWrap 9 = .ok (.istore 4, 2) := dr9 dk9_dX5_workWrap_0_0.1 5 (9, .istore 4, 2) rfl
theorem dX5_workWrap_11 : decode cX5_workWrap 11 = .ok (.aload_n 0, 1) := dr9 dk9_dX5_workWrap_0_0.1 6 (11, .aload_n 0, 1) rfl
theorem dX5_workWrap_12 : decode cX5_workWrap 12 = .ok (.getfield 24, 3) := dr9 dk9_dX5_workWrap_0_0.1 7 (12, .getfield 24, 3) rfl
theorem dX5_workWrap_15 : decode cX5_workWrap 15 = .ok (.getfield 279, 3) := dr9 dk9_dX5_workWrap_0_0.1 8 (15, .getfield 279, 3) rfl
theorem dX5_workWrap_18 : decode cX5_workWrap 18 = .ok (.iload 4, 2) := dr9 dk9_dX5_workWrap_0_0.1 9 (18, .iload 4, 2) rfl
theorem dX5_workWrap_20 : decode cX5_workWrap 20 = .ok (.aaload, 1) := dr9 dk9_dX5_workWrap_0_0.1 10 (20, .aaload, 1) rfl
theorem dX5_workWrap_21 : decode cX5_workWrap 21 = .ok (.astore 5, 2) := dr9 dk9_dX5_workWrap_0_0.1 11 (21, .astore 5, 2) rfl
theorem dX5_workWrap_23 : decode cX5_workWrap 23 = .ok (.aload_n 0, 1) := dr9 dk9_dX5_workWrap_0_0.1 12 (23, .aload_n 0, 1) rfl
theorem dX5_workWrap_24 : decode cX5_workWrap 24 = .ok (.getfield 32, 3) := dr9 dk9_dX5_workWrap_0_0.1 13 (24, .getfield 32, 3) rfl
theorem dX5_workWrap_27 : decode cX5_workWrap 27 = .ok (.aload 5, 2) := dr9 dk9_dX5_workWrap_0_0.1 14 (27, .aload 5, 2) rfl
theorem dX5_workWrap_29 : decode cX5_workWrap 29 = .ok (.getfield 283, 3) := dr9 dk9_dX5_workWrap_0_0.1 15 (29, .getfield 283, 3) rfl
theorem dX5_workWrap_32 : decode cX5_workWrap 32 = .ok (.iload 4, 2) := dr9 dk9_dX5_workWrap_0_0.1 16 (32, .iload 4, 2) rfl
theorem dX5_workWrap_34 : decode cX5_workWrap 34 = .ok (.iload_n 3, 1) := dr9 dk9_dX5_workWrap_0_0.1 17 (34, .iload_n 3, 1) rfl
theorem dX5_workWrap_35 : decode cX5_workWrap 35 = .ok (.invokevirtual 286, 3) := dr9 dk9_dX5_workWrap_0_0.1 18 (35, .invokevirtual 286, 3) rfl
theorem dX5_workWrap_38 : decode cX5_workWrap 38 = .ok (.aload_n 0, 1) := dr9 dk9_dX5_workWrap_0_0.1 19 (38, .aload_n 0, 1) rfl
theorem dX5_workWrap_39 : decode cX5_workWrap 39 = .ok (.aload_n 1, 1) := dr9 dk9_dX5_workWrap_0_0.1 20 (39, .aload_n 1, 1) rfl
theorem dX5_workWrap_40 : decode cX5_workWrap 40 = .ok (.aload 5, 2) := dr9 dk9_dX5_workWrap_0_0.1 21 (40, .aload 5, 2) rfl
theorem dX5_workWrap_42 : decode cX5_workWrap 42 = .ok (.getfield 289, 3) := dr9 dk9_dX5_workWrap_0_0.1 22 (42, .getfield 289, 3) rfl
theorem dX5_workWrap_45 : decode cX5_workWrap 45 = .ok (.iload_n 3, 1) := dr9 dk9_dX5_workWrap_0_0.1 23 (45, .iload_n 3, 1) rfl
theorem dX5_workWrap_46 : decode cX5_workWrap 46 = .ok (.invokevirtual 231, 3) := dr9 dk9_dX5_workWrap_0_0.2 0 (46, .invokevirtual 231, 3) rfl
theorem dX5_workWrap_49 : decode cX5_workWrap 49 = .ok (.areturn, 1) := dr9 dk9_dX5_workWrap_0_0.2 1 (49, .areturn, 1) rfl
abbrev r_x_workWrap (Z : XZ) : Room := { frames := 4, cells := zcc Z, slots := zss Z, locals := 90 }
abbrev q_x_workWrap (D : va_G) (ks : KS) (ad : Nat → Nat) (kk : Nat → ClassId) (V : Vf) (L : Lf) (Z : XZ) (p1 : Int32) (p2 : Int32) (b : Nat) (gf : Nat) (A : Nat → Prop) : Array Value → State → Outcome → State → Prop := qZr D (fun (u : Vf × Lf × XZ × Nat) => rgd bX u.1 ∧ agr [(4, 5), (5, 6), (5, 9)] [33, 34, 35, 67, 68, 69, 70, 71, 72, 73, 74, 75, 76, 77, 78, 79, 80, 81, 82, 83, 84, 85] V u.1 ∧ u.2.1 = L ∧ ZL Z u.2.2.1 ∧ (u.2.2.2 < u.2.2.1.nf) ∧ (MJ u.1 u.2.2.1 b) ∧ ((u.2.2.2 : Int) + 1 = (u.1 5 6).toInt) ∧ ((u.1 67 u.2.2.2).toInt = 4 ∧ (u.1 68 u.2.2.2).toInt = 0) ∧ ((u.1 5 9).toInt = 0)) (fun u => u.2.2.1.fa u.2.2.2) (fun u => xw ad kk u.1 u.2.1 u.2.2.1) (fun u => xty kk u.2.2.1) (fun u => zcc Z - zcc u.2.2.1) (fun u => zss Z - zss u.2.2.1) A
set_option maxHeartbeats 4000000 in
set_option maxRecDepth 100000 in
theorem x_workWrap (l : Launch) (D : va_G) (ks : KS) (sz : Nat) (ad : Nat → Nat) (kk : Nat → ClassId) (V : Vf) (L : Lf) (Z : XZ) (p1 : Int32) (p2 : Int32) (b : Nat) (gf : Nat) (hMV : rgd bX V) (rg_p1 : 0 ≤ p1.toInt ∧ p1.toInt ≤ 11) (hb2 : b < 2) (hgf : gf < Z.nf) (mt : MT V Z b) (hcm : 0 ≤ (V 71 gf).toInt ∧ (V 71 gf).toInt < (V 43 (5 * b + 2)).toInt) (hob : 0 ≤ (V 70 gf).toInt ∧ (V 70 gf).toInt < (V 3 13).toInt) (hat : p1.toInt < (V 41 b).toInt)  : Met l yX5_workWrap (Cond.code yX5_workWrap cX5_workWrap 6 (some (.object "WiringHouse$Frame")) :: GW) (r_x_workWrap Z) (va_Pc [.ref (ad 5), .ref (Z.fa gf), .int p1, .int p2] (gp D ks (xw ad kk V L Z) (xty kk Z) sz)) (q_x_workWrap D ks ad kk V L Z p1 p2 b gf (va_A (xw ad kk V L Z) sz)) (zcc Z) (zss Z) (va_A (xw ad kk V L Z) sz) := by
  refine g_met (q_x_workWrap D ks ad kk V L Z p1 p2 b gf) (by decide) (Nat.le_of_ble_eq_true rfl) ?_
  intro p e s m below meth c A ls H locs hx hb hr hml hown hg hlocks hin hnw hgk hP hK hD hS hA hl
  have hown : s.vm.findClass RX5 = some m.cls := hown
  have hl : lv_has ls 6 [(0, .ref (ad 5)), (1, .ref (Z.fa gf)), (2, .int p1), (3, .int p2)] := hl
  have hP : va_P D vwCl (xw ad kk V L Z) H := hP
  have hD : va_D A (xw ad kk V L Z) := hD
  have hK : va_K D vwCl (xty kk Z) s := hK
  have agV : agr [(4, 5), (5, 6), (5, 9)] [33, 34, 35, 67, 68, 69, 70, 71, 72, 73, 74, 75, 76, 77, 78, 79, 80, 81, 82, 83, 84, 85] V V := agr.rf
  have zoZ : ZL Z Z := ZL.rf
  refine W.know (fun ka kb => ?_)
  refine W.tight (k := zcc Z - zcc Z) (n := zss Z - zss Z) (by omega) (by omega) ?_
  have r1 : (-1) ≤ ((V 71 gf)).toInt ∧ ((V 71 gf)).toInt ≤ 23 := hMV 71 gf
  have r2 : 0 ≤ ((V 43 (5 * b + 2))).toInt ∧ ((V 43 (5 * b + 2))).toInt ≤ ((xcap (5 * b + 2) : Nat) : Int) := hMV 43 (5 * b + 2)
  have r3 : xcap (5 * b + 2) = 24 := xcap_2
  have r4 : 0 ≤ ((V 3 13)).toInt ∧ ((V 3 13)).toInt ≤ 300 := hMV 3 13
  have r5 : 0 ≤ ((V 41 b)).toInt ∧ ((V 41 b)).toInt ≤ 12 := hMV 41 b
  have r6 : 0 ≤ ((V 5 6)).toInt ∧ ((V 5 6)).toInt ≤ 400 := hMV 5 6
  have kdp := i_clamp (x := V 5 6) rfl (by (first | exact om_eafa9039069c r6.1 | omega))
  have hdn := MT.dn mt (by (first | exact om_eafa9039069c r6.1 | omega))
  have mup := MT.up mt
  have msz := mup.1
  have mbk := mup.2.2.2.1
  refine lv_aload_n hx hb dX5_workWrap_0 rfl (lv_at hl 0 rfl) ?_
  refine va_get (D := D) (ci := 5) (v := .ref (ad (38 + Int32.toNatClampNeg (V 5 5)))) (fs := (xfMachine ad V L Z)) (C := RX5) (T := TX5) (N := 15) hx hb hg inX5 hown hK hP 5 xgMachine rfl 5 (by decide) (hg _ w672) (fun _ h9 => h9) rfl dX5_workWrap_1 ?_
  have r7 : 0 ≤ ((V 5 5)).toInt ∧ ((V 5 5)).toInt ≤ 1 := hMV 5 5
  refine g_topv (v := .ref (ad (38 + b))) (rfP (by omega)) ?_
  refine va_getN (D := D) (ci := 0) (v := .ref (ad (68 + b))) (fs := (xfBook ad V b)) (C := RX0) (T := TX0) (N := 13) hx hb hg inX0 hown hK hP (38 + b) (xgBook hb2) rfl 9 (by decide) (hnw.use 622 n622 rfl) (fun _ h9 => h9) rfl dX5_workWrap_4 ?_
  refine lv_iload_n hx hb dX5_workWrap_7 rfl (lv_at hl 2 rfl) ?_
  have il8 : b < 2 := by (first | exact om_f940a4667dd6 hb2 | omega)
  refine va_iald (D := D) (i := p1) hx hb hK hP (68 + b) (61 + b) (xgwrapOrder il8) (xtwrapOrder il8) (i_in (a := p1.toInt) rfl (by (first | exact om_da83cce65d18 rg_p1.1 rg_p1.2 | omega))) dX5_workWrap_8 ?_
  have kc9 := i_clamp (x := p1) rfl (by (first | exact om_eafa9039069c rg_p1.1 | omega))
  refine g_top (v := V 47 (12 * b + (Int32.toNatClampNeg p1))) (if_pos (by omega)) ?_
  have r10 : 0 ≤ ((V 47 (12 * b + (Int32.toNatClampNeg p1)))).toInt ∧ ((V 47 (12 * b + (Int32.toNatClampNeg p1)))).toInt ≤ 11 := hMV 47 (12 * b + (Int32.toNatClampNeg p1))
  refine lv_istore (lv' := [(4, .int (V 47 (12 * b + (Int32.toNatClampNeg p1)))), (0, .ref (ad 5)), (1, .ref (Z.fa gf)), (2, .int p1), (3, .int p2)]) hx hb dX5_workWrap_9 hl (by decide) rfl (fun ls hl => ?_)
  have kcp := i_clamp (x := p1) rfl (by (first | exact om_eafa9039069c rg_p1.1 | omega))
  have htx := mup.2.1.2.2 (Int32.toNatClampNeg p1) (by omega)
  have kcw := i_clamp (x := (V 47 (12 * b + (Int32.toNatClampNeg p1)))) rfl (by (first | exact om_eafa9039069c r10.1 | omega))
  have hgs := mup.2.1.2.1 (Int32.toNatClampNeg (V 47 (12 * b + (Int32.toNatClampNeg p1)))) (by omega)
  refine lv_aload_n hx hb dX5_workWrap_11 rfl (lv_at hl 1 rfl) ?_
  refine va_get (D := D) (ci := 5) (v := .ref (ad (38 + Int32.toNatClampNeg (V 5 5)))) (fs := (xfMachine ad V L Z)) (C := RX5) (T := TX5) (N := 15) hx hb hg inX5 hown hK hP 5 xgMachine rfl 5 (by decide) (hg _ w672) (fun _ h9 => h9) rfl dX5_workWrap_12 ?_
  refine g_topv (v := .ref (ad (38 + b))) (rfP (by omega)) ?_
  refine va_getN (D := D) (ci := 0) (v := .ref (ad (66 + b))) (fs := (xfBook ad V b)) (C := RX0) (T := TX0) (N := 13) hx hb hg inX0 hown hK hP (38 + b) (xgBook hb2) rfl 8 (by decide) (hnw.use 620 n620 rfl) (fun _ h9 => h9) rfl dX5_workWrap_15 ?_
  refine lv_iload hx hb dX5_workWrap_18 (lv_at hl 0 rfl) ?_
  have il11 : b < 2 := by (first | exact om_f940a4667dd6 hb2 | omega)
  refine va_aldq (D := D) (i := (V 47 (12 * b + (Int32.toNatClampNeg p1)))) hx hb hK hP (66 + b) (59 + b) (xgwrapsA il11) (xtwrapsA il11) (i_in (a := ((V 47 (12 * b + (Int32.toNatClampNeg p1)))).toInt) rfl (by (first | exact om_da83cce65d18 r10.1 r10.2 | omega))) dX5_workWrap_20 ?_
  have kc12 := i_clamp (x := (V 47 (12 * b + (Int32.toNatClampNeg p1)))) rfl (by (first | exact om_eafa9039069c r10.1 | omega))
  refine g_topv (v := .ref (ad (312 + (12 * b + (Int32.toNatClampNeg (V 47 (12 * b + (Int32.toNatClampNeg p1)))))))) (congrArg va_rf (if_pos (by omega))) ?_
  have il13 : (12 * b + (Int32.toNatClampNeg (V 47 (12 * b + (Int32.toNatClampNeg p1))))) < 24 := by (first | exact om_a98cd8d2da4e hb2 r10.2 kc12 | omega)
  refine lv_astore (lv' := [(5, .ref (ad (312 + (12 * b + (Int32.toNatClampNeg (V 47 (12 * b + (Int32.toNatClampNeg p1)))))))), (4, .int (V 47 (12 * b + (Int32.toNatClampNeg p1)))), (0, .ref (ad 5)), (1, .ref (Z.fa gf)), (2, .int p1), (3, .int p2)]) hx hb dX5_workWrap_21 hl (by decide) rfl (fun ls hl => ?_)
  refine lv_aload_n hx hb dX5_workWrap_23 rfl (lv_at hl 2 rfl) ?_
  refine va_get (D := D) (ci := 5) (v := .ref (ad 4)) (fs := (xfMachine ad V L Z)) (C := RX5) (T := TX5) (N := 15) hx hb hg inX5 hown hK hP 5 xgMachine rfl 1 (by decide) (hg _ w668) (fun _ h9 => h9) rfl dX5_workWrap_24 ?_
  refine lv_aload hx hb dX5_workWrap_27 (lv_at hl 0 rfl) ?_
  refine va_getN (D := D) (ci := 10) (v := .int (V 65 (12 * b + (Int32.toNatClampNeg (V 47 (12 * b + (Int32.toNatClampNeg p1))))))) (fs := (xfWrap V (12 * b + (Int32.toNatClampNeg (V 47 (12 * b + (Int32.toNatClampNeg p1))))))) (C := RX10) (T := TX10) (N := 5) hx hb hg inX10 hown hK hP (312 + (12 * b + (Int32.toNatClampNeg (V 47 (12 * b + (Int32.toNatClampNeg p1)))))) (xgWrap il13) rfl 3 (by decide) (hnw.use 579 n579 rfl) (fun _ h9 => h9) rfl dX5_workWrap_29 ?_
  refine lv_iload hx hb dX5_workWrap_32 (lv_at hl 1 rfl) ?_
  refine lv_iload_n hx hb dX5_workWrap_34 rfl (lv_at hl 5 rfl) ?_
  refine gA_void (gA_runV (As := [.int (V 65 (12 * b + (Int32.toNatClampNeg (V 47 (12 * b + (Int32.toNatClampNeg p1)))))), .int (V 47 (12 * b + (Int32.toNatClampNeg p1))), .int p2]) (rest := []) (ci := 7) (q0 := 4) hx hb hml hown hg hP hD hK hS hA hnw hgk (x_NnoteThing l D ks H.size ad kk V L Z (V 65 (12 * b + (Int32.toNatClampNeg (V 47 (12 * b + (Int32.toNatClampNeg p1)))))) (V 47 (12 * b + (Int32.toNatClampNeg p1))) p2 hMV ) w1407 w1408 w1409 w166 w1410 rfl xgNotes hdV_yX7_noteThing ⟨Nat.le_of_ble_eq_true rfl, Nat.le_of_ble_eq_true rfl⟩ rfl hl.1 rfl (Nat.le_of_ble_eq_true rfl) dX5_workWrap_35 ⟨z0, z0⟩) hP hD hK hS hA (fun u15 H locs w16 hP hD hK hS => ?_)
  obtain ⟨V17, L18⟩ := u15
  obtain ⟨hMV17, ajV17, axL18⟩ := w16
  have axL18 : L = L18 := Eq.symm axL18
  subst axL18
  have hP : va_P D vwCl (xw ad kk V17 L Z) H := hP
  have hD : va_D A (xw ad kk V17 L Z) := hD
  have hMV17 : rgd bX V17 := hMV17
  have ajV17 : agr [(4, 5)] [33, 34, 35] V V17 := ajV17
  have agV17 : agr [(4, 5), (5, 6), (5, 9)] [33, 34, 35, 67, 68, 69, 70, 71, 72, 73, 74, 75, 76, 77, 78, 79, 80, 81, 82, 83, 84, 85] V V17 := agV.tr ajV17 (by decide) (by decide)
  refine lv_aload_n hx hb dX5_workWrap_38 rfl (lv_at hl 2 rfl) ?_
  refine lv_aload_n hx hb dX5_workWrap_39 rfl (lv_at hl 3 rfl) ?_
  refine lv_aload hx hb dX5_workWrap_40 (lv_at hl 0 rfl) ?_
  refine va_getN (D := D) (ci := 10) (v := .int (V17 66 (12 * b + (Int32.toNatClampNeg (V 47 (12 * b + (Int32.toNatClampNeg p1))))))) (fs := (xfWrap V17 (12 * b + (Int32.toNatClampNeg (V 47 (12 * b + (Int32.toNatClampNeg p1))))))) (C := RX10) (T := TX10) (N := 5) hx hb hg inX10 hown hK hP (312 + (12 * b + (Int32.toNatClampNeg (V 47 (12 * b + (Int32.toNatClampNeg p1)))))) (xgWrap il13) rfl 4 (by decide) (hnw.use 581 n581 rfl) (fun _ h9 => h9) rfl dX5_workWrap_42 ?_
  refine g_top (v := (V 66 (12 * b + (Int32.toNatClampNeg (V 47 (12 * b + (Int32.toNatClampNeg p1))))))) (ajV17 66 (12 * b + (Int32.toNatClampNeg (V 47 (12 * b + (Int32.toNatClampNeg p1))))) rfl) ?_
  have r19 : 0 ≤ ((V 66 (12 * b + (Int32.toNatClampNeg (V 47 (12 * b + (Int32.toNatClampNeg p1))))))).toInt ∧ ((V 66 (12 * b + (Int32.toNatClampNeg (V 47 (12 * b + (Int32.toNatClampNeg p1))))))).toInt ≤ 8200 := hMV 66 (12 * b + (Int32.toNatClampNeg (V 47 (12 * b + (Int32.toNatClampNeg p1)))))
  refine lv_iload_n hx hb dX5_workWrap_45 rfl (lv_at hl 5 rfl) ?_
  have pq20 : (V17 71 gf).toInt = ((V 71 gf)).toInt := congrArg Int32.toInt (ajV17 71 gf rfl)
  have pq21 : (V17 43 (5 * b + 2)).toInt = ((V 43 (5 * b + 2))).toInt := congrArg Int32.toInt (ajV17 43 (5 * b + 2) rfl)
  have pq22 : (V17 3 13).toInt = ((V 3 13)).toInt := congrArg Int32.toInt (ajV17 3 13 rfl)
  have pq23 : (V17 70 gf).toInt = ((V 70 gf)).toInt := congrArg Int32.toInt (ajV17 70 gf rfl)
  have me24 : ME V V17 400 := (ME.tr ME.rf (ME.ag ajV17 (by decide)))
  have mt25 : MT V17 Z b := MT.me mt me24 (ajV17 5 6 rfl)
  have me26 : ME V V17 0 := (ME.tr ME.rf (ME.ag ajV17 (by decide)))
  have ha27 : (V17 42 b).toInt ≤ ((V 66 (12 * b + (Int32.toNatClampNeg (V 47 (12 * b + (Int32.toNatClampNeg p1))))))).toInt ∨ (bdp V17 b (((V 66 (12 * b + (Int32.toNatClampNeg (V 47 (12 * b + (Int32.toNatClampNeg p1))))))).toInt).toNat).1 = true := by rw [me26.1.bd, me26.1 42 b (by decide) (by decide)]; exact gs.fk hgs (hMV 42 b).2
  refine W.know (fun k29 k30 => ?_)
  obtain ⟨Hk28, hHk28⟩ : ∃ z, z = H := ⟨_, rfl⟩
  have k29 : Hk28.size ≤ s.heap.size + (zcc Z - zcc Z) := by rw [hHk28]; exact k29
  have k30 : tot Hk28 ≤ tot s.heap + (zss Z - zss Z) := by rw [hHk28]; exact k30
  refine gZ_ref (gA_runV (As := [.ref (Z.fa gf), .int (V 66 (12 * b + (Int32.toNatClampNeg (V 47 (12 * b + (Int32.toNatClampNeg p1)))))), .int p2]) (rest := []) (ci := 5) (q0 := 5) hx hb hml hown hg hP hD hK hS hA hnw hgk (x_pushWork l D ks H.size ad kk V17 L Z (V 66 (12 * b + (Int32.toNatClampNeg (V 47 (12 * b + (Int32.toNatClampNeg p1)))))) p2 (b) (gf) hMV17 (by (first | exact om_e81ebfc6b250 r19.1 r19.2 | omega)) (show b < 2 from by (first | exact om_f940a4667dd6 hb2 | omega)) (show gf < Z.nf from by (first | exact om_8c5722e49bb1 hgf | omega)) mt25 (show 0 ≤ (V17 71 gf).toInt ∧ (V17 71 gf).toInt < (V17 43 (5 * b + 2)).toInt from by (first | exact om_a269f3c8aec5 hcm.1 hcm.2 pq20 pq21 | omega)) (show 0 ≤ (V17 70 gf).toInt ∧ (V17 70 gf).toInt < (V17 3 13).toInt from by (first | exact om_9cffcb132c39 hob.1 hob.2 pq22 pq23 | omega)) ha27) w1376 w1378 w57 w171 w1379 rfl xgMachine hdV_yX5_pushWork ⟨Nat.le_of_ble_eq_true rfl, Nat.le_of_ble_eq_true rfl⟩ rfl hl.1 rfl (Nat.le_of_ble_eq_true rfl) dX5_workWrap_46 ⟨z1 zoZ.1, z1 zoZ.2.1⟩) hD hS hA (fun u32 H locs w33 hP hD hK hS y34 y35 => ?_)
  obtain ⟨V36, L37, Z38, f39⟩ := u32
  obtain ⟨hMV36, ajV36, axL37, zlZ38, ilf39, t40, t41, t42, t43⟩ := w33
  have axL37 : L = L37 := Eq.symm axL37
  subst axL37
  have hP : va_P D vwCl (xw ad kk V36 L Z38) H := hP
  have hD : va_D A (xw ad kk V36 L Z38) := hD
  have hK : va_K D vwCl (xty kk Z38) s := hK
  have hMV36 : rgd bX V36 := hMV36
  have ajV36 : agr [(5, 6), (5, 9)] [67, 68, 69, 70, 71, 72, 73, 74, 75, 76, 77, 78, 79, 80, 81, 82, 83, 84, 85] V17 V36 := ajV36
  have agV36 : agr [(4, 5), (5, 6), (5, 9)] [33, 34, 35, 67, 68, 69, 70, 71, 72, 73, 74, 75, 76, 77, 78, 79, 80, 81, 82, 83, 84, 85] V V36 := agV17.tr ajV36 (by decide) (by decide)
  have zlZ38 : ZL Z Z38 := zlZ38
  have zoZ38 : ZL Z Z38 := ZL.tr zoZ zlZ38
  have ziZ38 := zlZ38.1
  have zjZ38 := zlZ38.2.1
  have zkZ38 := zlZ38.2.2.1
  have zmZ38 := zoZ38.1
  have znZ38 := zoZ38.2.1
  have zpZ_Z38 := zoZ.1
  have zqZ_Z38 := zoZ.2.1
  have y34 : H.size ≤ Hk28.size + (zcc Z - zcc Z38) := by rw [hHk28]; exact y34
  have y35 : tot H ≤ tot Hk28 + (zss Z - zss Z38) := by rw [hHk28]; exact y35
  refine W.tight (k := zcc Z - zcc Z38) (n := zss Z - zss Z38) (by first | exact tg9 y34 k29 zlZ38.1 zoZ.1 | omega) (by first | exact tg9 y35 k30 zlZ38.2.1 zoZ.2.1 | omega) ?_
  have hl : lv_has ls 6 [(5, .ref (ad (312 + (12 * b + (Int32.toNatClampNeg (V 47 (12 * b + (Int32.toNatClampNeg p1)))))))), (4, .int (V 47 (12 * b + (Int32.toNatClampNeg p1)))), (0, .ref (ad 5)), (1, .ref (Z38.fa gf)), (2, .int p1), (3, .int p2)] := by rw [zlZ38.2.2.2.2 gf hgf]; exact hl
  have ilf39 : f39 < Z38.nf := ilf39
  have t40 : MJ V36 Z38 b := t40
  have t41 : (f39 : Int) + 1 = (V36 5 6).toInt := t41
  have t42 : (V36 67 f39).toInt = 4 ∧ (V36 68 f39).toInt = 0 := t42
  have t43 : (V36 5 9).toInt = 0 := t43
  have r44 : 0 ≤ ((V36 5 6)).toInt ∧ ((V36 5 6)).toInt ≤ 400 := hMV36 5 6
  have r45 : 0 ≤ ((V36 5 9)).toInt ∧ ((V36 5 9)).toInt ≤ 3 := hMV36 5 9
  refine W.know (fun kr1 kr2 => ?_)
  refine W.widen (k := zcc Z) (n := zss Z) (Nat.sub_le _ _) (Nat.sub_le _ _) ?_
  exact W.aret (v := .ref (Z38.fa f39)) hx hb hr (Or.inl ⟨_, rfl⟩) (Or.inr ⟨_, rfl⟩) (fun t ht hW => ⟨⟨(V36, L, Z38, f39), rfl, ⟨hMV36, agV36, rfl, zoZ38, ilf39, t40, (show (f39 : Int) + 1 = (V36 5 6).toInt from by omega), t42, (show (V36 5 9).toInt = 0 from by (first | exact om_b66ba74381d5 t43 | omega))⟩, ⟨by rw [ht]; exact hP, va_K.moved hW.alike hK, hD⟩, by rw [ht]; exact kr1, by rw [ht]; exact kr2⟩, hS.F ht⟩) hS.2.2 dX5_workWrap_49
end
