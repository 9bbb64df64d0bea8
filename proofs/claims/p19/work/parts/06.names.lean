section
theorem w2046 : Cond.code yX12_isName cX12_isName 3 (some .boolean) ∈ GW := gw_k tk9_8 211 (rfl) rfl
theorem w2043 : Cond.methodLink RX12 313 yX12_isName ∈ GW := gw_k tk9_8 208 (by decide +kernel) rfl
theorem w2045 : Cond.instanceMethod yX12_isName ∈ GW := gw_k tk9_8 210 (by decide +kernel) rfl
theorem w88 : Cond.selects RX12 yX12_isName yX12_isName ∈ GW := gw_mem 88 (by decide +kernel) rfl
theorem hdV_yX12_isName : yX12_isName.cls = RX12 ∧ yX12_isName.cls ≠ "java/lang/invoke/MethodHandle" ∧ yX12_isName.cls ≠ "java/lang/invoke/VarHandle" ∧ (parseMethodDescriptor yX12_isName.desc).map (fun d => d.parameters.length) = some 0 := by decide +kernel
theorem w1720 : Cond.fieldLink RX12 46 "WiringHouseModel" "typeName" "[J" ∈ GW := gw_k tk9_7 125 (by decide +kernel) rfl
theorem w1718 : Cond.fieldLink RX12 289 "WiringHouseModel" "next" "I" ∈ GW := gw_k tk9_7 123 (by decide +kernel) rfl
theorem w1719 : Cond.fieldLink RX12 43 "WiringHouseModel" "types" "[I" ∈ GW := gw_k tk9_7 124 (by decide +kernel) rfl
theorem w2050 : Cond.code yX12_find cX12_find 8 (some .int) ∈ GW := gw_k tk9_8 215 (rfl) rfl
theorem w2047 : Cond.methodLink RX12 317 yX12_find ∈ GW := gw_k tk9_8 212 (by decide +kernel) rfl
theorem w2049 : Cond.instanceMethod yX12_find ∈ GW := gw_k tk9_8 214 (by decide +kernel) rfl
theorem w89 : Cond.selects RX12 yX12_find yX12_find ∈ GW := gw_mem 89 (by decide +kernel) rfl
theorem hdV_yX12_find : yX12_find.cls = RX12 ∧ yX12_find.cls ≠ "java/lang/invoke/MethodHandle" ∧ yX12_find.cls ≠ "java/lang/invoke/VarHandle" ∧ (parseMethodDescriptor yX12_find.desc).map (fun d => d.parameters.length) = some 4 := by decide +kernel
theorem w1723 : Cond.fieldLink RX12 56 "WiringHouseModel" "settingName" "[J" ∈ GW := gw_k tk9_7 128 (by decide +kernel) rfl
theorem w1722 : Cond.fieldLink RX12 53 "WiringHouseModel" "settings" "[I" ∈ GW := gw_k tk9_7 127 (by decide +kernel) rfl
theorem w1726 : Cond.fieldLink RX12 65 "WiringHouseModel" "componentName" "[J" ∈ GW := gw_k tk9_7 131 (by decide +kernel) rfl
theorem w1725 : Cond.fieldLink RX12 62 "WiringHouseModel" "components" "[I" ∈ GW := gw_k tk9_7 130 (by decide +kernel) rfl
theorem w2066 : Cond.code yX12_named cX12_named 5 (some .int) ∈ GW := gw_k tk9_8 231 (rfl) rfl
theorem w2063 : Cond.methodLink RX12 321 yX12_named ∈ GW := gw_k tk9_8 228 (by decide +kernel) rfl
theorem w2065 : Cond.instanceMethod yX12_named ∈ GW := gw_k tk9_8 230 (by decide +kernel) rfl
theorem w93 : Cond.selects RX12 yX12_named yX12_named ∈ GW := gw_mem 93 (by decide +kernel) rfl
theorem hdV_yX12_named : yX12_named.cls = RX12 ∧ yX12_named.cls ≠ "java/lang/invoke/MethodHandle" ∧ yX12_named.cls ≠ "java/lang/invoke/VarHandle" ∧ (parseMethodDescriptor yX12_named.desc).map (fun d => d.parameters.length) = some 3 := by decide +kernel
theorem dk9_dX12_isName_0_0 : dOk cX12_isName [(0, .aload_n 0, 1), (1, .getfield 267, 3), (4, .ifCond .ne 20, 3), (7, .aload_n 0, 1), (8, .getfield 24, 3), (11, .aload_n 0, 1), (12, .getfield 264, 3), (15, .iaload, 1), (16, .iconst 1, 1), (17, .if_icmp .ne 7, 3), (24, .iconst 0, 1), (20, .iconst 1, 1), (21, .goto 4, 3), (25, .istore_n 1, 1), (26, .iconst 0, 1), (27, .istore_n 2, 1), (28, .iload_n 2, 1), (29, .bipush 28, 2), (31, .if_icmp .ge 38, 3), (69, .iload_n 1, 1), (70, .ireturn, 1), (34, .iload_n 1, 1), (35, .ifCond .eq 34, 3), (38, .aload_n 0, 1)] = true ∧ dOk cX12_isName [(39, .getfield 30, 3), (42, .aload_n 0, 1), (43, .getfield 264, 3), (46, .laload, 1), (47, .aload_n 0, 1), (48, .getfield 40, 3), (51, .iload_n 2, 1), (52, .laload, 1), (53, .lcmp, 1), (54, .ifCond .eq 7, 3), (61, .iconst 0, 1), (62, .istore_n 1, 1), (63, .iinc 2 1, 3), (66, .goto (-38), 3), (57, .iconst 1, 1), (58, .goto 4, 3)] = true := by decide +kernel
theorem dX12_isName_0 : decode cX12_isName 0 = .ok (.aload_n 0, 1) := dr9 dk9_dX12_isName_0_0.1 0 (0, .aload_n 0, 1) rfl
theorem dX12_isName_1 : decode cX12_isName 1 = .ok (.getfield 267, 3) := dr9 dk9_dX12_isName_0_0.1 1 (1, .getfield 267, 3) rfl
theorem dX12_isName_4 : decode cX12_isName 4 = .ok (.ifCond .ne 20, 3) := dr9 dk9_dX12_isName_0_0.1 2 (4, .ifCond .ne 20, 3) rfl
theorem dX12_isName_7 : decode cX12_isName 7 = .ok (.aload_n 0, 1) := dr9 dk9_dX12_isName_0_0.1 3 (7, .aload_n 0, 1) rfl
theorem dX12_isName_8 : decode cX12_isName 8 = .ok (.getfield 24, 3) := dr9 dk9_dX12_isName_0_0.1 4 (8, .getfield 24, 3) rfl
theorem dX12_isName_11 : decode cX12_isName 11 = .ok (.aload_n 0, 1) := dr9 dk9_dX12_isName_0_0.1 5 (11, .aload_n 0, 1) rfl
theorem dX12_isName_12 : decode cX12_isName 12 = .ok (.getfield 264, 3) := dr9 dk9_dX12_isName_0_0.1 6 (12, .getfield 264, 3) rfl
theorem dX12_isName_15 : decode cX12_isName 15 = .ok (.iaload, 1) := dr9 dk9_dX12_isName_0_0.1 7 (15, .iaload, 1) rfl
theorem dX12_isName_16 : decode cX12_isName 16 = .ok (.iconst 1, 1) := dr9 dk9_dX12_isName_0_0.1 8 (16, .iconst 1, 1) rfl
theorem dX12_isName_17 : decode cX12_isName 17 = .ok (.if_icmp .ne 7, 3) := dr9 dk9_dX12_isName_0_0.1 9 (17, .if_icmp .ne 7, 3) rfl
theorem dX12_isName_24 : decode cX12_isName 24 = .ok (.iconst 0, 1) := dr9 dk9_dX12_isName_0_0.1 10 (24, .iconst 0, 1) rfl
theorem dX12_isName_20 : decode cX12_isName 20 = .ok (.iconst 1, 1) := dr9 dk9_dX12_isName_0_0.1 11 (20, .iconst 1, 1) rfl
theorem dX12_isName_21 : decode cX12_isName 21 = .ok (.goto 4, 3) := dr9 dk9_dX12_isName_0_0.1 12 (21, .goto 4, 3) rfl
theorem dX12_isName_25 : decode cX12_isName 25 = .ok (.istore_n 1, 1) := dr9 dk9_dX12_isName_0_0.1 13 (25, .istore_n 1, 1) rfl
theorem dX12_isName_26 : decode cX12_isName 26 = .ok (.iconst 0, 1) := dr9 dk9_dX12_isName_0_0.1 14 (26, .iconst 0, 1) rfl
theorem dX12_isName_27 : decode cX12_isName 27 = .ok (.istore_n 2, 1) := dr9 dk9_dX12_isName_0_0.1 15 (27, .istore_n 2, 1) rfl
theorem dX12_isName_28 : decode cX12_isName 28 = .ok (.iload_n 2, 1) := dr9 dk9_dX12_isName_0_0.1 16 (28, .iload_n 2, 1) rfl
theorem dX12_isName_29 : decode cX12_isName 29 = .ok (.bipush 28, 2) := dr9 dk9_dX12_isName_0_0.1 17 (29, .bipush 28, 2) rfl
theorem dX12_isName_31 : decode cX12_isName 31 = .ok (.if_icmp .ge 38, 3) := dr9 dk9_dX12_isName_0_0.1 18 (31, .if_icmp .ge 38, 3) rfl
theorem dX12_isName_69 : decode cX12_isName 69 = .ok (.iload_n 1, 1) := dr9 dk9_dX12_isName_0_0.1 19 (69, .iload_n 1, 1) rfl
theorem dX12_isName_70 : decode cX12_isName 70 = .ok (.ireturn, 1) := dr9 dk9_dX12_isName_0_0.1 20 (70, .ireturn, 1) rfl
theorem dX12_isName_34 : decode cX12_isName 34 = .ok (.iload_n 1, 1) := dr9 dk9_dX12_isName_0_0.1 21 (34, .iload_n 1, 1) rfl
theorem dX12_isName_35 : decode cX12_isName 35 = .ok (.ifCond .eq 34, 3) := dr9 dk9_dX12_isName_0_0.1 22 (35, .ifCond .eq 34, 3) rfl
theorem dX12_isName_38 : decode cX12_isName 38 = .ok (.aload_n 0, 1) := dr9 dk9_dX12_isName_0_0.1 23 (38, .aload_n 0, 1) rfl
theorem dX12_isName_39 : decode cX12_isName 39 = .ok (.getfield 30, 3) := dr9 dk9_dX12_isName_0_0.2 0 (39, .getfield 30, 3) rfl
theorem dX12_isName_42 : decode cX12_isName 42 = .ok (.aload_n 0, 1) := dr9 dk9_dX12_isName_0_0.2 1 (42, .aload_n 0, 1) rfl
theorem dX12_isName_43 : decode cX12_isName 43 = .ok (.getfield 264, 3) := dr9 dk9_dX12_isName_0_0.2 2 (43, .getfield 264, 3) rfl
theorem dX12_isName_46 : decode cX12_isName 46 = .ok (.laload, 1) := dr9 dk9_dX12_isName_0_0.2 3 (46, .laload, 1) rfl
theorem dX12_isName_47 : decode cX12_isName 47 = .ok (.aload_n 0, 1) := dr9 dk9_dX12_isName_0_0.2 4 (47, .aload_n 0, 1) rfl
theorem dX12_isName_48 : decode cX12_isName 48 = .ok (.getfield 40, 3) := dr9 dk9_dX12_isName_0_0.2 5 (48, .getfield 40, 3) rfl
theorem dX12_isName_51 : decode cX12_isName 51 = .ok (.iload_n 2, 1) := dr9 dk9_dX12_isName_0_0.2 6 (51, .iload_n 2, 1) rfl
theorem dX12_isName_52 : decode cX12_isName 52 = .ok (.laload, 1) := dr9 dk9_dX12_isName_0_0.2 7 (52, .laload, 1) rfl
theorem dX12_isName_53 : decode cX12_isName 53 = .ok (.lcmp, 1) := dr9 dk9_dX12_isName_0_0.2 8 (53, .lcmp, 1) rfl
theorem dX12_isName_54 : decode cX12_isName 54 = .ok (.ifCond .eq 7, 3) := dr9 dk9_dX12_isName_0_0.2 9 (54, .ifCond .eq 7, 3) rfl
theorem dX12_isName_61 : decode cX12_isName 61 = .ok (.iconst 0, 1) := dr9 dk9_dX12_isName_0_0.2 10 (61, .iconst 0, 1) rfl
theorem dX12_isName_62 : decode cX12_isName 62 = .ok (.istore_n 1, 1) := dr9 dk9_dX12_isName_0_0.2 11 (62, .istore_n 1, 1) rfl
theorem dX12_isName_63 : decode cX12_isName 63 = .ok (.iinc 2 1, 3) := dr9 dk9_dX12_isName_0_0.2 12 (63, .iinc 2 1, 3) rfl
theorem dX12_isName_66 : decode cX12_isName 66 = .ok (.goto (-38), 3) := dr9 dk9_dX12_isName_0_0.2 13 (66, .goto (-38), 3) rfl
theorem dX12_isName_57 : decode cX12_isName 57 = .ok (.iconst 1, 1) := dr9 dk9_dX12_isName_0_0.2 14 (57, .iconst 1, 1) rfl
theorem dX12_isName_58 : decode cX12_isName 58 = .ok (.goto 4, 3) := dr9 dk9_dX12_isName_0_0.2 15 (58, .goto 4, 3) rfl
theorem dk9_dX12_takeNumber_0_0 : dOk cX12_takeNumber [(0, .aload_n 0, 1), (1, .getfield 267, 3), (4, .ifCond .ne 24, 3), (28, .aload_n 0, 1), (29, .getfield 267, 3), (32, .ifCond .ne 38, 3), (70, .aload_n 0, 1), (71, .dup, 1), (72, .getfield 264, 3), (75, .iconst 1, 1), (76, .iadd, 1), (77, .putfield 264, 3), (80, .aload_n 0, 1), (81, .getfield 267, 3), (84, .ifCond .le 7, 3), (87, .iconst 0, 1), (88, .goto 15, 3), (103, .ireturn, 1), (7, .aload_n 0, 1), (8, .getfield 24, 3), (11, .aload_n 0, 1), (12, .getfield 264, 3), (15, .iaload, 1), (16, .iconst 2, 1)] = true ∧ dOk cX12_takeNumber [(17, .if_icmp .eq 11, 3), (35, .aload_n 0, 1), (36, .getfield 30, 3), (39, .aload_n 0, 1), (40, .getfield 264, 3), (43, .laload, 1), (44, .iload_n 1, 1), (45, .i2l, 1), (46, .lcmp, 1), (47, .ifCond .lt 18, 3), (65, .aload_n 0, 1), (66, .iconst 4, 1), (67, .invokevirtual 273, 3), (50, .aload_n 0, 1), (51, .getfield 30, 3), (54, .aload_n 0, 1), (55, .getfield 264, 3), (58, .laload, 1), (59, .iload_n 2, 1), (60, .i2l, 1), (61, .lcmp, 1), (62, .ifCond .le 8, 3), (91, .aload_n 0, 1), (92, .getfield 30, 3)] = true ∧ dOk cX12_takeNumber [(95, .aload_n 0, 1), (96, .getfield 264, 3), (99, .iconst 1, 1), (100, .isub, 1), (101, .laload, 1), (102, .l2i, 1), (20, .aload_n 0, 1), (21, .iconst 1, 1), (22, .invokevirtual 273, 3), (25, .goto 45, 3)] = true := by decide +kernel
theorem dX12_takeNumber_0 : decode cX12_takeNumber 0 = .ok (.aload_n 0, 1) := dr9 dk9_dX12_takeNumber_0_0.1 0 (0, .aload_n 0, 1) rfl
theorem dX12_takeNumber_1 : decode cX12_takeNumber 1 = .ok (.getfield 267, 3) := dr9 dk9_dX12_takeNumber_0_0.1 1 (1, .getfield 267, 3) rfl
theorem dX12_takeNumber_4 : decode cX12_takeNumber 4 = .ok (.ifCond .ne 24, 3) := dr9 dk9_dX12_takeNumber_0_0.1 2 (4, .ifCond .ne 24, 3) rfl
theorem dX12_takeNumber_28 : decode cX12_takeNumber 28 = .ok (.aload_n 0, 1) := dr9 dk9_dX12_takeNumber_0_0.1 3 (28, .aload_n 0, 1) rfl
theorem dX12_takeNumber_29 : decode cX12_takeNumber 29 = .ok (.getfield 267, 3) := dr9 dk9_dX12_takeNumber_0_0.1 4 (29, .getfield 267, 3) rfl
theorem dX12_takeNumber_32 : decode cX12_takeNumber 32 = .ok (.ifCond .ne 38, 3) := dr9 dk9_dX12_takeNumber_0_0.1 5 (32, .ifCond .ne 38, 3) rfl
theorem dX12_takeNumber_70 : decode cX12_takeNumber 70 = .ok (.aload_n 0, 1) := dr9 dk9_dX12_takeNumber_0_0.1 6 (70, .aload_n 0, 1) rfl
theorem dX12_takeNumber_71 : decode cX12_takeNumber 71 = .ok (.dup, 1) := dr9 dk9_dX12_takeNumber_0_0.1 7 (71, .dup, 1) rfl
theorem dX12_takeNumber_72 : decode cX12_takeNumber 72 = .ok (.getfield 264, 3) := dr9 dk9_dX12_takeNumber_0_0.1 8 (72, .getfield 264, 3) rfl
theorem dX12_takeNumber_75 : decode cX12_takeNumber 75 = .ok (.iconst 1, 1) := dr9 dk9_dX12_takeNumber_0_0.1 9 (75, .iconst 1, 1) rfl
theorem dX12_takeNumber_76 : decode cX12_takeNumber 76 = .ok (.iadd, 1) := dr9 dk9_dX12_takeNumber_0_0.1 10 (76, .iadd, 1) rfl
theorem dX12_takeNumber_77 : decode cX12_takeNumber 77 = .ok (.putfield 264, 3) := dr9 dk9_dX12_takeNumber_0_0.1 11 (77, .putfield 264, 3) rfl
theorem dX12_takeNumber_80 : decode cX12_takeNumber 80 = .ok (.aload_n 0, 1) := dr9 dk9_dX12_takeNumber_0_0.1 12 (80, .aload_n 0, 1) rfl
theorem dX12_takeNumber_81 : decode cX12_takeNumber 81 = .ok (.getfield 267, 3) := dr9 dk9_dX12_takeNumber_0_0.1 13 (81, .getfield 267, 3) rfl
theorem dX12_takeNumber_84 : decode cX12_takeNumber 84 = .ok (.ifCond .le 7, 3) := dr9 dk9_dX12_takeNumber_0_0.1 14 (84, .ifCond .le 7, 3) rfl
theorem dX12_takeNumber_87 : decode cX12_takeNumber 87 = .ok (.iconst 0, 1) := dr9 dk9_dX12_takeNumber_0_0.1 15 (87, .iconst 0, 1) rfl
theorem dX12_takeNumber_88 : decode cX12_takeNumber 88 = .ok (.goto 15, 3) := dr9 dk9_dX12_takeNumber_0_0.1 16 (88, .goto 15, 3) rfl
theorem dX12_takeNumber_103 : decode cX12_takeNumber 103 = .ok (.ireturn, 1) := dr9 dk9_dX12_takeNumber_0_0.1 17 (103, .ireturn, 1) rfl
theorem dX12_takeNumber_7 : decode cX12_takeNumber 7 = .ok (.aload_n 0, 1) := dr9 dk9_dX12_takeNumber_0_0.1 18 (7, .aload_n 0, 1) rfl
theorem dX12_takeNumber_8 : decode cX12_takeNumber 8 = .ok (.getfield 24, 3) := dr9 dk9_dX12_takeNumber_0_0.1 19 (8, .getfield 24, 3) rfl
theorem dX12_takeNumber_11 : decode cX12_takeNumber 11 = .ok (.aload_n 0, 1) := dr9 dk9_dX12_takeNumber_0_0.1 20 (11, .aload_n 0, 1) rfl
theorem dX12_takeNumber_12 : decode cX12_takeNumber 12 = .ok (.getfield 264, 3) := dr9 dk9_dX12_takeNumber_0_0.1 21 (12, .getfield 264, 3) rfl
theorem dX12_takeNumber_15 : decode cX12_takeNumber 15 = .ok (.iaload, 1) := dr9 dk9_dX12_takeNumber_0_0.1 22 (15, .iaload, 1) rfl
theorem dX12_takeNumber_16 : decode cX12_takeNumber 16 = .ok (.iconst 2, 1) := dr9 dk9_dX12_takeNumber_0_0.1 23 (16, .iconst 2, 1) rfl
theorem dX12_takeNumber_17 : decode cX12_takeNumber 17 = .ok (.if_icmp .eq 11, 3) := dr9 dk9_dX12_takeNumber_0_0.2.1 0 (17, .if_icmp .eq 11, 3) rfl
theorem dX12_takeNumber_35 : decode cX12_takeNumber 35 = .ok (.aload_n 0, 1) := dr9 dk9_dX12_takeNumber_0_0.2.1 1 (35, .aload_n 0, 1) rfl
theorem dX12_takeNumber_36 : decode cX12_takeNumber 36 = .ok (.getfield 30, 3) := dr9 dk9_dX12_takeNumber_0_0.2.1 2 (36, .getfield 30, 3) rfl
theorem dX12_takeNumber_39 : decode cX12_takeNumber 39 = .ok (.aload_n 0, 1) := dr9 dk9_dX12_takeNumber_0_0.2.1 3 (39, .aload_n 0, 1) rfl
theorem dX12_takeNumber_40 : decode cX12_takeNumber 40 = .ok (.getfield 264, 3) := dr9 dk9_dX12_takeNumber_0_0.2.1 4 (40, .getfield 264, 3) rfl
theorem dX12_takeNumber_43 : decode cX12_takeNumber 43 = .ok (.laload, 1) := dr9 dk9_dX12_takeNumber_0_0.2.1 5 (43, .laload, 1) rfl
theorem dX12_takeNumber_44 : decode cX12_takeNumber 44 = .ok (.iload_n 1, 1) := dr9 dk9_dX12_takeNumber_0_0.2.1 6 (44, .iload_n 1, 1) rfl
theorem dX12_takeNumber_45 : decode cX12_takeNumber 45 = .ok (.i2l, 1) := dr9 dk9_dX12_takeNumber_0_0.2.1 7 (45, .i2l, 1) rfl
theorem dX12_takeNumber_46 : decode cX12_takeNumber 46 = .ok (.lcmp, 1) := dr9 dk9_dX12_takeNumber_0_0.2.1 8 (46, .lcmp, 1) rfl
theorem dX12_takeNumber_47 : decode cX12_takeNumber 47 = .ok (.ifCond .lt 18, 3) := dr9 dk9_dX12_takeNumber_0_0.2.1 9 (47, .ifCond .lt 18, 3) rfl
theorem dX12_takeNumber_65 : decode cX12_takeNumber 65 = .ok (.aload_n 0, 1) := dr9 dk9_dX12_takeNumber_0_0.2.1 10 (65, .aload_n 0, 1) rfl
theorem dX12_takeNumber_66 : decode cX12_takeNumber 66 = .ok (.iconst 4, 1) := dr9 dk9_dX12_takeNumber_0_0.2.1 11 (66, .iconst 4, 1) rfl
theorem dX12_takeNumber_67 : decode cX12_takeNumber 67 = .ok (.invokevirtual 273, 3) := dr9 dk9_dX12_takeNumber_0_0.2.1 12 (67, .invokevirtual 273, 3) rfl
theorem dX12_takeNumber_50 : decode cX12_takeNumber 50 = .ok (.aload_n 0, 1) := dr9 dk9_dX12_takeNumber_0_0.2.1 13 (50, .aload_n 0, 1) rfl
theorem dX12_takeNumber_51 : decode cX12_takeNumber 51 = .ok (.getfield 30, 3) := dr9 dk9_dX12_takeNumber_0_0.2.1 14 (51, .getfield 30, 3) rfl
theorem dX12_takeNumber_54 : decode cX12_takeNumber 54 = .ok (.aload_n 0, 1) := dr9 dk9_dX12_takeNumber_0_0.2.1 15 (54, .aload_n 0, 1) rfl
theorem dX12_takeNumber_55 : decode cX12_takeNumber 55 = .ok (.getfield 264, 3) := dr9 dk9_dX12_takeNumber_0_0.2.1 16 (55, .getfield 264, 3) rfl
theorem dX12_takeNumber_58 : decode cX12_takeNumber 58 = .ok (.laload, 1) := dr9 dk9_dX12_takeNumber_0_0.2.1 17 (58, .laload, 1) rfl
theorem dX12_takeNumber_59 : decode cX12_takeNumber 59 = .ok (.iload_n 2, 1) := dr9 dk9_dX12_takeNumber_0_0.2.1 18 (59, .iload_n 2, 1) rfl
theorem dX12_takeNumber_60 : decode cX12_takeNumber 60 = .ok (.i2l, 1) := dr9 dk9_dX12_takeNumber_0_0.2.1 19 (60, .i2l, 1) rfl
theorem dX12_takeNumber_61 : decode cX12_takeNumber 61 = .ok (.lcmp, 1) := dr9 dk9_dX12_takeNumber_0_0.2.1 20 (61, .lcmp, 1) rfl
theorem dX12_takeNumber_62 : decode cX12_takeNumber 62 = .ok (.ifCond .le 8, 3) := dr9 dk9_dX12_takeNumber_0_0.2.1 21 (62, .ifCond .le 8, 3) rfl
theorem dX12_takeNumber_91 : decode cX12_takeNumber 91 = .ok (.aload_n 0, 1) := dr9 dk9_dX12_takeNumber_0_0.2.1 22 (91, .aload_n 0, 1) rfl
theorem dX12_takeNumber_92 : decode cX12_takeNumber 92 = .ok (.getfield 30, 3) := dr9 dk9_dX12_takeNumber_0_0.2.1 23 (92, .getfield 30, 3) rfl
theorem dX12_takeNumber_95 : decode cX12_takeNumber 95 = .ok (.aload_n 0, 1) := dr9 dk9_dX12_takeNumber_0_0.2.2 0 (95, .aload_n 0, 1) rfl
theorem dX12_takeNumber_96 : decode cX12_takeNumber 96 = .ok (.getfield 264, 3) := dr9 dk9_dX12_takeNumber_0_0.2.2 1 (96, .getfield 264, 3) rfl
theorem dX12_takeNumber_99 : decode cX12_takeNumber 99 = .ok (.iconst 1, 1) := dr9 dk9_dX12_takeNumber_0_0.2.2 2 (99, .iconst 1, 1) rfl
theorem dX12_takeNumber_100 : decode cX12_takeNumber 100 = .ok (.isub, 1) := dr9 dk9_dX12_takeNumber_0_0.2.2 3 (100, .isub, 1) rfl
theorem dX12_takeNumber_101 : decode cX12_takeNumber 101 = .ok (.laload, 1) := dr9 dk9_dX12_takeNumber_0_0.2.2 4 (101, .laload, 1) rfl
theorem dX12_takeNumber_102 : decode cX12_takeNumber 102 = .ok (.l2i, 1) := dr9 dk9_dX12_takeNumber_0_0.2.2 5 (102, .l2i, 1) rfl
theorem dX12_takeNumber_20 : decode cX12_takeNumber 20 = .ok (.aload_n 0, 1) := dr9 dk9_dX12_takeNumber_0_0.2.2 6 (20, .aload_n 0, 1) rfl
theorem dX12_takeNumber_21 : decode cX12_takeNumber 21 = .ok (.iconst 1, 1) := dr9 dk9_dX12_takeNumber_0_0.2.2 7 (21, .iconst 1, 1) rfl
theorem dX12_takeNumber_22 : decode cX12_takeNumber 22 = .ok (.invokevirtual 273, 3) := dr9 dk9_dX12_takeNumber_0_0.2.2 8 (22, .invokevirtual 273, 3) rfl
theorem dX12_takeNumber_25 : decode cX12_takeNumber 25 = .ok (.goto 45, 3) := dr9 dk9_dX12_takeNumber_0_0.2.2 9 (25, .goto 45, 3) rfl
theorem dk9_dX12_oneOf_0_0 : dOk cX12_oneOf [(0, .iconst 0, 1), (1, .istore_n 3, 1), (2, .iload_n 3, 1), (3, .iload_n 2, 1), (4, .if_icmp .ge 21, 3), (25, .aload_n 0, 1), (26, .iconst 1, 1), (27, .invokevirtual 273, 3), (30, .iconst 0, 1), (31, .ireturn, 1), (7, .aload_n 0, 1), (8, .iload_n 1, 1), (9, .iload_n 3, 1), (10, .iadd, 1), (11, .invokevirtual 280, 3), (14, .ifCond .eq 5, 3), (19, .iinc 3 1, 3), (22, .goto (-20), 3), (17, .iload_n 3, 1), (18, .ireturn, 1)] = true := by decide +kernel
theorem dX12_oneOf_0 : decode cX12_oneOf 0 = .ok (.iconst 0, 1) := dr9 dk9_dX12_oneOf_0_0 0 (0, .iconst 0, 1) rfl
theorem dX12_oneOf_1 : decode cX12_oneOf 1 = .ok (.istore_n 3, 1) := dr9 dk9_dX12_oneOf_0_0 1 (1, .istore_n 3, 1) rfl
theorem dX12_oneOf_2 : decode cX12_oneOf 2 = .ok (.iload_n 3, 1) := dr9 dk9_dX12_oneOf_0_0 2 (2, .iload_n 3, 1) rfl
theorem dX12_oneOf_3 : decode cX12_oneOf 3 = .ok (.iload_n 2, 1) := dr9 dk9_dX12_oneOf_0_0 3 (3, .iload_n 2, 1) rfl
theorem dX12_oneOf_4 : decode cX12_oneOf 4 = .ok (.if_icmp .ge 21, 3) := dr9 dk9_dX12_oneOf_0_0 4 (4, .if_icmp .ge 21, 3) rfl
theorem dX12_oneOf_25 : decode cX12_oneOf 25 = .ok (.aload_n 0, 1) := dr9 dk9_dX12_oneOf_0_0 5 (25, .aload_n 0, 1) rfl
theorem dX12_oneOf_26 : decode cX12_oneOf 26 = .ok (.iconst 1, 1) := dr9 dk9_dX12_oneOf_0_0 6 (26, .iconst 1, 1) rfl
theorem dX12_oneOf_27 : decode cX12_oneOf 27 = .ok (.invokevirtual 273, 3) := dr9 dk9_dX12_oneOf_0_0 7 (27, .invokevirtual 273, 3) rfl
theorem dX12_oneOf_30 : decode cX12_oneOf 30 = .ok (.iconst 0, 1) := dr9 dk9_dX12_oneOf_0_0 8 (30, .iconst 0, 1) rfl
theorem dX12_oneOf_31 : decode cX12_oneOf 31 = .ok (.ireturn, 1) := dr9 dk9_dX12_oneOf_0_0 9 (31, .ireturn, 1) rfl
theorem dX12_oneOf_7 : decode cX12_oneOf 7 = .ok (.aload_n 0, 1) := dr9 dk9_dX12_oneOf_0_0 10 (7, .aload_n 0, 1) rfl
theorem dX12_oneOf_8 : decode cX12_oneOf 8 = .ok (.iload_n 1, 1) := dr9 dk9_dX12_oneOf_0_0 11 (8, .iload_n 1, 1) rfl
theorem dX12_oneOf_9 : decode cX12_oneOf 9 = .ok (.iload_n 3, 1) := dr9 dk9_dX12_oneOf_0_0 12 (9, .iload_n 3, 1) rfl
theorem dX12_oneOf_10 : decode cX12_oneOf 10 = .ok (.iadd, 1) := dr9 dk9_dX12_oneOf_0_0 13 (10, .iadd, 1) rfl
theorem dX12_oneOf_11 : decode cX12_oneOf 11 = .ok (.invokevirtual 280, 3) := dr9 dk9_dX12_oneOf_0_0 14 (11, .invokevirtual 280, 3) rfl
theorem dX12_oneOf_14 : decode cX12_oneOf 14 = .ok (.ifCond .eq 5, 3) := dr9 dk9_dX12_oneOf_0_0 15 (14, .ifCond .eq 5, 3) rfl
theorem dX12_oneOf_19 : decode cX12_oneOf 19 = .ok (.iinc 3 1, 3) := dr9 dk9_dX12_oneOf_0_0 16 (19, .iinc 3 1, 3) rfl
theorem dX12_oneOf_22 : decode cX12_oneOf 22 = .ok (.goto (-20), 3) := dr9 dk9_dX12_oneOf_0_0 17 (22, .goto (-20), 3) rfl
theorem dX12_oneOf_17 : decode cX12_oneOf 17 = .ok (.iload_n 3, 1) := dr9 dk9_dX12_oneOf_0_0 18 (17, .iload_n 3, 1) rfl
theorem dX12_oneOf_18 : decode cX12_oneOf 18 = .ok (.ireturn, 1) := dr9 dk9_dX12_oneOf_0_0 19 (18, .ireturn, 1) rfl
theorem dk9_dX12_find_0_0 : dOk cX12_find [(0, .iconst (-1), 1), (1, .istore 6, 2), (3, .iconst 0, 1), (4, .istore 7, 2), (6, .iload 7, 2), (8, .iload_n 3, 1), (9, .if_icmp .ge 30, 3), (39, .iload 6, 2), (41, .ireturn, 1), (12, .aload_n 1, 1), (13, .iload_n 2, 1), (14, .iload 7, 2), (16, .iadd, 1), (17, .laload, 1), (18, .lload 4, 2), (20, .lcmp, 1), (21, .ifCond .ne 8, 3), (29, .iload 6, 2), (31, .istore 6, 2), (33, .iinc 7 1, 3), (36, .goto (-30), 3), (24, .iload 7, 2), (26, .goto 5, 3)] = true := by decide +kernel
theorem dX12_find_0 : decode cX12_find 0 = .ok (.iconst (-1), 1) := dr9 dk9_dX12_find_0_0 0 (0, .iconst (-1), 1) rfl
theorem dX12_find_1 : decode cX12_find 1 = .ok (.istore 6, 2) := dr9 dk9_dX12_find_0_0 1 (1, .istore 6, 2) rfl
theorem dX12_find_3 : decode cX12_find 3 = .ok (.iconst 0, 1) := dr9 dk9_dX12_find_0_0 2 (3, .iconst 0, 1) rfl
theorem dX12_find_4 : decode cX12_find 4 = .ok (.istore 7, 2) := dr9 dk9_dX12_find_0_0 3 (4, .istore 7, 2) rfl
theorem dX12_find_6 : decode cX12_find 6 = .ok (.iload 7, 2) := dr9 dk9_dX12_find_0_0 4 (6, .iload 7, 2) rfl
theorem dX12_find_8 : decode cX12_find 8 = .ok (.iload_n 3, 1) := dr9 dk9_dX12_find_0_0 5 (8, .iload_n 3, 1) rfl
theorem dX12_find_9 : decode cX12_find 9 = .ok (.if_icmp .ge 30, 3) := dr9 dk9_dX12_find_0_0 6 (9, .if_icmp .ge 30, 3) rfl
theorem dX12_find_39 : decode cX12_find 39 = .ok (.iload 6, 2) := dr9 dk9_dX12_find_0_0 7 (39, .iload 6, 2) rfl
theorem dX12_find_41 : decode cX12_find 41 = .ok (.ireturn, 1) := dr9 dk9_dX12_find_0_0 8 (41, .ireturn, 1) rfl
theorem dX12_find_12 : decode cX12_find 12 = .ok (.aload_n 1, 1) := dr9 dk9_dX12_find_0_0 9 (12, .aload_n 1, 1) rfl
theorem dX12_find_13 : decode cX12_find 13 = .ok (.iload_n 2, 1) := dr9 dk9_dX12_find_0_0 10 (13, .iload_n 2, 1) rfl
theorem dX12_find_14 : decode cX12_find 14 = .ok (.iload 7, 2) := dr9 dk9_dX12_find_0_0 11 (14, .iload 7, 2) rfl
theorem dX12_find_16 : decode cX12_find 16 = .ok (.iadd, 1) := dr9 dk9_dX12_find_0_0 12 (16, .iadd, 1) rfl
theorem dX12_find_17 : decode cX12_find 17 = .ok (.laload, 1) := dr9 dk9_dX12_find_0_0 13 (17, .laload, 1) rfl
theorem dX12_find_18 : decode cX12_find 18 = .ok (.lload 4, 2) := dr9 dk9_dX12_find_0_0 14 (18, .lload 4, 2) rfl
theorem dX12_find_20 : decode cX12_find 20 = .ok (.lcmp, 1) := dr9 dk9_dX12_find_0_0 15 (20, .lcmp, 1) rfl
theorem dX12_find_21 : decode cX12_find 21 = .ok (.ifCond .ne 8, 3) := dr9 dk9_dX12_find_0_0 16 (21, .ifCond .ne 8, 3) rfl
theorem dX12_find_29 : decode cX12_find 29 = .ok (.iload 6, 2) := dr9 dk9_dX12_find_0_0 17 (29, .iload 6, 2) rfl
theorem dX12_find_31 : decode cX12_find 31 = .ok (.istore 6, 2) := dr9 dk9_dX12_find_0_0 18 (31, .istore 6, 2) rfl
theorem dX12_find_33 : decode cX12_find 33 = .ok (.iinc 7 1, 3) := dr9 dk9_dX12_find_0_0 19 (33, .iinc 7 1, 3) rfl
theorem dX12_find_36 : decode cX12_find 36 = .ok (.goto (-30), 3) := dr9 dk9_dX12_find_0_0 20 (36, .goto (-30), 3) rfl
theorem dX12_find_24 : decode cX12_find 24 = .ok (.iload 7, 2) := dr9 dk9_dX12_find_0_0 21 (24, .iload 7, 2) rfl
theorem dX12_find_26 : decode cX12_find 26 = .ok (.goto 5, 3) := dr9 dk9_dX12_find_0_0 22 (26, .goto 5, 3) rfl
theorem dk9_dX12_begins_0_0 : dOk cX12_begins [(0, .iload_n 1, 1), (1, .ifCond .eq 8, 3), (9, .aload_n 0, 1), (10, .dup, 1), (11, .getfield 264, 3), (14, .iconst 1, 1), (15, .iadd, 1), (16, .putfield 264, 3), (19, .return_, 1), (4, .aload_n 0, 1), (5, .iconst 5, 1), (6, .invokevirtual 273, 3)] = true := by decide +kernel
theorem dX12_begins_0 : decode cX12_begins 0 = .ok (.iload_n 1, 1) := dr9 dk9_dX12_begins_0_0 0 (0, .iload_n 1, 1) rfl
theorem dX12_begins_1 : decode cX12_begins 1 = .ok (.ifCond .eq 8, 3) := dr9 dk9_dX12_begins_0_0 1 (1, .ifCond .eq 8, 3) rfl
theorem dX12_begins_9 : decode cX12_begins 9 = .ok (.aload_n 0, 1) := dr9 dk9_dX12_begins_0_0 2 (9, .aload_n 0, 1) rfl
theorem dX12_begins_10 : decode cX12_begins 10 = .ok (.dup, 1) := dr9 dk9_dX12_begins_0_0 3 (10, .dup, 1) rfl
theorem dX12_begins_11 : decode cX12_begins 11 = .ok (.getfield 264, 3) := dr9 dk9_dX12_begins_0_0 4 (11, .getfield 264, 3) rfl
theorem dX12_begins_14 : decode cX12_begins 14 = .ok (.iconst 1, 1) := dr9 dk9_dX12_begins_0_0 5 (14, .iconst 1, 1) rfl
theorem dX12_begins_15 : decode cX12_begins 15 = .ok (.iadd, 1) := dr9 dk9_dX12_begins_0_0 6 (15, .iadd, 1) rfl
theorem dX12_begins_16 : decode cX12_begins 16 = .ok (.putfield 264, 3) := dr9 dk9_dX12_begins_0_0 7 (16, .putfield 264, 3) rfl
theorem dX12_begins_19 : decode cX12_begins 19 = .ok (.return_, 1) := dr9 dk9_dX12_begins_0_0 8 (19, .return_, 1) rfl
theorem dX12_begins_4 : decode cX12_begins 4 = .ok (.aload_n 0, 1) := dr9 dk9_dX12_begins_0_0 9 (4, .aload_n 0, 1) rfl
theorem dX12_begins_5 : decode cX12_begins 5 = .ok (.iconst 5, 1) := dr9 dk9_dX12_begins_0_0 10 (5, .iconst 5, 1) rfl
theorem dX12_begins_6 : decode cX12_begins 6 = .ok (.invokevirtual 273, 3) := dr9 dk9_dX12_begins_0_0 11 (6, .invokevirtual 273, 3) rfl
theorem dk9_dX12_newName_0_0 : dOk cX12_newName [(0, .aload_n 0, 1), (1, .getfield 267, 3), (4, .ifCond .ne 18, 3), (22, .aload_n 0, 1), (23, .getfield 267, 3), (26, .ifCond .ne 116, 3), (142, .aload_n 0, 1), (143, .dup, 1), (144, .getfield 264, 3), (147, .iconst 1, 1), (148, .iadd, 1), (149, .putfield 264, 3), (152, .aload_n 0, 1), (153, .getfield 30, 3), (156, .aload_n 0, 1), (157, .getfield 264, 3), (160, .iconst 1, 1), (161, .isub, 1), (162, .laload, 1), (163, .lreturn, 1), (7, .aload_n 0, 1), (8, .invokevirtual 313, 3), (11, .ifCond .ne 11, 3), (29, .aload_n 0, 1)] = true ∧ dOk cX12_newName [(30, .aload_n 0, 1), (31, .getfield 46, 3), (34, .bipush 24, 2), (36, .aload_n 0, 1), (37, .getfield 289, 3), (40, .imul, 1), (41, .aload_n 0, 1), (42, .getfield 43, 3), (45, .aload_n 0, 1), (46, .getfield 289, 3), (49, .iaload, 1), (50, .aload_n 0, 1), (51, .getfield 30, 3), (54, .aload_n 0, 1), (55, .getfield 264, 3), (58, .laload, 1), (59, .invokevirtual 317, 3), (62, .ifCond .ge 75, 3), (137, .aload_n 0, 1), (138, .iconst 3, 1), (139, .invokevirtual 273, 3), (65, .aload_n 0, 1), (66, .aload_n 0, 1), (67, .getfield 56, 3)] = true ∧ dOk cX12_newName [(70, .bipush 12, 2), (72, .aload_n 0, 1), (73, .getfield 289, 3), (76, .imul, 1), (77, .aload_n 0, 1), (78, .getfield 53, 3), (81, .aload_n 0, 1), (82, .getfield 289, 3), (85, .iaload, 1), (86, .aload_n 0, 1), (87, .getfield 30, 3), (90, .aload_n 0, 1), (91, .getfield 264, 3), (94, .laload, 1), (95, .invokevirtual 317, 3), (98, .ifCond .ge 39, 3), (101, .aload_n 0, 1), (102, .aload_n 0, 1), (103, .getfield 65, 3), (106, .bipush 24, 2), (108, .aload_n 0, 1), (109, .getfield 289, 3), (112, .imul, 1), (113, .aload_n 0, 1)] = true ∧ dOk cX12_newName [(114, .getfield 62, 3), (117, .aload_n 0, 1), (118, .getfield 289, 3), (121, .iaload, 1), (122, .aload_n 0, 1), (123, .getfield 30, 3), (126, .aload_n 0, 1), (127, .getfield 264, 3), (130, .laload, 1), (131, .invokevirtual 317, 3), (134, .ifCond .lt 8, 3), (14, .aload_n 0, 1), (15, .iconst 1, 1), (16, .invokevirtual 273, 3), (19, .goto 123, 3)] = true := by decide +kernel
theorem dX12_newName_0 : decode cX12_newName 0 = .ok (.aload_n 0, 1) := dr9 dk9_dX12_newName_0_0.1 0 (0, .aload_n 0, 1) rfl
theorem dX12_newName_1 : decode cX12_newName 1 = .ok (.getfield 267, 3) := dr9 dk9_dX12_newName_0_0.1 1 (1, .getfield 267, 3) rfl
theorem dX12_newName_4 : decode cX12_newName 4 = .ok (.ifCond .ne 18, 3) := dr9 dk9_dX12_newName_0_0.1 2 (4, .ifCond .ne 18, 3) rfl
theorem dX12_newName_22 : decode cX12_newName 22 = .ok (.aload_n 0, 1) := dr9 dk9_dX12_newName_0_0.1 3 (22, .aload_n 0, 1) rfl
theorem dX12_newName_23 : decode cX12_newName 23 = .ok (.getfield 267, 3) := dr9 dk9_dX12_newName_0_0.1 4 (23, .getfield 267, 3) rfl
theorem dX12_newName_26 : decode cX12_newName 26 = .ok (.ifCond .ne 116, 3) := dr9 dk9_dX12_newName_0_0.1 5 (26, .ifCond .ne 116, 3) rfl
theorem dX12_newName_142 : decode cX12_newName 142 = .ok (.aload_n 0, 1) := dr9 dk9_dX12_newName_0_0.1 6 (142, .aload_n 0, 1) rfl
theorem dX12_newName_143 : decode cX12_newName 143 = .ok (.dup, 1) := dr9 dk9_dX12_newName_0_0.1 7 (143, .dup, 1) rfl
theorem dX12_newName_144 : decode cX12_newName 144 = .ok (.getfield 264, 3) := dr9 dk9_dX12_newName_0_0.1 8 (144, .getfield 264, 3) rfl
theorem dX12_newName_147 : decode cX12_newName 147 = .ok (.iconst 1, 1) := dr9 dk9_dX12_newName_0_0.1 9 (147, .iconst 1, 1) rfl
theorem dX12_newName_148 : decode cX12_newName 148 = .ok (.iadd, 1) := dr9 dk9_dX12_newName_0_0.1 10 (148, .iadd, 1) rfl
theorem dX12_newName_149 : decode cX12_newName 149 = .ok (.putfield 264, 3) := dr9 dk9_dX12_newName_0_0.1 11 (149, .putfield 264, 3) rfl
theorem dX12_newName_152 : decode cX12_newName 152 = .ok (.aload_n 0, 1) := dr9 dk9_dX12_newName_0_0.1 12 (152, .aload_n 0, 1) rfl
theorem dX12_newName_153 : decode cX12_newName 153 = .ok (.getfield 30, 3) := dr9 dk9_dX12_newName_0_0.1 13 (153, .getfield 30, 3) rfl
theorem dX12_newName_156 : decode cX12_newName 156 = .ok (.aload_n 0, 1) := dr9 dk9_dX12_newName_0_0.1 14 (156, .aload_n 0, 1) rfl
theorem dX12_newName_157 : decode cX12_newName 157 = .ok (.getfield 264, 3) := dr9 dk9_dX12_newName_0_0.1 15 (157, .getfield 264, 3) rfl
theorem dX12_newName_160 : decode cX12_newName 160 = .ok (.iconst 1, 1) := dr9 dk9_dX12_newName_0_0.1 16 (160, .iconst 1, 1) rfl
theorem dX12_newName_161 : decode cX12_newName 161 = .ok (.isub, 1) := dr9 dk9_dX12_newName_0_0.1 17 (161, .isub, 1) rfl
theorem dX12_newName_162 : decode cX12_newName 162 = .ok (.laload, 1) := dr9 dk9_dX12_newName_0_0.1 18 (162, .laload, 1) rfl
theorem dX12_newName_163 : decode cX12_newName 163 = .ok (.lreturn, 1) := dr9 dk9_dX12_newName_0_0.1 19 (163, .lreturn, 1) rfl
theorem dX12_newName_7 : decode cX12_newName 7 = .ok (.aload_n 0, 1) := dr9 dk9_dX12_newName_0_0.1 20 (7, .aload_n 0, 1) rfl
theorem dX12_newName_8 : decode cX12_newName 8 = .ok (.invokevirtual 313, 3) := dr9 dk9_dX12_newName_0_0.1 21 (8, .invokevirtual 313, 3) rfl
theorem dX12_newName_11 : decode cX12_newName 11 = .ok (.ifCond .ne 11, 3) := dr9 dk9_dX12_newName_0_0.1 22 (11, .ifCond .ne 11, 3) rfl
theorem dX12_newName_29 : decode cX12_newName 29 = .ok (.aload_n 0, 1) := dr9 dk9_dX12_newName_0_0.1 23 (29, .aload_n 0, 1) rfl
theorem dX12_newName_30 : decode cX12_newName 30 = .ok (.aload_n 0, 1) := dr9 dk9_dX12_newName_0_0.2.1 0 (30, .aload_n 0, 1) rfl
theorem dX12_newName_31 : decode cX12_newName 31 = .ok (.getfield 46, 3) := dr9 dk9_dX12_newName_0_0.2.1 1 (31, .getfield 46, 3) rfl
theorem dX12_newName_34 : decode cX12_newName 34 = .ok (.bipush 24, 2) := dr9 dk9_dX12_newName_0_0.2.1 2 (34, .bipush 24, 2) rfl
theorem dX12_newName_36 : decode cX12_newName 36 = .ok (.aload_n 0, 1) := dr9 dk9_dX12_newName_0_0.2.1 3 (36, .aload_n 0, 1) rfl
theorem dX12_newName_37 : decode cX12_newName 37 = .ok (.getfield 289, 3) := dr9 dk9_dX12_newName_0_0.2.1 4 (37, .getfield 289, 3) rfl
theorem dX12_newName_40 : decode cX12_newName 40 = .ok (.imul, 1) := dr9 dk9_dX12_newName_0_0.2.1 5 (40, .imul, 1) rfl
theorem dX12_newName_41 : decode cX12_newName 41 = .ok (.aload_n 0, 1) := dr9 dk9_dX12_newName_0_0.2.1 6 (41, .aload_n 0, 1) rfl
theorem dX12_newName_42 : decode cX12_newName 42 = .ok (.getfield 43, 3) := dr9 dk9_dX12_newName_0_0.2.1 7 (42, .getfield 43, 3) rfl
theorem dX12_newName_45 : decode cX12_newName 45 = .ok (.aload_n 0, 1) := dr9 dk9_dX12_newName_0_0.2.1 8 (45, .aload_n 0, 1) rfl
theorem dX12_newName_46 : decode cX12_newName 46 = .ok (.getfield 289, 3) := dr9 dk9_dX12_newName_0_0.2.1 9 (46, .getfield 289, 3) rfl
theorem dX12_newName_49 : decode cX12_newName 49 = .ok (.iaload, 1) := dr9 dk9_dX12_newName_0_0.2.1 10 (49, .iaload, 1) rfl
theorem dX12_newName_50 : decode cX12_newName 50 = .ok (.aload_n 0, 1) := dr9 dk9_dX12_newName_0_0.2.1 11 (50, .aload_n 0, 1) rfl
theorem dX12_newName_51 : decode cX12_newName 51 = .ok (.getfield 30, 3) := dr9 dk9_dX12_newName_0_0.2.1 12 (51, .getfield 30, 3) rfl
theorem dX12_newName_54 : decode cX12_newName 54 = .ok (.aload_n 0, 1) := dr9 dk9_dX12_newName_0_0.2.1 13 (54, .aload_n 0, 1) rfl
theorem dX12_newName_55 : decode cX12_newName 55 = .ok (.getfield 264, 3) := dr9 dk9_dX12_newName_0_0.2.1 14 (55, .getfield 264, 3) rfl
theorem dX12_newName_58 : decode cX12_newName 58 = .ok (.laload, 1) := dr9 dk9_dX12_newName_0_0.2.1 15 (58, .laload, 1) rfl
theorem dX12_newName_59 : decode cX12_newName 59 = .ok (.invokevirtual 317, 3) := dr9 dk9_dX12_newName_0_0.2.1 16 (59, .invokevirtual 317, 3) rfl
theorem dX12_newName_62 : decode cX12_newName 62 = .ok (.ifCond .ge 75, 3) := dr9 dk9_dX12_newName_0_0.2.1 17 (62, .ifCond .ge 75, 3) rfl
theorem dX12_newName_137 : decode cX12_newName 137 = .ok (.aload_n 0, 1) := dr9 dk9_dX12_newName_0_0.2.1 18 (137, .aload_n 0, 1) rfl
theorem dX12_newName_138 : decode cX12_newName 138 = .ok (.iconst 3, 1) := dr9 dk9_dX12_newName_0_0.2.1 19 (138, .iconst 3, 1) rfl
theorem dX12_newName_139 : decode cX12_newName 139 = .ok (.invokevirtual 273, 3) := dr9 dk9_dX12_newName_0_0.2.1 20 (139, .invokevirtual 273, 3) rfl
theorem dX12_newName_65 : decode cX12_newName 65 = .ok (.aload_n 0, 1) := dr9 dk9_dX12_newName_0_0.2.1 21 (65, .aload_n 0, 1) rfl
theorem dX12_newName_66 : decode cX12_newName 66 = .ok (.aload_n 0, 1) := dr9 dk9_dX12_newName_0_0.2.1 22 (66, .aload_n 0, 1) rfl
theorem dX12_newName_67 : decode cX12_newName 67 = .ok (.getfield 56, 3) := dr9 dk9_dX12_newName_0_0.2.1 23 (67, .getfield 56, 3) rfl
theorem dX12_newName_70 : decode cX12_newName 70 = .ok (.bipush 12, 2) := dr9 dk9_dX12_newName_0_0.2.2.1 0 (70, .bipush 12, 2) rfl
theorem dX12_newName_72 : decode cX12_newName 72 = .ok (.aload_n 0, 1) := dr9 dk9_dX12_newName_0_0.2.2.1 1 (72, .aload_n 0, 1) rfl
theorem dX12_newName_73 : decode cX12_newName 73 = .ok (.getfield 289, 3) := dr9 dk9_dX12_newName_0_0.2.2.1 2 (73, .getfield 289, 3) rfl
theorem dX12_newName_76 : decode cX12_newName 76 = .ok (.imul, 1) := dr9 dk9_dX12_newName_0_0.2.2.1 3 (76, .imul, 1) rfl
theorem dX12_newName_77 : decode cX12_newName 77 = .ok (.aload_n 0, 1) := dr9 dk9_dX12_newName_0_0.2.2.1 4 (77, .aload_n 0, 1) rfl
theorem dX12_newName_78 : decode cX12_newName 78 = .ok (.getfield 53, 3) := dr9 dk9_dX12_newName_0_0.2.2.1 5 (78, .getfield 53, 3) rfl
theorem dX12_newName_81 : decode cX12_newName 81 = .ok (.aload_n 0, 1) := dr9 dk9_dX12_newName_0_0.2.2.1 6 (81, .aload_n 0, 1) rfl
theorem dX12_newName_82 : decode cX12_newName 82 = .ok (.getfield 289, 3) := dr9 dk9_dX12_newName_0_0.2.2.1 7 (82, .getfield 289, 3) rfl
theorem dX12_newName_85 : decode cX12_newName 85 = .ok (.iaload, 1) := dr9 dk9_dX12_newName_0_0.2.2.1 8 (85, .iaload, 1) rfl
theorem dX12_newName_86 : decode cX12_newName 86 = .ok (.aload_n 0, 1) := dr9 dk9_dX12_newName_0_0.2.2.1 9 (86, .aload_n 0, 1) rfl
theorem dX12_newName_87 : decode cX12_newName 87 = .ok (.getfield 30, 3) := dr9 dk9_dX12_newName_0_0.2.2.1 10 (87, .getfield 30, 3) rfl
theorem dX12_newName_90 : decode cX12_newName 90 = .ok (.aload_n 0, 1) := dr9 dk9_dX12_newName_0_0.2.2.1 11 (90, .aload_n 0, 1) rfl
theorem dX12_newName_91 : decode cX12_newName 91 = .ok (.getfield 264, 3) := dr9 dk9_dX12_newName_0_0.2.2.1 12 (91, .getfield 264, 3) rfl
theorem dX12_newName_94 : decode cX12_newName 94 = .ok (.laload, 1) := dr9 dk9_dX12_newName_0_0.2.2.1 13 (94, .laload, 1) rfl
theorem dX12_newName_95 : decode cX12_newName 95 = .ok (.invokevirtual 317, 3) := dr9 dk9_dX12_newName_0_0.2.2.1 14 (95, .invokevirtual 317, 3) rfl
theorem dX12_newName_98 : decode cX12_newName 98 = .ok (.ifCond .ge 39, 3) := dr9 dk9_dX12_newName_0_0.2.2.1 15 (98, .ifCond .ge 39, 3) rfl
theorem dX12_newName_101 : decode cX12_newName 101 = .ok (.aload_n 0, 1) := dr9 dk9_dX12_newName_0_0.2.2.1 16 (101, .aload_n 0, 1) rfl
theorem dX12_newName_102 : decode cX12_newName 102 = .ok (.aload_n 0, 1) := dr9 dk9_dX12_newName_0_0.2.2.1 17 (102, .aload_n 0, 1) rfl
theorem dX12_newName_103 : decode cX12_newName 103 = .ok (.getfield 65, 3) := dr9 dk9_dX12_newName_0_0.2.2.1 18 (103, .getfield 65, 3) rfl
theorem dX12_newName_106 : decode cX12_newName 106 = .ok (.bipush 24, 2) := dr9 dk9_dX12_newName_0_0.2.2.1 19 (106, .bipush 24, 2) rfl
theorem dX12_newName_108 : decode cX12_newName 108 = .ok (.aload_n 0, 1) := dr9 dk9_dX12_newName_0_0.2.2.1 20 (108, .aload_n 0, 1) rfl
theorem dX12_newName_109 : decode cX12_newName 109 = .ok (.getfield 289, 3) := dr9 dk9_dX12_newName_0_0.2.2.1 21 (109, .getfield 289, 3) rfl
theorem dX12_newName_112 : decode cX12_newName 112 = .ok (.imul, 1) := dr9 dk9_dX12_newName_0_0.2.2.1 22 (112, .imul, 1) rfl
theorem dX12_newName_113 : decode cX12_newName 113 = .ok (.aload_n 0, 1) := dr9 dk9_dX12_newName_0_0.2.2.1 23 (113, .aload_n 0, 1) rfl
theorem dX12_newName_114 : decode cX12_newName 114 = .ok (.getfield 62, 3) := dr9 dk9_dX12_newName_0_0.2.2.2 0 (114, .getfield 62, 3) rfl
theorem dX12_newName_117 : decode cX12_newName 117 = .ok (.aload_n 0, 1) := dr9 dk9_dX12_newName_0_0.2.2.2 1 (117, .aload_n 0, 1) rfl
theorem dX12_newName_118 : decode cX12_newName 118 = .ok (.getfield 289, 3) := dr9 dk9_dX12_newName_0_0.2.2.2 2 (118, .getfield 289, 3) rfl
theorem dX12_newName_121 : decode cX12_newName 121 = .ok (.iaload, 1) := dr9 dk9_dX12_newName_0_0.2.2.2 3 (121, .iaload, 1) rfl
theorem dX12_newName_122 : decode cX12_newName 122 = .ok (.aload_n 0, 1) := dr9 dk9_dX12_newName_0_0.2.2.2 4 (122, .aload_n 0, 1) rfl
theorem dX12_newName_123 : decode cX12_newName 123 = .ok (.getfield 30, 3) := dr9 dk9_dX12_newName_0_0.2.2.2 5 (123, .getfield 30, 3) rfl
theorem dX12_newName_126 : decode cX12_newName 126 = .ok (.aload_n 0, 1) := dr9 dk9_dX12_newName_0_0.2.2.2 6 (126, .aload_n 0, 1) rfl
theorem dX12_newName_127 : decode cX12_newName 127 = .ok (.getfield 264, 3) := dr9 dk9_dX12_newName_0_0.2.2.2 7 (127, .getfield 264, 3) rfl
theorem dX12_newName_130 : decode cX12_newName 130 = .ok (.laload, 1) := dr9 dk9_dX12_newName_0_0.2.2.2 8 (130, .laload, 1) rfl
theorem dX12_newName_131 : decode cX12_newName 131 = .ok (.invokevirtual 317, 3) := dr9 dk9_dX12_newName_0_0.2.2.2 9 (131, .invokevirtual 317, 3) rfl
theorem dX12_newName_134 : decode cX12_newName 134 = .ok (.ifCond .lt 8, 3) := dr9 dk9_dX12_newName_0_0.2.2.2 10 (134, .ifCond .lt 8, 3) rfl
theorem dX12_newName_14 : decode cX12_newName 14 = .ok (.aload_n 0, 1) := dr9 dk9_dX12_newName_0_0.2.2.2 11 (14, .aload_n 0, 1) rfl
theorem dX12_newName_15 : decode cX12_newName 15 = .ok (.iconst 1, 1) := dr9 dk9_dX12_newName_0_0.2.2.2 12 (15, .iconst 1, 1) rfl
theorem dX12_newName_16 : decode cX12_newName 16 = .ok (.invokevirtual 273, 3) := dr9 dk9_dX12_newName_0_0.2.2.2 13 (16, .invokevirtual 273, 3) rfl
theorem dX12_newName_19 : decode cX12_newName 19 = .ok (.goto 123, 3) := dr9 dk9_dX12_newName_0_0.2.2.2 14 (19, .goto 123, 3) rfl
theorem dk9_dX12_named_0_0 : dOk cX12_named [(0, .aload_n 0, 1), (1, .getfield 267, 3), (4, .ifCond .ne 15, 3), (19, .aload_n 0, 1), (20, .getfield 267, 3), (23, .ifCond .ne 22, 3), (45, .iconst (-1), 1), (46, .istore 4, 2), (48, .aload_n 0, 1), (49, .getfield 267, 3), (52, .ifCond .ne 13, 3), (65, .aload_n 0, 1), (66, .dup, 1), (67, .getfield 264, 3), (70, .iconst 1, 1), (71, .iadd, 1), (72, .putfield 264, 3), (75, .iload 4, 2), (77, .ireturn, 1), (7, .aload_n 0, 1), (8, .invokevirtual 313, 3), (11, .ifCond .ne 8, 3), (26, .aload_n 0, 1), (27, .aload_n 1, 1)] = true ∧ dOk cX12_named [(28, .iload_n 2, 1), (29, .iload_n 3, 1), (30, .aload_n 0, 1), (31, .getfield 30, 3), (34, .aload_n 0, 1), (35, .getfield 264, 3), (38, .laload, 1), (39, .invokevirtual 317, 3), (42, .goto 4, 3), (55, .iload 4, 2), (57, .ifCond .ge 8, 3), (60, .aload_n 0, 1), (61, .iconst 2, 1), (62, .invokevirtual 273, 3), (14, .aload_n 0, 1), (15, .iconst 1, 1), (16, .invokevirtual 273, 3)] = true := by decide +kernel
theorem dX12_named_0 : decode cX12_named 0 = .ok (.aload_n 0, 1) := dr9 dk9_dX12_named_0_0.1 0 (0, .aload_n 0, 1) rfl
theorem dX12_named_1 : decode cX12_named 1 = .ok (.getfield 267, 3) := dr9 dk9_dX12_named_0_0.1 1 (1, .getfield 267, 3) rfl
theorem dX12_named_4 : decode cX12_named 4 = .ok (.ifCond .ne 15, 3) := dr9 dk9_dX12_named_0_0.1 2 (4, .ifCond .ne 15, 3) rfl
theorem dX12_named_19 : decode cX12_named 19 = .ok (.aload_n 0, 1) := dr9 dk9_dX12_named_0_0.1 3 (19, .aload_n 0, 1) rfl
theorem dX12_named_20 : decode cX12_named 20 = .ok (.getfield 267, 3) := dr9 dk9_dX12_named_0_0.1 4 (20, .getfield 267, 3) rfl
theorem dX12_named_23 : decode cX12_named 23 = .ok (.ifCond .ne 22, 3) := dr9 dk9_dX12_named_0_0.1 5 (23, .ifCond .ne 22, 3) rfl
theorem dX12_named_45 : decode cX12_named 45 = .ok (.iconst (-1), 1) := dr9 dk9_dX12_named_0_0.1 6 (45, .iconst (-1), 1) rfl
theorem dX12_named_46 : decode cX12_named 46 = .ok (.istore 4, 2) := dr9 dk9_dX12_named_0_0.1 7 (46, .istore 4, 2) rfl
theorem dX12_named_48 : decode cX12_named 48 = .ok (.aload_n 0, 1) := dr9 dk9_dX12_named_0_0.1 8 (48, .aload_n 0, 1) rfl
theorem dX12_named_49 : decode cX12_named 49 = .ok (.getfield 267, 3) := dr9 dk9_dX12_named_0_0.1 9 (49, .getfield 267, 3) rfl
theorem dX12_named_52 : decode cX12_named 52 = .ok (.ifCond .ne 13, 3) := dr9 dk9_dX12_named_0_0.1 10 (52, .ifCond .ne 13, 3) rfl
theorem dX12_named_65 : decode cX12_named 65 = .ok (.aload_n 0, 1) := dr9 dk9_dX12_named_0_0.1 11 (65, .aload_n 0, 1) rfl
theorem dX12_named_66 : decode cX12_named 66 = .ok (.dup, 1) := dr9 dk9_dX12_named_0_0.1 12 (66, .dup, 1) rfl
theorem dX12_named_67 : decode cX12_named 67 = .ok (.getfield 264, 3) := dr9 dk9_dX12_named_0_0.1 13 (67, .getfield 264, 3) rfl
theorem dX12_named_70 : decode cX12_named 70 = .ok (.iconst 1, 1) := dr9 dk9_dX12_named_0_0.1 14 (70, .iconst 1, 1) rfl
theorem dX12_named_71 : decode cX12_named 71 = .ok (.iadd, 1) := dr9 dk9_dX12_named_0_0.1 15 (71, .iadd, 1) rfl
theorem dX12_named_72 : decode cX12_named 72 = .ok (.putfield 264, 3) := dr9 dk9_dX12_named_0_0.1 16 (72, .putfield 264, 3) rfl
theorem dX12_named_75 : decode cX12_named 75 = .ok (.iload 4, 2) := dr9 dk9_dX12_named_0_0.1 17 (75, .iload 4, 2) rfl
theorem dX12_named_77 : decode cX12_named 77 = .ok (.ireturn, 1) := dr9 dk9_dX12_named_0_0.1 18 (77, .ireturn, 1) rfl
theorem dX12_named_7 : decode cX12_named 7 = .ok (.aload_n 0, 1) := dr9 dk9_dX12_named_0_0.1 19 (7, .aload_n 0, 1) rfl
theorem dX12_named_8 : decode cX12_named 8 = .ok (.invokevirtual 313, 3) := dr9 dk9_dX12_named_0_0.1 20 (8, .invokevirtual 313, 3) rfl
theorem dX12_named_11 : decode cX12_named 11 = .ok (.ifCond .ne 8, 3) := dr9 dk9_dX12_named_0_0.1 21 (11, .ifCond .ne 8, 3) rfl
theorem dX12_named_26 : decode cX12_named 26 = .ok (.aload_n 0, 1) := dr9 dk9_dX12_named_0_0.1 22 (26, .aload_n 0, 1) rfl
theorem dX12_named_27 : decode cX12_named 27 = .ok (.aload_n 1, 1) := dr9 dk9_dX12_named_0_0.1 23 (27, .aload_n 1, 1) rfl
theorem dX12_named_28 : decode cX12_named 28 = .ok (.iload_n 2, 1) := dr9 dk9_dX12_named_0_0.2 0 (28, .iload_n 2, 1) rfl
theorem dX12_named_29 : decode cX12_named 29 = .ok (.iload_n 3, 1) := dr9 dk9_dX12_named_0_0.2 1 (29, .iload_n 3, 1) rfl
theorem dX12_named_30 : decode cX12_named 30 = .ok (.aload_n 0, 1) := dr9 dk9_dX12_named_0_0.2 2 (30, .aload_n 0, 1) rfl
theorem dX12_named_31 : decode cX12_named 31 = .ok (.getfield 30, 3) := dr9 dk9_dX12_named_0_0.2 3 (31, .getfield 30, 3) rfl
theorem dX12_named_34 : decode cX12_named 34 = .ok (.aload_n 0, 1) := dr9 dk9_dX12_named_0_0.2 4 (34, .aload_n 0, 1) rfl
theorem dX12_named_35 : decode cX12_named 35 = .ok (.getfield 264, 3) := dr9 dk9_dX12_named_0_0.2 5 (35, .getfield 264, 3) rfl
theorem dX12_named_38 : decode cX12_named 38 = .ok (.laload, 1) := dr9 dk9_dX12_named_0_0.2 6 (38, .laload, 1) rfl
theorem dX12_named_39 : decode cX12_named 39 = .ok (.invokevirtual 317, 3) := dr9 dk9_dX12_named_0_0.2 7 (39, .invokevirtual 317, 3) rfl
theorem dX12_named_42 : decode cX12_named 42 = .ok (.goto 4, 3) := dr9 dk9_dX12_named_0_0.2 8 (42, .goto 4, 3) rfl
theorem dX12_named_55 : decode cX12_named 55 = .ok (.iload 4, 2) := dr9 dk9_dX12_named_0_0.2 9 (55, .iload 4, 2) rfl
theorem dX12_named_57 : decode cX12_named 57 = .ok (.ifCond .ge 8, 3) := dr9 dk9_dX12_named_0_0.2 10 (57, .ifCond .ge 8, 3) rfl
theorem dX12_named_60 : decode cX12_named 60 = .ok (.aload_n 0, 1) := dr9 dk9_dX12_named_0_0.2 11 (60, .aload_n 0, 1) rfl
theorem dX12_named_61 : decode cX12_named 61 = .ok (.iconst 2, 1) := dr9 dk9_dX12_named_0_0.2 12 (61, .iconst 2, 1) rfl
theorem dX12_named_62 : decode cX12_named 62 = .ok (.invokevirtual 273, 3) := dr9 dk9_dX12_named_0_0.2 13 (62, .invokevirtual 273, 3) rfl
theorem dX12_named_14 : decode cX12_named 14 = .ok (.aload_n 0, 1) := dr9 dk9_dX12_named_0_0.2 14 (14, .aload_n 0, 1) rfl
theorem dX12_named_15 : decode cX12_named 15 = .ok (.iconst 1, 1) := dr9 dk9_dX12_named_0_0.2 15 (15, .iconst 1, 1) rfl
theorem dX12_named_16 : decode cX12_named 16 = .ok (.invokevirtual 273, 3) := dr9 dk9_dX12_named_0_0.2 16 (16, .invokevirtual 273, 3) rfl
theorem dk9_dX12_takeType_0_0 : dOk cX12_takeType [(0, .aload_n 0, 1), (1, .aload_n 0, 1), (2, .getfield 46, 3), (5, .bipush 24, 2), (7, .aload_n 0, 1), (8, .getfield 289, 3), (11, .imul, 1), (12, .aload_n 0, 1), (13, .getfield 43, 3), (16, .aload_n 0, 1), (17, .getfield 289, 3), (20, .iaload, 1), (21, .invokevirtual 321, 3), (24, .ireturn, 1)] = true := by decide +kernel
theorem dX12_takeType_0 : decode cX12_takeType 0 = .ok (.aload_n 0, 1) := dr9 dk9_dX12_takeType_0_0 0 (0, .aload_n 0, 1) rfl
theorem dX12_takeType_1 : decode cX12_takeType 1 = .ok (.aload_n 0, 1) := dr9 dk9_dX12_takeType_0_0 1 (1, .aload_n 0, 1) rfl
theorem dX12_takeType_2 : decode cX12_takeType 2 = .ok (.getfield 46, 3) := dr9 dk9_dX12_takeType_0_0 2 (2, .getfield 46, 3) rfl
theorem dX12_takeType_5 : decode cX12_takeType 5 = .ok (.bipush 24, 2) := dr9 dk9_dX12_takeType_0_0 3 (5, .bipush 24, 2) rfl
theorem dX12_takeType_7 : decode cX12_takeType 7 = .ok (.aload_n 0, 1) := dr9 dk9_dX12_takeType_0_0 4 (7, .aload_n 0, 1) rfl
theorem dX12_takeType_8 : decode cX12_takeType 8 = .ok (.getfield 289, 3) := dr9 dk9_dX12_takeType_0_0 5 (8, .getfield 289, 3) rfl
theorem dX12_takeType_11 : decode cX12_takeType 11 = .ok (.imul, 1) := dr9 dk9_dX12_takeType_0_0 6 (11, .imul, 1) rfl
theorem dX12_takeType_12 : decode cX12_takeType 12 = .ok (.aload_n 0, 1) := dr9 dk9_dX12_takeType_0_0 7 (12, .aload_n 0, 1) rfl
theorem dX12_takeType_13 : decode cX12_takeType 13 = .ok (.getfield 43, 3) := dr9 dk9_dX12_takeType_0_0 8 (13, .getfield 43, 3) rfl
theorem dX12_takeType_16 : decode cX12_takeType 16 = .ok (.aload_n 0, 1) := dr9 dk9_dX12_takeType_0_0 9 (16, .aload_n 0, 1) rfl
theorem dX12_takeType_17 : decode cX12_takeType 17 = .ok (.getfield 289, 3) := dr9 dk9_dX12_takeType_0_0 10 (17, .getfield 289, 3) rfl
theorem dX12_takeType_20 : decode cX12_takeType 20 = .ok (.iaload, 1) := dr9 dk9_dX12_takeType_0_0 11 (20, .iaload, 1) rfl
theorem dX12_takeType_21 : decode cX12_takeType 21 = .ok (.invokevirtual 321, 3) := dr9 dk9_dX12_takeType_0_0 12 (21, .invokevirtual 321, 3) rfl
theorem dX12_takeType_24 : decode cX12_takeType 24 = .ok (.ireturn, 1) := dr9 dk9_dX12_takeType_0_0 13 (24, .ireturn, 1) rfl
theorem dk9_dX12_takeWordOf_0_0 : dOk cX12_takeWordOf [(0, .aload_n 0, 1), (1, .getfield 267, 3), (4, .ifCond .ne 15, 3), (19, .aload_n 0, 1), (20, .getfield 267, 3), (23, .ifCond .ne 33, 3), (56, .iconst (-1), 1), (57, .istore_n 3, 1), (58, .aload_n 0, 1), (59, .getfield 267, 3), (62, .ifCond .ne 23, 3), (85, .aload_n 0, 1), (86, .getfield 267, 3), (89, .ifCond .ne 44, 3), (133, .aload_n 0, 1), (134, .dup, 1), (135, .getfield 264, 3), (138, .iconst 1, 1), (139, .iadd, 1), (140, .putfield 264, 3), (143, .iload_n 3, 1), (144, .ireturn, 1), (7, .aload_n 0, 1), (8, .invokevirtual 313, 3)] = true ∧ dOk cX12_takeWordOf [(11, .ifCond .ne 8, 3), (26, .aload_n 0, 1), (27, .aload_n 1, 1), (28, .bipush 20, 2), (30, .aload_n 0, 1), (31, .getfield 289, 3), (34, .imul, 1), (35, .aload_n 2, 1), (36, .aload_n 0, 1), (37, .getfield 289, 3), (40, .iaload, 1), (41, .aload_n 0, 1), (42, .getfield 30, 3), (45, .aload_n 0, 1), (46, .getfield 264, 3), (49, .laload, 1), (50, .invokevirtual 317, 3), (53, .goto 4, 3), (65, .iload_n 3, 1), (66, .ifCond .ge 19, 3), (92, .iload_n 3, 1), (93, .ifCond .ge 40, 3), (69, .aload_n 2, 1), (70, .aload_n 0, 1)] = true ∧ dOk cX12_takeWordOf [(71, .getfield 289, 3), (74, .iaload, 1), (75, .bipush 20, 2), (77, .if_icmp .ne 8, 3), (96, .aload_n 2, 1), (97, .aload_n 0, 1), (98, .getfield 289, 3), (101, .iaload, 1), (102, .istore_n 3, 1), (103, .aload_n 1, 1), (104, .bipush 20, 2), (106, .aload_n 0, 1), (107, .getfield 289, 3), (110, .imul, 1), (111, .iload_n 3, 1), (112, .iadd, 1), (113, .aload_n 0, 1), (114, .getfield 30, 3), (117, .aload_n 0, 1), (118, .getfield 264, 3), (121, .laload, 1), (122, .lastore, 1), (123, .aload_n 2, 1), (124, .aload_n 0, 1)] = true ∧ dOk cX12_takeWordOf [(125, .getfield 289, 3), (128, .dup2, 1), (129, .iaload, 1), (130, .iconst 1, 1), (131, .iadd, 1), (132, .iastore, 1), (80, .aload_n 0, 1), (81, .iconst 5, 1), (82, .invokevirtual 273, 3), (14, .aload_n 0, 1), (15, .iconst 1, 1), (16, .invokevirtual 273, 3)] = true := by decide +kernel
theorem dX12_takeWordOf_0 : decode cX12_takeWordOf 0 = .ok (.aload_n 0, 1) := dr9 dk9_dX12_takeWordOf_0_0.1 0 (0, .aload_n 0, 1) rfl
theorem dX12_takeWordOf_1 : decode cX12_takeWordOf 1 = .ok (.getfield 267, 3) := dr9 dk9_dX12_takeWordOf_0_0.1 1 (1, .getfield 267, 3) rfl
theorem dX12_takeWordOf_4 : decode cX12_takeWordOf 4 = .ok (.ifCond .ne 15, 3) := dr9 dk9_dX12_takeWordOf_0_0.1 2 (4, .ifCond .ne 15, 3) rfl
theorem dX12_takeWordOf_19 : decode cX12_takeWordOf 19 = .ok (.aload_n 0, 1) := dr9 dk9_dX12_takeWordOf_0_0.1 3 (19, .aload_n 0, 1) rfl
theorem dX12_takeWordOf_20 : decode cX12_takeWordOf 20 = .ok (.getfield 267, 3) := dr9 dk9_dX12_takeWordOf_0_0.1 4 (20, .getfield 267, 3) rfl
theorem dX12_takeWordOf_23 : decode cX12_takeWordOf 23 = .ok (.ifCond .ne 33, 3) := dr9 dk9_dX12_takeWordOf_0_0.1 5 (23, .ifCond .ne 33, 3) rfl
theorem dX12_takeWordOf_56 : decode cX12_takeWordOf 56 = .ok (.iconst (-1), 1) := dr9 dk9_dX12_takeWordOf_0_0.1 6 (56, .iconst (-1), 1) rfl
theorem dX12_takeWordOf_57 : decode cX12_takeWordOf 57 = .ok (.istore_n 3, 1) := dr9 dk9_dX12_takeWordOf_0_0.1 7 (57, .istore_n 3, 1) rfl
theorem dX12_takeWordOf_58 : decode cX12_takeWordOf 58 = .ok (.aload_n 0, 1) := dr9 dk9_dX12_takeWordOf_0_0.1 8 (58, .aload_n 0, 1) rfl
theorem dX12_takeWordOf_59 : decode cX12_takeWordOf 59 = .ok (.getfield 267, 3) := dr9 dk9_dX12_takeWordOf_0_0.1 9 (59, .getfield 267, 3) rfl
theorem dX12_takeWordOf_62 : decode cX12_takeWordOf 62 = .ok (.ifCond .ne 23, 3) := dr9 dk9_dX12_takeWordOf_0_0.1 10 (62, .ifCond .ne 23, 3) rfl
theorem dX12_takeWordOf_85 : decode cX12_takeWordOf 85 = .ok (.aload_n 0, 1) := dr9 dk9_dX12_takeWordOf_0_0.1 11 (85, .aload_n 0, 1) rfl
theorem dX12_takeWordOf_86 : decode cX12_takeWordOf 86 = .ok (.getfield 267, 3) := dr9 dk9_dX12_takeWordOf_0_0.1 12 (86, .getfield 267, 3) rfl
theorem dX12_takeWordOf_89 : decode cX12_takeWordOf 89 = .ok (.ifCond .ne 44, 3) := dr9 dk9_dX12_takeWordOf_0_0.1 13 (89, .ifCond .ne 44, 3) rfl
theorem dX12_takeWordOf_133 : decode cX12_takeWordOf 133 = .ok (.aload_n 0, 1) := dr9 dk9_dX12_takeWordOf_0_0.1 14 (133, .aload_n 0, 1) rfl
theorem dX12_takeWordOf_134 : decode cX12_takeWordOf 134 = .ok (.dup, 1) := dr9 dk9_dX12_takeWordOf_0_0.1 15 (134, .dup, 1) rfl
theorem dX12_takeWordOf_135 : decode cX12_takeWordOf 135 = .ok (.getfield 264, 3) := dr9 dk9_dX12_takeWordOf_0_0.1 16 (135, .getfield 264, 3) rfl
theorem dX12_takeWordOf_138 : decode cX12_takeWordOf 138 = .ok (.iconst 1, 1) := dr9 dk9_dX12_takeWordOf_0_0.1 17 (138, .iconst 1, 1) rfl
theorem dX12_takeWordOf_139 : decode cX12_takeWordOf 139 = .ok (.iadd, 1) := dr9 dk9_dX12_takeWordOf_0_0.1 18 (139, .iadd, 1) rfl
theorem dX12_takeWordOf_140 : decode cX12_takeWordOf 140 = .ok (.putfield 264, 3) := dr9 dk9_dX12_takeWordOf_0_0.1 19 (140, .putfield 264, 3) rfl
theorem dX12_takeWordOf_143 : decode cX12_takeWordOf 143 = .ok (.iload_n 3, 1) := dr9 dk9_dX12_takeWordOf_0_0.1 20 (143, .iload_n 3, 1) rfl
theorem dX12_takeWordOf_144 : decode cX12_takeWordOf 144 = .ok (.ireturn, 1) := dr9 dk9_dX12_takeWordOf_0_0.1 21 (144, .ireturn, 1) rfl
theorem dX12_takeWordOf_7 : decode cX12_takeWordOf 7 = .ok (.aload_n 0, 1) := dr9 dk9_dX12_takeWordOf_0_0.1 22 (7, .aload_n 0, 1) rfl
theorem dX12_takeWordOf_8 : decode cX12_takeWordOf 8 = .ok (.invokevirtual 313, 3) := dr9 dk9_dX12_takeWordOf_0_0.1 23 (8, .invokevirtual 313, 3) rfl
theorem dX12_takeWordOf_11 : decode cX12_takeWordOf 11 = .ok (.ifCond .ne 8, 3) := dr9 dk9_dX12_takeWordOf_0_0.2.1 0 (11, .ifCond .ne 8, 3) rfl
theorem dX12_takeWordOf_26 : decode cX12_takeWordOf 26 = .ok (.aload_n 0, 1) := dr9 dk9_dX12_takeWordOf_0_0.2.1 1 (26, .aload_n 0, 1) rfl
theorem dX12_takeWordOf_27 : decode cX12_takeWordOf 27 = .ok (.aload_n 1, 1) := dr9 dk9_dX12_takeWordOf_0_0.2.1 2 (27, .aload_n 1, 1) rfl
theorem dX12_takeWordOf_28 : decode cX12_takeWordOf 28 = .ok (.bipush 20, 2) := dr9 dk9_dX12_takeWordOf_0_0.2.1 3 (28, .bipush 20, 2) rfl
theorem dX12_takeWordOf_30 : decode cX12_takeWordOf 30 = .ok (.aload_n 0, 1) := dr9 dk9_dX12_takeWordOf_0_0.2.1 4 (30, .aload_n 0, 1) rfl
theorem dX12_takeWordOf_31 : decode cX12_takeWordOf 31 = .ok (.getfield 289, 3) := dr9 dk9_dX12_takeWordOf_0_0.2.1 5 (31, .getfield 289, 3) rfl
theorem dX12_takeWordOf_34 : decode cX12_takeWordOf 34 = .ok (.imul, 1) := dr9 dk9_dX12_takeWordOf_0_0.2.1 6 (34, .imul, 1) rfl
theorem dX12_takeWordOf_35 : decode cX12_takeWordOf 35 = .ok (.aload_n 2, 1) := dr9 dk9_dX12_takeWordOf_0_0.2.1 7 (35, .aload_n 2, 1) rfl
theorem dX12_takeWordOf_36 : decode cX12_takeWordOf 36 = .ok (.aload_n 0, 1) := dr9 dk9_dX12_takeWordOf_0_0.2.1 8 (36, .aload_n 0, 1) rfl
theorem dX12_takeWordOf_37 : decode cX12_takeWordOf 37 = .ok (.getfield 289, 3) := dr9 dk9_dX12_takeWordOf_0_0.2.1 9 (37, .getfield 289, 3) rfl
theorem dX12_takeWordOf_40 : decode cX12_takeWordOf 40 = .ok (.iaload, 1) := dr9 dk9_dX12_takeWordOf_0_0.2.1 10 (40, .iaload, 1) rfl
theorem dX12_takeWordOf_41 : decode cX12_takeWordOf 41 = .ok (.aload_n 0, 1) := dr9 dk9_dX12_takeWordOf_0_0.2.1 11 (41, .aload_n 0, 1) rfl
theorem dX12_takeWordOf_42 : decode cX12_takeWordOf 42 = .ok (.getfield 30, 3) := dr9 dk9_dX12_takeWordOf_0_0.2.1 12 (42, .getfield 30, 3) rfl
theorem dX12_takeWordOf_45 : decode cX12_takeWordOf 45 = .ok (.aload_n 0, 1) := dr9 dk9_dX12_takeWordOf_0_0.2.1 13 (45, .aload_n 0, 1) rfl
theorem dX12_takeWordOf_46 : decode cX12_takeWordOf 46 = .ok (.getfield 264, 3) := dr9 dk9_dX12_takeWordOf_0_0.2.1 14 (46, .getfield 264, 3) rfl
theorem dX12_takeWordOf_49 : decode cX12_takeWordOf 49 = .ok (.laload, 1) := dr9 dk9_dX12_takeWordOf_0_0.2.1 15 (49, .laload, 1) rfl
theorem dX12_takeWordOf_50 : decode cX12_takeWordOf 50 = .ok (.invokevirtual 317, 3) := dr9 dk9_dX12_takeWordOf_0_0.2.1 16 (50, .invokevirtual 317, 3) rfl
theorem dX12_takeWordOf_53 : decode cX12_takeWordOf 53 = .ok (.goto 4, 3) := dr9 dk9_dX12_takeWordOf_0_0.2.1 17 (53, .goto 4, 3) rfl
theorem dX12_takeWordOf_65 : decode cX12_takeWordOf 65 = .ok (.iload_n 3, 1) := dr9 dk9_dX12_takeWordOf_0_0.2.1 18 (65, .iload_n 3, 1) rfl
theorem dX12_takeWordOf_66 : decode cX12_takeWordOf 66 = .ok (.ifCond .ge 19, 3) := dr9 dk9_dX12_takeWordOf_0_0.2.1 19 (66, .ifCond .ge 19, 3) rfl
theorem dX12_takeWordOf_92 : decode cX12_takeWordOf 92 = .ok (.iload_n 3, 1) := dr9 dk9_dX12_takeWordOf_0_0.2.1 20 (92, .iload_n 3, 1) rfl
theorem dX12_takeWordOf_93 : decode cX12_takeWordOf 93 = .ok (.ifCond .ge 40, 3) := dr9 dk9_dX12_takeWordOf_0_0.2.1 21 (93, .ifCond .ge 40, 3) rfl
theorem dX12_takeWordOf_69 : decode cX12_takeWordOf 69 = .ok (.aload_n 2, 1) := dr9 dk9_dX12_takeWordOf_0_0.2.1 22 (69, .aload_n 2, 1) rfl
theorem dX12_takeWordOf_70 : decode cX12_takeWordOf 70 = .ok (.aload_n 0, 1) := dr9 dk9_dX12_takeWordOf_0_0.2.1 23 (70, .aload_n 0, 1) rfl
theorem dX12_takeWordOf_71 : decode cX12_takeWordOf 71 = .ok (.getfield 289, 3) := dr9 dk9_dX12_takeWordOf_0_0.2.2.1 0 (71, .getfield 289, 3) rfl
theorem dX12_takeWordOf_74 : decode cX12_takeWordOf 74 = .ok (.iaload, 1) := dr9 dk9_dX12_takeWordOf_0_0.2.2.1 1 (74, .iaload, 1) rfl
theorem dX12_takeWordOf_75 : decode cX12_takeWordOf 75 = .ok (.bipush 20, 2) := dr9 dk9_dX12_takeWordOf_0_0.2.2.1 2 (75, .bipush 20, 2) rfl
theorem dX12_takeWordOf_77 : decode cX12_takeWordOf 77 = .ok (.if_icmp .ne 8, 3) := dr9 dk9_dX12_takeWordOf_0_0.2.2.1 3 (77, .if_icmp .ne 8, 3) rfl
theorem dX12_takeWordOf_96 : decode cX12_takeWordOf 96 = .ok (.aload_n 2, 1) := dr9 dk9_dX12_takeWordOf_0_0.2.2.1 4 (96, .aload_n 2, 1) rfl
theorem dX12_takeWordOf_97 : decode cX12_takeWordOf 97 = .ok (.aload_n 0, 1) := dr9 dk9_dX12_takeWordOf_0_0.2.2.1 5 (97, .aload_n 0, 1) rfl
theorem dX12_takeWordOf_98 : decode cX12_takeWordOf 98 = .ok (.getfield 289, 3) := dr9 dk9_dX12_takeWordOf_0_0.2.2.1 6 (98, .getfield 289, 3) rfl
theorem dX12_takeWordOf_101 : decode cX12_takeWordOf 101 = .ok (.iaload, 1) := dr9 dk9_dX12_takeWordOf_0_0.2.2.1 7 (101, .iaload, 1) rfl
theorem dX12_takeWordOf_102 : decode cX12_takeWordOf 102 = .ok (.istore_n 3, 1) := dr9 dk9_dX12_takeWordOf_0_0.2.2.1 8 (102, .istore_n 3, 1) rfl
theorem dX12_takeWordOf_103 : decode cX12_takeWordOf 103 = .ok (.aload_n 1, 1) := dr9 dk9_dX12_takeWordOf_0_0.2.2.1 9 (103, .aload_n 1, 1) rfl
theorem dX12_takeWordOf_104 : decode cX12_takeWordOf 104 = .ok (.bipush 20, 2) := dr9 dk9_dX12_takeWordOf_0_0.2.2.1 10 (104, .bipush 20, 2) rfl
theorem dX12_takeWordOf_106 : decode cX12_takeWordOf 106 = .ok (.aload_n 0, 1) := dr9 dk9_dX12_takeWordOf_0_0.2.2.1 11 (106, .aload_n 0, 1) rfl
theorem dX12_takeWordOf_107 : decode cX12_takeWordOf 107 = .ok (.getfield 289, 3) := dr9 dk9_dX12_takeWordOf_0_0.2.2.1 12 (107, .getfield 289, 3) rfl
theorem dX12_takeWordOf_110 : decode cX12_takeWordOf 110 = .ok (.imul, 1) := dr9 dk9_dX12_takeWordOf_0_0.2.2.1 13 (110, .imul, 1) rfl
theorem dX12_takeWordOf_111 : decode cX12_takeWordOf 111 = .ok (.iload_n 3, 1) := dr9 dk9_dX12_takeWordOf_0_0.2.2.1 14 (111, .iload_n 3, 1) rfl
theorem dX12_takeWordOf_112 : decode cX12_takeWordOf 112 = .ok (.iadd, 1) := dr9 dk9_dX12_takeWordOf_0_0.2.2.1 15 (112, .iadd, 1) rfl
theorem dX12_takeWordOf_113 : decode cX12_takeWordOf 113 = .ok (.aload_n 0, 1) := dr9 dk9_dX12_takeWordOf_0_0.2.2.1 16 (113, .aload_n 0, 1) rfl
theorem dX12_takeWordOf_114 : decode cX12_takeWordOf 114 = .ok (.getfield 30, 3) := dr9 dk9_dX12_takeWordOf_0_0.2.2.1 17 (114, .getfield 30, 3) rfl
theorem dX12_takeWordOf_117 : decode cX12_takeWordOf 117 = .ok (.aload_n 0, 1) := dr9 dk9_dX12_takeWordOf_0_0.2.2.1 18 (117, .aload_n 0, 1) rfl
theorem dX12_takeWordOf_118 : decode cX12_takeWordOf 118 = .ok (.getfield 264, 3) := dr9 dk9_dX12_takeWordOf_0_0.2.2.1 19 (118, .getfield 264, 3) rfl
theorem dX12_takeWordOf_121 : decode cX12_takeWordOf 121 = .ok (.laload, 1) := dr9 dk9_dX12_takeWordOf_0_0.2.2.1 20 (121, .laload, 1) rfl
theorem dX12_takeWordOf_122 : decode cX12_takeWordOf 122 = .ok (.lastore, 1) := dr9 dk9_dX12_takeWordOf_0_0.2.2.1 21 (122, .lastore, 1) rfl
theorem dX12_takeWordOf_123 : decode cX12_takeWordOf 123 = .ok (.aload_n 2, 1) := dr9 dk9_dX12_takeWordOf_0_0.2.2.1 22 (123, .aload_n 2, 1) rfl
theorem dX12_takeWordOf_124 : decode cX12_takeWordOf 124 = .ok (.aload_n 0, 1) := dr9 dk9_dX12_takeWordOf_0_0.2.2.1 23 (124, .aload_n 0, 1) rfl
theorem dX12_takeWordOf_125 : decode cX12_takeWordOf 125 = .ok (.getfield 289, 3) := dr9 dk9_dX12_takeWordOf_0_0.2.2.2 0 (125, .getfield 289, 3) rfl
theorem dX12_takeWordOf_128 : decode cX12_takeWordOf 128 = .ok (.dup2, 1) := dr9 dk9_dX12_takeWordOf_0_0.2.2.2 1 (128, .dup2, 1) rfl
theorem dX12_takeWordOf_129 : decode cX12_takeWordOf 129 = .ok (.iaload, 1) := dr9 dk9_dX12_takeWordOf_0_0.2.2.2 2 (129, .iaload, 1) rfl
theorem dX12_takeWordOf_130 : decode cX12_takeWordOf 130 = .ok (.iconst 1, 1) := dr9 dk9_dX12_takeWordOf_0_0.2.2.2 3 (130, .iconst 1, 1) rfl
theorem dX12_takeWordOf_131 : decode cX12_takeWordOf 131 = .ok (.iadd, 1) := dr9 dk9_dX12_takeWordOf_0_0.2.2.2 4 (131, .iadd, 1) rfl
theorem dX12_takeWordOf_132 : decode cX12_takeWordOf 132 = .ok (.iastore, 1) := dr9 dk9_dX12_takeWordOf_0_0.2.2.2 5 (132, .iastore, 1) rfl
theorem dX12_takeWordOf_80 : decode cX12_takeWordOf 80 = .ok (.aload_n 0, 1) := dr9 dk9_dX12_takeWordOf_0_0.2.2.2 6 (80, .aload_n 0, 1) rfl
theorem dX12_takeWordOf_81 : decode cX12_takeWordOf 81 = .ok (.iconst 5, 1) := dr9 dk9_dX12_takeWordOf_0_0.2.2.2 7 (81, .iconst 5, 1) rfl
theorem dX12_takeWordOf_82 : decode cX12_takeWordOf 82 = .ok (.invokevirtual 273, 3) := dr9 dk9_dX12_takeWordOf_0_0.2.2.2 8 (82, .invokevirtual 273, 3) rfl
theorem dX12_takeWordOf_14 : decode cX12_takeWordOf 14 = .ok (.aload_n 0, 1) := dr9 dk9_dX12_takeWordOf_0_0.2.2.2 9 (14, .aload_n 0, 1) rfl
theorem dX12_takeWordOf_15 : decode cX12_takeWordOf 15 = .ok (.iconst 1, 1) := dr9 dk9_dX12_takeWordOf_0_0.2.2.2 10 (15, .iconst 1, 1) rfl
theorem dX12_takeWordOf_16 : decode cX12_takeWordOf 16 = .ok (.invokevirtual 273, 3) := dr9 dk9_dX12_takeWordOf_0_0.2.2.2 11 (16, .invokevirtual 273, 3) rfl
abbrev r_s_isName : Room := { frames := 0, cells := 0, slots := 0, locals := 0 }
abbrev q_s_isName (D : va_G) (ks : KS) (ad : Nat → Nat) (kk : Nat → ClassId) (V : Vf) (L : Lf) (n : Nat) (A : Nat → Prop) : Array Value → State → Outcome → State → Prop := va_Qi (fun (r : Int32) (_ : Unit) => (0 ≤ r.toInt ∧ r.toInt ≤ 1) ∧ (Imp (r.toInt = 1) ((V 0 8).toInt = 0 ∧ 0 ≤ (V 0 7).toInt ∧ (V 0 7).toInt < n))) (fun _ t => gq D A (mw ad kk ks.1 V L) (mty kk) t) A
set_option maxHeartbeats 4000000 in
set_option maxRecDepth 100000 in
theorem s_isName (l : Launch) (D : va_G) (ks : KS) (sz : Nat) (ad : Nat → Nat) (kk : Nat → ClassId) (V : Vf) (L : Lf) (n : Nat) (hMV : rgd bM V) (x1 : (V 4 n).toInt = 0) (x2 : n ≤ 4000) (x3 : Imp ((V 0 8).toInt = 0) (0 ≤ (V 0 7).toInt ∧ (V 0 7).toInt ≤ n))  : Met l yX12_isName (Cond.code yX12_isName cX12_isName 3 (some .boolean) :: GW) r_s_isName (va_Pc [.ref (ad 0)] (gp D ks (mw ad kk ks.1 V L) (mty kk) sz)) (q_s_isName D ks ad kk V L  n (va_A (mw ad kk ks.1 V L) sz)) 0 0 (va_A (mw ad kk ks.1 V L) sz) := by
  refine g_met (q_s_isName D ks ad kk V L  n) (by decide) (Nat.le_of_ble_eq_true rfl) ?_
  intro p e s m below meth c A ls H locs hx hb hr hml hown hg hlocks hin hnw hgk hP hK hD hS hA hl
  replace hown : s.vm.findClass RX12 = some m.cls := hown
  replace hl : lv_has ls 3 [(0, .ref (ad 0))] := hl
  replace hP : va_P D vwCl (mw ad kk ks.1 V L) H := hP
  replace hD : va_D A (mw ad kk ks.1 V L) := hD
  replace hK : va_K D vwCl (mty kk) s := hK
  have r1 : 0 ≤ ((V 0 8)).toInt ∧ ((V 0 8)).toInt ≤ 70000 := hMV 0 8
  refine lv_aload_n hx hb dX12_isName_0 rfl (lv_at hl 0 rfl) ?_
  refine va_get (D := D) (ci := 12) (v := .int (V 0 8)) (C := RX12) (T := TX12) (N := 100) hx hb hg inX12 hown hK hP 0 rfl rfl 8 (by decide) (hg _ w1714) (fun _ h9 => h9) rfl dX12_isName_1 ?_
  have J2 : ∀ (y3 : Int32) (H : Heap) (locs : List Loc) (ls : Array Slot), 0 ≤ y3.toInt ∧ y3.toInt ≤ 1 → Imp (y3.toInt = 1) ((V 0 8).toInt = 0 ∧ 0 ≤ (V 0 7).toInt ∧ (V 0 7).toInt < n) → va_P D vwCl (mw ad kk ks.1 V L) H → va_D A (mw ad kk ks.1 V L) → va_S A s.heap H locs → lv_has ls 3 [(0, .ref (ad 0))] → W p l e r_s_isName s m ([.ref (ad 0)] : List Value).toArray below meth c H locs 0 0 (MQ below (q_s_isName D ks ad kk V L  n A) ([.ref (ad 0)] : List Value).toArray s 0 0 A) (F0 m 25 ls [.int y3]) := by
    intro y3 H locs ls kJ2_0 xJ2_0 hP hD hS hl
    refine lv_istore_n (lv' := [(1, .int y3), (0, .ref (ad 0))]) hx hb dX12_isName_25 rfl hl (by decide) rfl (fun ls hl => ?_)
    refine lv_iconst (v := 0) hx hb dX12_isName_26 (by decide) ?_
    refine lv_istore_n (lv' := [(2, .int 0), (1, .int y3), (0, .ref (ad 0))]) hx hb dX12_isName_27 rfl hl (by decide) rfl (fun ls hl => ?_)
    have lp6 : ∀ (fulp6 : Nat) (y4 : Int32) (y5 : Int32) (H : Heap) (locs : List Loc) (ls : Array Slot), 0 ≤ y4.toInt ∧ y4.toInt ≤ 28 → 0 ≤ y5.toInt ∧ y5.toInt ≤ 1 → Imp (y5.toInt = 1) ((V 0 8).toInt = 0 ∧ 0 ≤ (V 0 7).toInt ∧ (V 0 7).toInt < n) → 28 - y4.toInt < (fulp6 : Int) → va_P D vwCl (mw ad kk ks.1 V L) H → va_D A (mw ad kk ks.1 V L) → va_S A s.heap H locs → lv_has ls 3 [(2, .int y4), (1, .int y5), (0, .ref (ad 0))] → W p l e r_s_isName s m ([.ref (ad 0)] : List Value).toArray below meth c H locs 0 0 (MQ below (q_s_isName D ks ad kk V L  n A) ([.ref (ad 0)] : List Value).toArray s 0 0 A) (F0 m 28 ls []) := by
      intro fulp6
      induction fulp6 with
      | zero =>
        intro y4 y5 H locs ls klp6_0 klp6_1 xlp6_0 hn  hP hD hS hl
        exfalso; (first | exact om_8009d6250780 klp6_0.2 hn | omega)
      | succ fulp6 ihlp6 =>
        intro y4 y5 H locs ls klp6_0 klp6_1 xlp6_0 hn  hP hD hS hl
        refine lv_iload_n hx hb dX12_isName_28 rfl (lv_at hl 0 rfl) ?_
        refine lv_bipush (v := 28) hx hb dX12_isName_29 (by decide) ?_
        refine lv_icmp_ge (tgt := 69) hx hb dX12_isName_31 (by decide) (fun c7 => ?_) (fun c7 => ?_)
        · skip
          have f8 : 28 ≤ y4.toInt := b_le (by decide) rfl c7
          refine lv_iload_n hx hb dX12_isName_69 rfl (lv_at hl 1 rfl) ?_
          exact W.zret (v := y5) hx hb hr (nb_ok (by omega)) (fun t ht hW => ⟨⟨y5, (), rfl, ⟨(show 0 ≤ y5.toInt ∧ y5.toInt ≤ 1 from by first | exact om_eb7af9d60398 klp6_1.1 klp6_1.2 | first | omega | ((try (have i_xlp6_0 := Imp.go xlp6_0 (by omega))); (try (have i_xJ2_0 := Imp.go xJ2_0 (by omega))); (try (have i_x3 := Imp.go x3 (by omega))); (try (have i_x3 := Imp.go x3 (by omega))); (try (have i_xJ2_0 := Imp.go xJ2_0 (by omega))); (try (have i_xlp6_0 := Imp.go xlp6_0 (by omega))); omega)), (Imp.mk (fun hp => have hp : y5.toInt = 1 := hp; (show (V 0 8).toInt = 0 ∧ 0 ≤ (V 0 7).toInt ∧ (V 0 7).toInt < n from by first | exact om_56f43c98fa62 r1.1 ((Imp.go xlp6_0 (hp)).1) ((Imp.go xlp6_0 (hp)).2.1) ((Imp.go xlp6_0 (hp)).2.2) | first | omega | ((try (have i_xlp6_0 := Imp.go xlp6_0 (by omega))); (try (have i_xJ2_0 := Imp.go xJ2_0 (by omega))); (try (have i_x3 := Imp.go x3 (by omega))); (try (have i_x3 := Imp.go x3 (by omega))); (try (have i_xJ2_0 := Imp.go xJ2_0 (by omega))); (try (have i_xlp6_0 := Imp.go xlp6_0 (by omega))); omega))))⟩, by rw [ht]; exact hP, va_K.moved hW.alike hK, hD⟩, hS.F ht⟩) hS.2.2 dX12_isName_70
        · skip
          have f9 : y4.toInt < 28 := b_nle (by decide) rfl c7
          refine lv_iload_n hx hb dX12_isName_34 rfl (lv_at hl 1 rfl) ?_
          refine lv_if_eq (tgt := 69) hx hb dX12_isName_35 (by decide) (fun c10 => ?_) (fun c10 => ?_)
          · skip
            have f11 : y5.toInt = 0 := b_eq rfl (by decide) c10
            refine lv_iload_n hx hb dX12_isName_69 rfl (lv_at hl 1 rfl) ?_
            exact W.zret (v := y5) hx hb hr (nb_ok (by omega)) (fun t ht hW => ⟨⟨y5, (), rfl, ⟨(show 0 ≤ y5.toInt ∧ y5.toInt ≤ 1 from by first | exact om_85296d547285 klp6_1.1 f11 | first | omega | ((try (have i_xlp6_0 := Imp.go xlp6_0 (by omega))); (try (have i_xJ2_0 := Imp.go xJ2_0 (by omega))); (try (have i_x3 := Imp.go x3 (by omega))); (try (have i_x3 := Imp.go x3 (by omega))); (try (have i_xJ2_0 := Imp.go xJ2_0 (by omega))); (try (have i_xlp6_0 := Imp.go xlp6_0 (by omega))); omega)), (Imp.mk (fun hp => have hp : y5.toInt = 1 := hp; (show (V 0 8).toInt = 0 ∧ 0 ≤ (V 0 7).toInt ∧ (V 0 7).toInt < n from by first | omega | ((try (have i_xlp6_0 := Imp.go xlp6_0 (by omega))); (try (have i_xJ2_0 := Imp.go xJ2_0 (by omega))); (try (have i_x3 := Imp.go x3 (by omega))); (try (have i_x3 := Imp.go x3 (by omega))); (try (have i_xJ2_0 := Imp.go xJ2_0 (by omega))); (try (have i_xlp6_0 := Imp.go xlp6_0 (by omega))); omega))))⟩, by rw [ht]; exact hP, va_K.moved hW.alike hK, hD⟩, hS.F ht⟩) hS.2.2 dX12_isName_70
          · skip
            have f12 : y5.toInt ≠ 0 := b_neq rfl (by decide) c10
            refine lv_aload_n hx hb dX12_isName_38 rfl (lv_at hl 2 rfl) ?_
            refine va_get (D := D) (ci := 12) (v := .ref (ad 6)) (C := RX12) (T := TX12) (N := 100) hx hb hg inX12 hown hK hP 0 rfl rfl 6 (by decide) (hg _ w1712) (fun _ h9 => h9) rfl dX12_isName_39 ?_
            refine lv_aload_n hx hb dX12_isName_42 rfl (lv_at hl 2 rfl) ?_
            refine va_get (D := D) (ci := 12) (v := .int (V 0 7)) (C := RX12) (T := TX12) (N := 100) hx hb hg inX12 hown hK hP 0 rfl rfl 7 (by decide) (hg _ w1713) (fun _ h9 => h9) rfl dX12_isName_43 ?_
            refine va_lald (D := D) (i := (V 0 7)) hx hb hK hP 4 3 rfl rfl (i_in (a := ((V 0 7)).toInt) rfl (by first | exact om_4d9bfa19b181 x2 ((Imp.go xlp6_0 (imp_a (klp6_1.1) (klp6_1.2) (f12))).2.1) ((Imp.go xlp6_0 (imp_a (klp6_1.1) (klp6_1.2) (f12))).2.2) | first | omega | ((try (have i_xlp6_0 := Imp.go xlp6_0 (by omega))); (try (have i_xJ2_0 := Imp.go xJ2_0 (by omega))); (try (have i_x3 := Imp.go x3 (by omega))); (try (have i_x3 := Imp.go x3 (by omega))); (try (have i_xJ2_0 := Imp.go xJ2_0 (by omega))); (try (have i_xlp6_0 := Imp.go xlp6_0 (by omega))); omega))) dX12_isName_46 ?_
            refine lv_topl (fun w13 ew13 => ?_)
            refine lv_aload_n hx hb dX12_isName_47 rfl (lv_at hl 2 rfl) ?_
            refine va_get (D := D) (ci := 12) (v := .ref (ad 10)) (C := RX12) (T := TX12) (N := 100) hx hb hg inX12 hown hK hP 0 rfl rfl 10 (by decide) (hg _ w1716) (fun _ h9 => h9) rfl dX12_isName_48 ?_
            refine lv_iload_n hx hb dX12_isName_51 rfl (lv_at hl 0 rfl) ?_
            refine va_lald (D := D) (i := y4) hx hb hK hP 5 4 rfl rfl (i_in (a := y4.toInt) rfl (by first | exact om_045cd12c16f0 klp6_0.1 f9 | first | omega | ((try (have i_xlp6_0 := Imp.go xlp6_0 (by omega))); (try (have i_xJ2_0 := Imp.go xJ2_0 (by omega))); (try (have i_x3 := Imp.go x3 (by omega))); (try (have i_x3 := Imp.go x3 (by omega))); (try (have i_xJ2_0 := Imp.go xJ2_0 (by omega))); (try (have i_xlp6_0 := Imp.go xlp6_0 (by omega))); omega))) dX12_isName_52 ?_
            refine lv_topl (fun w14 ew14 => ?_)
            refine W.lcmp hx hb dX12_isName_53 ?_
            refine lv_topi (fun z15 ez15 => ?_)
            have hz15 : -1 ≤ z15.toInt ∧ z15.toInt ≤ 1 := lcmp_r ez15
            refine lv_if_eq (tgt := 61) hx hb dX12_isName_54 (by decide) (fun c16 => ?_) (fun c16 => ?_)
            · skip
              have f17 : z15.toInt = 0 := b_eq rfl (by decide) c16
              refine lv_iconst (v := 0) hx hb dX12_isName_61 (by decide) ?_
              refine lv_istore_n (lv' := [(1, .int 0), (2, .int y4), (0, .ref (ad 0))]) hx hb dX12_isName_62 rfl hl (by decide) rfl (fun ls hl => ?_)
              obtain ⟨z18, ez18⟩ : ∃ y : Int32, y = y4 + 1 := ⟨_, rfl⟩
              have hz18 : z18.toInt = y4.toInt + 1 := i_add ez18 rfl (by decide) (by (first | exact om_5bde2511380b klp6_0.1 f9 | omega))
              refine lv_iinc (v := z18) (lv' := [(2, .int z18), (1, .int 0), (0, .ref (ad 0))]) hx hb dX12_isName_63 hl (k := 1) rfl (by rw [ez18]; rfl) (by decide) rfl (fun ls hl => ?_)
              refine lv_goto (tgt := 28) hx hb dX12_isName_66 (by decide) ?_
              have r19 : Int32.toInt 0 = 0 := by decide
              exact ihlp6 z18 0 H locs ls (by first | exact om_e53fff2320c6 klp6_0.1 f9 hz18 | first | omega | ((try (have i_xlp6_0 := Imp.go xlp6_0 (by omega))); (try (have i_xJ2_0 := Imp.go xJ2_0 (by omega))); (try (have i_x3 := Imp.go x3 (by omega))); (try (have i_x3 := Imp.go x3 (by omega))); (try (have i_xJ2_0 := Imp.go xJ2_0 (by omega))); (try (have i_xlp6_0 := Imp.go xlp6_0 (by omega))); omega)) (by decide) (Imp.mk (fun hp => absurd hp (by decide))) (by first | exact om_e591ec508e02 hn hz18 | first | omega | ((try (have i_xlp6_0 := Imp.go xlp6_0 (by omega))); (try (have i_xJ2_0 := Imp.go xJ2_0 (by omega))); (try (have i_x3 := Imp.go x3 (by omega))); (try (have i_x3 := Imp.go x3 (by omega))); (try (have i_xJ2_0 := Imp.go xJ2_0 (by omega))); (try (have i_xlp6_0 := Imp.go xlp6_0 (by omega))); omega)) hP hD hS (lv_sub hl [0, 1, 2] rfl)
            · skip
              have f20 : z15.toInt ≠ 0 := b_neq rfl (by decide) c16
              refine lv_iconst (v := 1) hx hb dX12_isName_57 (by decide) ?_
              refine lv_goto (tgt := 62) hx hb dX12_isName_58 (by decide) ?_
              refine lv_istore_n (lv' := [(1, .int 1), (2, .int y4), (0, .ref (ad 0))]) hx hb dX12_isName_62 rfl hl (by decide) rfl (fun ls hl => ?_)
              obtain ⟨z21, ez21⟩ : ∃ y : Int32, y = y4 + 1 := ⟨_, rfl⟩
              have hz21 : z21.toInt = y4.toInt + 1 := i_add ez21 rfl (by decide) (by (first | exact om_5bde2511380b klp6_0.1 f9 | omega))
              refine lv_iinc (v := z21) (lv' := [(2, .int z21), (1, .int 1), (0, .ref (ad 0))]) hx hb dX12_isName_63 hl (k := 1) rfl (by rw [ez21]; rfl) (by decide) rfl (fun ls hl => ?_)
              refine lv_goto (tgt := 28) hx hb dX12_isName_66 (by decide) ?_
              have r22 : Int32.toInt 1 = 1 := by decide
              exact ihlp6 z21 1 H locs ls (by first | exact om_e53fff2320c6 klp6_0.1 f9 hz21 | first | omega | ((try (have i_xlp6_0 := Imp.go xlp6_0 (by omega))); (try (have i_xJ2_0 := Imp.go xJ2_0 (by omega))); (try (have i_x3 := Imp.go x3 (by omega))); (try (have i_x3 := Imp.go x3 (by omega))); (try (have i_xJ2_0 := Imp.go xJ2_0 (by omega))); (try (have i_xlp6_0 := Imp.go xlp6_0 (by omega))); omega)) (by decide) (Imp.mk (fun _ => (show (V 0 8).toInt = 0 ∧ 0 ≤ (V 0 7).toInt ∧ (V 0 7).toInt < n from by first | exact om_56f43c98fa62 r1.1 ((Imp.go xlp6_0 (imp_a (klp6_1.1) (klp6_1.2) (f12))).1) ((Imp.go xlp6_0 (imp_a (klp6_1.1) (klp6_1.2) (f12))).2.1) ((Imp.go xlp6_0 (imp_a (klp6_1.1) (klp6_1.2) (f12))).2.2) | first | omega | ((try (have i_xlp6_0 := Imp.go xlp6_0 (by omega))); (try (have i_xJ2_0 := Imp.go xJ2_0 (by omega))); (try (have i_x3 := Imp.go x3 (by omega))); (try (have i_x3 := Imp.go x3 (by omega))); (try (have i_xJ2_0 := Imp.go xJ2_0 (by omega))); (try (have i_xlp6_0 := Imp.go xlp6_0 (by omega))); omega)))) (by first | exact om_e591ec508e02 hn hz21 | first | omega | ((try (have i_xlp6_0 := Imp.go xlp6_0 (by omega))); (try (have i_xJ2_0 := Imp.go xJ2_0 (by omega))); (try (have i_x3 := Imp.go x3 (by omega))); (try (have i_x3 := Imp.go x3 (by omega))); (try (have i_xJ2_0 := Imp.go xJ2_0 (by omega))); (try (have i_xlp6_0 := Imp.go xlp6_0 (by omega))); omega)) hP hD hS (lv_sub hl [0, 1, 2] rfl)
    have r23 : Int32.toInt 0 = 0 := by decide
    exact lp6 ((28 - (Int32.toInt 0) + 1 : Int).toNat) 0 y3 H locs ls (by decide) (by first | exact om_eb7af9d60398 kJ2_0.1 kJ2_0.2 | first | omega | ((try (have i_xJ2_0 := Imp.go xJ2_0 (by omega))); (try (have i_x3 := Imp.go x3 (by omega))); (try (have i_x3 := Imp.go x3 (by omega))); (try (have i_xJ2_0 := Imp.go xJ2_0 (by omega))); omega)) (Imp.mk (fun hp => have hp : y3.toInt = 1 := hp; (show (V 0 8).toInt = 0 ∧ 0 ≤ (V 0 7).toInt ∧ (V 0 7).toInt < n from by first | exact om_56f43c98fa62 r1.1 ((Imp.go xJ2_0 (hp)).1) ((Imp.go xJ2_0 (hp)).2.1) ((Imp.go xJ2_0 (hp)).2.2) | first | omega | ((try (have i_xJ2_0 := Imp.go xJ2_0 (by omega))); (try (have i_x3 := Imp.go x3 (by omega))); (try (have i_x3 := Imp.go x3 (by omega))); (try (have i_xJ2_0 := Imp.go xJ2_0 (by omega))); omega)))) (by first | exact om_8d46326cbfc1 | first | omega | ((try (have i_xJ2_0 := Imp.go xJ2_0 (by omega))); (try (have i_x3 := Imp.go x3 (by omega))); (try (have i_x3 := Imp.go x3 (by omega))); (try (have i_xJ2_0 := Imp.go xJ2_0 (by omega))); omega)) hP hD hS (lv_sub hl [0, 1, 2] rfl)
  refine lv_if_ne (tgt := 24) hx hb dX12_isName_4 (by decide) (fun c24 => ?_) (fun c24 => ?_)
  · skip
    have f25 : ((V 0 8)).toInt ≠ 0 := b_neq rfl (by decide) c24
    refine lv_iconst (v := 0) hx hb dX12_isName_24 (by decide) ?_
    have r26 : Int32.toInt 0 = 0 := by decide
    exact J2 0 H locs ls (by decide) (Imp.mk (fun hp => absurd hp (by decide))) hP hD hS (lv_sub hl [0] rfl)
  · skip
    have f27 : ((V 0 8)).toInt = 0 := b_eq rfl (by decide) c24
    refine lv_aload_n hx hb dX12_isName_7 rfl (lv_at hl 0 rfl) ?_
    refine va_get (D := D) (ci := 12) (v := .ref (ad 4)) (C := RX12) (T := TX12) (N := 100) hx hb hg inX12 hown hK hP 0 rfl rfl 4 (by decide) (hg _ w1710) (fun _ h9 => h9) rfl dX12_isName_8 ?_
    refine lv_aload_n hx hb dX12_isName_11 rfl (lv_at hl 0 rfl) ?_
    refine va_get (D := D) (ci := 12) (v := .int (V 0 7)) (C := RX12) (T := TX12) (N := 100) hx hb hg inX12 hown hK hP 0 rfl rfl 7 (by decide) (hg _ w1713) (fun _ h9 => h9) rfl dX12_isName_12 ?_
    refine va_iald (D := D) (i := (V 0 7)) hx hb hK hP 2 1 rfl rfl (i_in (a := ((V 0 7)).toInt) rfl (by first | exact om_04c3762723a1 x2 ((Imp.go x3 (f27)).1) ((Imp.go x3 (f27)).2) | first | omega | ((try (have i_x3 := Imp.go x3 (by omega))); omega))) dX12_isName_15 ?_
    have t28 := tok_ne (V := V) (x := (V 0 7)) (n := n) x1 (by first | omega | ((try (have i_x3 := Imp.go x3 (by omega))); omega))
    refine lv_iconst (v := 1) hx hb dX12_isName_16 (by decide) ?_
    refine lv_icmp_ne (tgt := 24) hx hb dX12_isName_17 (by decide) (fun c29 => ?_) (fun c29 => ?_)
    · skip
      have f30 : ((V 4 (Int32.toNatClampNeg (V 0 7)))).toInt ≠ 1 := b_neq rfl (by decide) c29
      refine lv_iconst (v := 0) hx hb dX12_isName_24 (by decide) ?_
      have r31 : Int32.toInt 0 = 0 := by decide
      exact J2 0 H locs ls (by decide) (Imp.mk (fun hp => absurd hp (by decide))) hP hD hS (lv_sub hl [0] rfl)
    · skip
      have f32 : ((V 4 (Int32.toNatClampNeg (V 0 7)))).toInt = 1 := b_eq rfl (by decide) c29
      refine lv_iconst (v := 1) hx hb dX12_isName_20 (by decide) ?_
      refine lv_goto (tgt := 25) hx hb dX12_isName_21 (by decide) ?_
      have r33 : Int32.toInt 1 = 1 := by decide
      exact J2 1 H locs ls (by decide) (Imp.mk (fun _ => (show (V 0 8).toInt = 0 ∧ 0 ≤ (V 0 7).toInt ∧ (V 0 7).toInt < n from by first | omega | ((try (have i_t28 := Imp.go t28 (by omega))); (try (have i_x3 := Imp.go x3 (by omega))); (try (have i_x3 := Imp.go x3 (by omega))); (try (have i_t28 := Imp.go t28 (by omega))); omega)))) hP hD hS (lv_sub hl [0] rfl)
abbrev r_s_takeNumber : Room := { frames := 1, cells := 0, slots := 0, locals := 21 }
abbrev q_s_takeNumber (D : va_G) (ks : KS) (ad : Nat → Nat) (kk : Nat → ClassId) (V : Vf) (L : Lf) (p0 : Int32) (p1 : Int32) (n : Nat) (A : Nat → Prop) : Array Value → State → Outcome → State → Prop := va_Qi (fun (r : Int32) (u : Vf × Lf) => rgd bM u.1 ∧ agr [(0, 7), (0, 8)] [] V u.1 ∧ u.2 = L ∧ (Imp ((u.1 0 8).toInt = 0) (0 ≤ (u.1 0 7).toInt ∧ (u.1 0 7).toInt ≤ n ∧ (V 0 8).toInt = 0 ∧ (V 0 7).toInt ≤ (u.1 0 7).toInt)) ∧ (Imp ((u.1 0 8).toInt = 0) (p0.toInt ≤ r.toInt ∧ r.toInt ≤ p1.toInt)) ∧ (Imp ((u.1 0 8).toInt = 0) ((V 0 7).toInt + 1 ≤ (u.1 0 7).toInt)) ∧ (Imp (1 ≤ (u.1 0 8).toInt) (r.toInt = 0))) (fun u t => gq D A (mw ad kk ks.1 u.1 u.2) (mty kk) t) A
set_option maxHeartbeats 4000000 in
set_option maxRecDepth 100000 in
theorem s_takeNumber (l : Launch) (D : va_G) (ks : KS) (sz : Nat) (ad : Nat → Nat) (kk : Nat → ClassId) (V : Vf) (L : Lf) (p0 : Int32) (p1 : Int32) (n : Nat) (hMV : rgd bM V) (x1 : (V 4 n).toInt = 0) (x2 : n ≤ 4000) (x3 : Imp ((V 0 8).toInt = 0) (0 ≤ (V 0 7).toInt ∧ (V 0 7).toInt ≤ n))  : Met l yX12_takeNumber (Cond.code yX12_takeNumber cX12_takeNumber 3 (some .int) :: GW) r_s_takeNumber (va_Pc [.ref (ad 0), .int p0, .int p1] (gp D ks (mw ad kk ks.1 V L) (mty kk) sz)) (q_s_takeNumber D ks ad kk V L p0 p1 n (va_A (mw ad kk ks.1 V L) sz)) 0 0 (va_A (mw ad kk ks.1 V L) sz) := by
  refine g_met (q_s_takeNumber D ks ad kk V L p0 p1 n) (by decide) (Nat.le_of_ble_eq_true rfl) ?_
  intro p e s m below meth c A ls H locs hx hb hr hml hown hg hlocks hin hnw hgk hP hK hD hS hA hl
  replace hown : s.vm.findClass RX12 = some m.cls := hown
  replace hl : lv_has ls 3 [(0, .ref (ad 0)), (1, .int p0), (2, .int p1)] := hl
  replace hP : va_P D vwCl (mw ad kk ks.1 V L) H := hP
  replace hD : va_D A (mw ad kk ks.1 V L) := hD
  replace hK : va_K D vwCl (mty kk) s := hK
  have agV : agr [(0, 7), (0, 8)] [] V V := agr.rf
  have rf_p0 := i_full p0
  have rf_p1 := i_full p1
  have r1 : 0 ≤ ((V 0 8)).toInt ∧ ((V 0 8)).toInt ≤ 70000 := hMV 0 8
  refine lv_aload_n hx hb dX12_takeNumber_0 rfl (lv_at hl 0 rfl) ?_
  refine va_get (D := D) (ci := 12) (v := .int (V 0 8)) (C := RX12) (T := TX12) (N := 100) hx hb hg inX12 hown hK hP 0 rfl rfl 8 (by decide) (hg _ w1714) (fun _ h9 => h9) rfl dX12_takeNumber_1 ?_
  refine lv_if_ne (tgt := 28) hx hb dX12_takeNumber_4 (by decide) (fun c2 => ?_) (fun c2 => ?_)
  · skip
    have f3 : ((V 0 8)).toInt ≠ 0 := b_neq rfl (by decide) c2
    refine lv_aload_n hx hb dX12_takeNumber_28 rfl (lv_at hl 0 rfl) ?_
    refine va_get (D := D) (ci := 12) (v := .int (V 0 8)) (C := RX12) (T := TX12) (N := 100) hx hb hg inX12 hown hK hP 0 rfl rfl 8 (by decide) (hg _ w1714) (fun _ h9 => h9) rfl dX12_takeNumber_29 ?_
    refine lv_if_ne (tgt := 70) hx hb dX12_takeNumber_32 (by decide) (fun c4 => ?_) (fun c4 => ?_)
    · skip
      have f5 : ((V 0 8)).toInt ≠ 0 := b_neq rfl (by decide) c4
      refine lv_aload_n hx hb dX12_takeNumber_70 rfl (lv_at hl 0 rfl) ?_
      refine lv_dup hx hb dX12_takeNumber_71 rfl ?_
      refine va_get (D := D) (ci := 12) (v := .int (V 0 7)) (C := RX12) (T := TX12) (N := 100) hx hb hg inX12 hown hK hP 0 rfl rfl 7 (by decide) (hg _ w1713) (fun _ h9 => h9) rfl dX12_takeNumber_72 ?_
      refine lv_iconst (v := 1) hx hb dX12_takeNumber_75 (by decide) ?_
      refine lv_iadd hx hb dX12_takeNumber_76 ?_
      have r6 := i_full (V 0 7)
      refine lv_topi (fun z7 ez7 => ?_)
      have hz7 : Imp (-2147483648 ≤ ((V 0 7)).toInt + 1 ∧ ((V 0 7)).toInt + 1 ≤ 2147483647) (z7.toInt = ((V 0 7)).toInt + 1) := Imp.mk (fun hp => i_add ez7 rfl (by decide) hp)
      refine va_put (D := D) (ci := 12) (v := .int z7) (ty := tyX12 7) (C := RX12) (T := TX12) (N := 100) hx hb hg inX12 tyX12 tyX12_ok nmX12 hown hK hP hD hS 0 rfl rfl 7 (by decide) (hg _ w1713) (fun _ h9 => h9) rfl (tyX12_ok 7 (by decide)) rfl rfl (Nat.le_of_ble_eq_true rfl) dX12_takeNumber_77 (fun H locs hP hD hS => ?_)
      obtain ⟨V8, hV8⟩ : ∃ z, z = up2 V 0 7 z7 := ⟨_, rfl⟩
      have hP : va_P D vwCl (mw ad kk ks.1 V8 L) H := by rw [hV8]; exact hP
      have hD : va_D A (mw ad kk ks.1 V8 L) := by rw [hV8]; exact hD
      have hMV8 : rgd bM V8 := hMV.put hV8 (i_full _)
      have agV8 : agr [(0, 7), (0, 8)] [] V V8 := agV.up hV8 rfl
      refine lv_aload_n hx hb dX12_takeNumber_80 rfl (lv_at hl 0 rfl) ?_
      refine va_get (D := D) (ci := 12) (v := .int (V8 0 8)) (C := RX12) (T := TX12) (N := 100) hx hb hg inX12 hown hK hP 0 rfl rfl 8 (by decide) (hg _ w1714) (fun _ h9 => h9) rfl dX12_takeNumber_81 ?_
      refine g_top (v := (V 0 8)) (up2_k hV8 (by decide)) ?_
      refine lv_if_le (tgt := 91) hx hb dX12_takeNumber_84 (by decide) (fun c9 => ?_) (fun c9 => ?_)
      · skip
        have f10 : ((V 0 8)).toInt ≤ 0 := b_le rfl (by decide) c9
        exfalso; first | exact om_032a278608eb r1.1 f3 f10 | first | omega | ((try (have i_hz7 := Imp.go hz7 (by omega))); (try (have i_x3 := Imp.go x3 (by omega))); (try (have i_x3 := Imp.go x3 (by omega))); (try (have i_hz7 := Imp.go hz7 (by omega))); omega)
      · skip
        have f11 : 0 < ((V 0 8)).toInt := b_nle rfl (by decide) c9
        refine lv_iconst (v := 0) hx hb dX12_takeNumber_87 (by decide) ?_
        refine lv_goto (tgt := 103) hx hb dX12_takeNumber_88 (by decide) ?_
        have pq12 : (V8 0 7).toInt = z7.toInt := congrArg Int32.toInt (up2_s hV8)
        have pq13 : (V8 0 8).toInt = ((V 0 8)).toInt := congrArg Int32.toInt (up2_k hV8 (by decide))
        exact W.iret (v := 0) hx hb hr (fun t ht hW => ⟨⟨0, (V8, L), rfl, ⟨hMV8, agV8, rfl, (Imp.mk (fun hp => have hp : (V8 0 8).toInt = 0 := hp; (show 0 ≤ (V8 0 7).toInt ∧ (V8 0 7).toInt ≤ n ∧ (V 0 8).toInt = 0 ∧ (V 0 7).toInt ≤ (V8 0 7).toInt from by first | omega | ((try (have i_hz7 := Imp.go hz7 (by omega))); (try (have i_x3 := Imp.go x3 (by omega))); (try (have i_x3 := Imp.go x3 (by omega))); (try (have i_hz7 := Imp.go hz7 (by omega))); omega)))), (Imp.mk (fun hp => have hp : (V8 0 8).toInt = 0 := hp; (show p0.toInt ≤ 0 ∧ 0 ≤ p1.toInt from by first | omega | ((try (have i_hz7 := Imp.go hz7 (by omega))); (try (have i_x3 := Imp.go x3 (by omega))); (try (have i_x3 := Imp.go x3 (by omega))); (try (have i_hz7 := Imp.go hz7 (by omega))); omega)))), (Imp.mk (fun hp => have hp : (V8 0 8).toInt = 0 := hp; (show (V 0 7).toInt + 1 ≤ (V8 0 7).toInt from by first | omega | ((try (have i_hz7 := Imp.go hz7 (by omega))); (try (have i_x3 := Imp.go x3 (by omega))); (try (have i_x3 := Imp.go x3 (by omega))); (try (have i_hz7 := Imp.go hz7 (by omega))); omega)))), (Imp.mk (fun hp => have hp : 1 ≤ (V8 0 8).toInt := hp; (show 0 = 0 from by first | omega | ((try (have i_hz7 := Imp.go hz7 (by omega))); (try (have i_x3 := Imp.go x3 (by omega))); (try (have i_x3 := Imp.go x3 (by omega))); (try (have i_hz7 := Imp.go hz7 (by omega))); omega))))⟩, by rw [ht]; exact hP, va_K.moved hW.alike hK, hD⟩, hS.F ht⟩) hS.2.2 dX12_takeNumber_103
    · skip
      have f14 : ((V 0 8)).toInt = 0 := b_eq rfl (by decide) c4
      exfalso; first | exact om_0abcda13baee r1.1 f3 f14 | first | omega | ((try (have i_x3 := Imp.go x3 (by omega))); omega)
  · skip
    have f15 : ((V 0 8)).toInt = 0 := b_eq rfl (by decide) c2
    refine lv_aload_n hx hb dX12_takeNumber_7 rfl (lv_at hl 0 rfl) ?_
    refine va_get (D := D) (ci := 12) (v := .ref (ad 4)) (C := RX12) (T := TX12) (N := 100) hx hb hg inX12 hown hK hP 0 rfl rfl 4 (by decide) (hg _ w1710) (fun _ h9 => h9) rfl dX12_takeNumber_8 ?_
    refine lv_aload_n hx hb dX12_takeNumber_11 rfl (lv_at hl 0 rfl) ?_
    refine va_get (D := D) (ci := 12) (v := .int (V 0 7)) (C := RX12) (T := TX12) (N := 100) hx hb hg inX12 hown hK hP 0 rfl rfl 7 (by decide) (hg _ w1713) (fun _ h9 => h9) rfl dX12_takeNumber_12 ?_
    refine va_iald (D := D) (i := (V 0 7)) hx hb hK hP 2 1 rfl rfl (i_in (a := ((V 0 7)).toInt) rfl (by first | exact om_04c3762723a1 x2 ((Imp.go x3 (f15)).1) ((Imp.go x3 (f15)).2) | first | omega | ((try (have i_x3 := Imp.go x3 (by omega))); omega))) dX12_takeNumber_15 ?_
    have t16 := tok_ne (V := V) (x := (V 0 7)) (n := n) x1 (by first | omega | ((try (have i_x3 := Imp.go x3 (by omega))); omega))
    refine lv_iconst (v := 2) hx hb dX12_takeNumber_16 (by decide) ?_
    refine lv_icmp_eq (tgt := 28) hx hb dX12_takeNumber_17 (by decide) (fun c17 => ?_) (fun c17 => ?_)
    · skip
      have f18 : ((V 4 (Int32.toNatClampNeg (V 0 7)))).toInt = 2 := b_eq rfl (by decide) c17
      refine lv_aload_n hx hb dX12_takeNumber_28 rfl (lv_at hl 0 rfl) ?_
      refine va_get (D := D) (ci := 12) (v := .int (V 0 8)) (C := RX12) (T := TX12) (N := 100) hx hb hg inX12 hown hK hP 0 rfl rfl 8 (by decide) (hg _ w1714) (fun _ h9 => h9) rfl dX12_takeNumber_29 ?_
      refine lv_if_ne (tgt := 70) hx hb dX12_takeNumber_32 (by decide) (fun c19 => ?_) (fun c19 => ?_)
      · skip
        have f20 : ((V 0 8)).toInt ≠ 0 := b_neq rfl (by decide) c19
        exfalso; first | exact om_fb320d7600b7 r1.1 f15 f20 | first | omega | ((try (have i_t16 := Imp.go t16 (by omega))); (try (have i_x3 := Imp.go x3 (by omega))); (try (have i_x3 := Imp.go x3 (by omega))); (try (have i_t16 := Imp.go t16 (by omega))); omega)
      · skip
        have f21 : ((V 0 8)).toInt = 0 := b_eq rfl (by decide) c19
        refine lv_aload_n hx hb dX12_takeNumber_35 rfl (lv_at hl 0 rfl) ?_
        refine va_get (D := D) (ci := 12) (v := .ref (ad 6)) (C := RX12) (T := TX12) (N := 100) hx hb hg inX12 hown hK hP 0 rfl rfl 6 (by decide) (hg _ w1712) (fun _ h9 => h9) rfl dX12_takeNumber_36 ?_
        refine lv_aload_n hx hb dX12_takeNumber_39 rfl (lv_at hl 0 rfl) ?_
        refine va_get (D := D) (ci := 12) (v := .int (V 0 7)) (C := RX12) (T := TX12) (N := 100) hx hb hg inX12 hown hK hP 0 rfl rfl 7 (by decide) (hg _ w1713) (fun _ h9 => h9) rfl dX12_takeNumber_40 ?_
        refine va_lald (D := D) (i := (V 0 7)) hx hb hK hP 4 3 rfl rfl (i_in (a := ((V 0 7)).toInt) rfl (by first | exact om_04c3762723a1 x2 ((Imp.go x3 (f21)).1) ((Imp.go x3 (f21)).2) | first | omega | ((try (have i_t16 := Imp.go t16 (by omega))); (try (have i_x3 := Imp.go x3 (by omega))); (try (have i_x3 := Imp.go x3 (by omega))); (try (have i_t16 := Imp.go t16 (by omega))); omega))) dX12_takeNumber_43 ?_
        refine lv_iload_n hx hb dX12_takeNumber_44 rfl (lv_at hl 1 rfl) ?_
        refine lv_i2l hx hb dX12_takeNumber_45 rfl ?_
        refine lv_topl (fun w22 ew22 => ?_)
        have hw22 : w22.toInt = p0.toInt := i2l_f ew22 rfl
        refine W.lcmp hx hb dX12_takeNumber_46 ?_
        refine lv_topi (fun z23 ez23 => ?_)
        have hz23 := lcmp_f ez23
        refine lv_if_lt (tgt := 65) hx hb dX12_takeNumber_47 (by decide) (fun c24 => ?_) (fun c24 => ?_)
        · skip
          have f25 : z23.toInt < 0 := b_lt rfl (by decide) c24
          refine lv_aload_n hx hb dX12_takeNumber_65 rfl (lv_at hl 0 rfl) ?_
          refine lv_iconst (v := 4) hx hb dX12_takeNumber_66 (by decide) ?_
          have r26 : Int32.toInt 4 = 4 := by decide
          refine gA_void (gA_runV (As := [.int 4]) (rest := []) (ci := 12) (q0 := 0) hx hb hml hown hg hP hD hK hS hA hnw hgk (s_wrong l D ks H.size ad kk V L 4 (n) hMV (by decide) (show (V 4 (n)).toInt = 0 from by first | exact om_b66ba74381d5 x1 | first | omega | ((try (have i_t16 := Imp.go t16 (by omega))); (try (have i_x3 := Imp.go x3 (by omega))); (try (have i_x3 := Imp.go x3 (by omega))); (try (have i_t16 := Imp.go t16 (by omega))); omega)) (show (n) ≤ 4000 from by first | exact om_af64e361c991 x2 | first | omega | ((try (have i_t16 := Imp.go t16 (by omega))); (try (have i_x3 := Imp.go x3 (by omega))); (try (have i_x3 := Imp.go x3 (by omega))); (try (have i_t16 := Imp.go t16 (by omega))); omega)) (Imp.mk (fun hp => have hp : (V 0 8).toInt = 0 := hp; (show 0 ≤ (V 0 7).toInt ∧ (V 0 7).toInt ≤ (n) from by first | exact om_408b46baf51e ((Imp.go x3 (hp)).1) ((Imp.go x3 (hp)).2) | first | omega | ((try (have i_t16 := Imp.go t16 (by omega))); (try (have i_x3 := Imp.go x3 (by omega))); (try (have i_x3 := Imp.go x3 (by omega))); (try (have i_t16 := Imp.go t16 (by omega))); omega))))) w2035 w2037 w86 w172 w2038 rfl rfl hdV_yX12_wrong ⟨Nat.le_of_ble_eq_true rfl, Nat.le_of_ble_eq_true rfl⟩ rfl hl.1 rfl (Nat.le_of_ble_eq_true rfl) dX12_takeNumber_67 ⟨Nat.le_of_ble_eq_true rfl, Nat.le_of_ble_eq_true rfl⟩) hP hD hK hS hA (fun u28 H locs w29 hP hD hK hS => ?_)
          obtain ⟨V31, L32⟩ := u28
          obtain ⟨hMV31, ajV31, axL32, t30⟩ := w29
          have axL32 : L = L32 := Eq.symm axL32
          subst axL32
          replace hP : va_P D vwCl (mw ad kk ks.1 V31 L) H := hP
          replace hD : va_D A (mw ad kk ks.1 V31 L) := hD
          replace hMV31 : rgd bM V31 := hMV31
          replace ajV31 : agr [(0, 8)] [] V V31 := ajV31
          have agV31 : agr [(0, 7), (0, 8)] [] V V31 := agV.tr ajV31 (by decide) (by decide)
          replace t30 : 1 ≤ (V31 0 8).toInt := t30
          have r33 : 0 ≤ ((V31 0 8)).toInt ∧ ((V31 0 8)).toInt ≤ 70000 := hMV31 0 8
          refine lv_aload_n hx hb dX12_takeNumber_70 rfl (lv_at hl 0 rfl) ?_
          refine lv_dup hx hb dX12_takeNumber_71 rfl ?_
          refine va_get (D := D) (ci := 12) (v := .int (V31 0 7)) (C := RX12) (T := TX12) (N := 100) hx hb hg inX12 hown hK hP 0 rfl rfl 7 (by decide) (hg _ w1713) (fun _ h9 => h9) rfl dX12_takeNumber_72 ?_
          refine g_top (v := (V 0 7)) (ajV31 0 7 rfl) ?_
          refine lv_iconst (v := 1) hx hb dX12_takeNumber_75 (by decide) ?_
          refine lv_iadd hx hb dX12_takeNumber_76 ?_
          have r34 := i_full (V 0 7)
          refine lv_topi (fun z35 ez35 => ?_)
          have hz35 : Imp (-2147483648 ≤ ((V 0 7)).toInt + 1 ∧ ((V 0 7)).toInt + 1 ≤ 2147483647) (z35.toInt = ((V 0 7)).toInt + 1) := Imp.mk (fun hp => i_add ez35 rfl (by decide) hp)
          refine va_put (D := D) (ci := 12) (v := .int z35) (ty := tyX12 7) (C := RX12) (T := TX12) (N := 100) hx hb hg inX12 tyX12 tyX12_ok nmX12 hown hK hP hD hS 0 rfl rfl 7 (by decide) (hg _ w1713) (fun _ h9 => h9) rfl (tyX12_ok 7 (by decide)) rfl rfl (Nat.le_of_ble_eq_true rfl) dX12_takeNumber_77 (fun H locs hP hD hS => ?_)
          obtain ⟨V36, hV36⟩ : ∃ z, z = up2 V31 0 7 z35 := ⟨_, rfl⟩
          have hP : va_P D vwCl (mw ad kk ks.1 V36 L) H := by rw [hV36]; exact hP
          have hD : va_D A (mw ad kk ks.1 V36 L) := by rw [hV36]; exact hD
          have hMV36 : rgd bM V36 := hMV31.put hV36 (i_full _)
          have agV36 : agr [(0, 7), (0, 8)] [] V V36 := agV31.up hV36 rfl
          refine lv_aload_n hx hb dX12_takeNumber_80 rfl (lv_at hl 0 rfl) ?_
          refine va_get (D := D) (ci := 12) (v := .int (V36 0 8)) (C := RX12) (T := TX12) (N := 100) hx hb hg inX12 hown hK hP 0 rfl rfl 8 (by decide) (hg _ w1714) (fun _ h9 => h9) rfl dX12_takeNumber_81 ?_
          refine g_top (v := (V31 0 8)) (up2_k hV36 (by decide)) ?_
          refine lv_if_le (tgt := 91) hx hb dX12_takeNumber_84 (by decide) (fun c37 => ?_) (fun c37 => ?_)
          · skip
            have f38 : ((V31 0 8)).toInt ≤ 0 := b_le rfl (by decide) c37
            exfalso; first | exact om_f4ec09d15507 t30 f38 | first | omega | ((try (have i_hz35 := Imp.go hz35 (by omega))); (try (have i_t16 := Imp.go t16 (by omega))); (try (have i_x3 := Imp.go x3 (by omega))); (try (have i_x3 := Imp.go x3 (by omega))); (try (have i_t16 := Imp.go t16 (by omega))); (try (have i_hz35 := Imp.go hz35 (by omega))); omega)
          · skip
            have f39 : 0 < ((V31 0 8)).toInt := b_nle rfl (by decide) c37
            refine lv_iconst (v := 0) hx hb dX12_takeNumber_87 (by decide) ?_
            refine lv_goto (tgt := 103) hx hb dX12_takeNumber_88 (by decide) ?_
            have pq40 : (V36 0 7).toInt = z35.toInt := congrArg Int32.toInt (up2_s hV36)
            have pq41 : (V36 0 8).toInt = ((V31 0 8)).toInt := congrArg Int32.toInt (up2_k hV36 (by decide))
            exact W.iret (v := 0) hx hb hr (fun t ht hW => ⟨⟨0, (V36, L), rfl, ⟨hMV36, agV36, rfl, (Imp.mk (fun hp => have hp : (V36 0 8).toInt = 0 := hp; (show 0 ≤ (V36 0 7).toInt ∧ (V36 0 7).toInt ≤ n ∧ (V 0 8).toInt = 0 ∧ (V 0 7).toInt ≤ (V36 0 7).toInt from by first | omega | ((try (have i_hz35 := Imp.go hz35 (by omega))); (try (have i_t16 := Imp.go t16 (by omega))); (try (have i_x3 := Imp.go x3 (by omega))); (try (have i_x3 := Imp.go x3 (by omega))); (try (have i_t16 := Imp.go t16 (by omega))); (try (have i_hz35 := Imp.go hz35 (by omega))); omega)))), (Imp.mk (fun hp => have hp : (V36 0 8).toInt = 0 := hp; (show p0.toInt ≤ 0 ∧ 0 ≤ p1.toInt from by first | omega | ((try (have i_hz35 := Imp.go hz35 (by omega))); (try (have i_t16 := Imp.go t16 (by omega))); (try (have i_x3 := Imp.go x3 (by omega))); (try (have i_x3 := Imp.go x3 (by omega))); (try (have i_t16 := Imp.go t16 (by omega))); (try (have i_hz35 := Imp.go hz35 (by omega))); omega)))), (Imp.mk (fun hp => have hp : (V36 0 8).toInt = 0 := hp; (show (V 0 7).toInt + 1 ≤ (V36 0 7).toInt from by first | omega | ((try (have i_hz35 := Imp.go hz35 (by omega))); (try (have i_t16 := Imp.go t16 (by omega))); (try (have i_x3 := Imp.go x3 (by omega))); (try (have i_x3 := Imp.go x3 (by omega))); (try (have i_t16 := Imp.go t16 (by omega))); (try (have i_hz35 := Imp.go hz35 (by omega))); omega)))), (Imp.mk (fun hp => have hp : 1 ≤ (V36 0 8).toInt := hp; (show 0 = 0 from by first | omega | ((try (have i_hz35 := Imp.go hz35 (by omega))); (try (have i_t16 := Imp.go t16 (by omega))); (try (have i_x3 := Imp.go x3 (by omega))); (try (have i_x3 := Imp.go x3 (by omega))); (try (have i_t16 := Imp.go t16 (by omega))); (try (have i_hz35 := Imp.go hz35 (by omega))); omega))))⟩, by rw [ht]; exact hP, va_K.moved hW.alike hK, hD⟩, hS.F ht⟩) hS.2.2 dX12_takeNumber_103
        · skip
          have f42 : 0 ≤ z23.toInt := b_nlt rfl (by decide) c24
          refine lv_aload_n hx hb dX12_takeNumber_50 rfl (lv_at hl 0 rfl) ?_
          refine va_get (D := D) (ci := 12) (v := .ref (ad 6)) (C := RX12) (T := TX12) (N := 100) hx hb hg inX12 hown hK hP 0 rfl rfl 6 (by decide) (hg _ w1712) (fun _ h9 => h9) rfl dX12_takeNumber_51 ?_
          refine lv_aload_n hx hb dX12_takeNumber_54 rfl (lv_at hl 0 rfl) ?_
          refine va_get (D := D) (ci := 12) (v := .int (V 0 7)) (C := RX12) (T := TX12) (N := 100) hx hb hg inX12 hown hK hP 0 rfl rfl 7 (by decide) (hg _ w1713) (fun _ h9 => h9) rfl dX12_takeNumber_55 ?_
          refine va_lald (D := D) (i := (V 0 7)) hx hb hK hP 4 3 rfl rfl (i_in (a := ((V 0 7)).toInt) rfl (by first | exact om_04c3762723a1 x2 ((Imp.go x3 (f21)).1) ((Imp.go x3 (f21)).2) | first | omega | ((try (have i_t16 := Imp.go t16 (by omega))); (try (have i_x3 := Imp.go x3 (by omega))); (try (have i_x3 := Imp.go x3 (by omega))); (try (have i_t16 := Imp.go t16 (by omega))); omega))) dX12_takeNumber_58 ?_
          refine lv_iload_n hx hb dX12_takeNumber_59 rfl (lv_at hl 2 rfl) ?_
          refine lv_i2l hx hb dX12_takeNumber_60 rfl ?_
          refine lv_topl (fun w43 ew43 => ?_)
          have hw43 : w43.toInt = p1.toInt := i2l_f ew43 rfl
          refine W.lcmp hx hb dX12_takeNumber_61 ?_
          refine lv_topi (fun z44 ez44 => ?_)
          have hz44 := lcmp_f ez44
          refine lv_if_le (tgt := 70) hx hb dX12_takeNumber_62 (by decide) (fun c45 => ?_) (fun c45 => ?_)
          · skip
            have f46 : z44.toInt ≤ 0 := b_le rfl (by decide) c45
            refine lv_aload_n hx hb dX12_takeNumber_70 rfl (lv_at hl 0 rfl) ?_
            refine lv_dup hx hb dX12_takeNumber_71 rfl ?_
            refine va_get (D := D) (ci := 12) (v := .int (V 0 7)) (C := RX12) (T := TX12) (N := 100) hx hb hg inX12 hown hK hP 0 rfl rfl 7 (by decide) (hg _ w1713) (fun _ h9 => h9) rfl dX12_takeNumber_72 ?_
            refine lv_iconst (v := 1) hx hb dX12_takeNumber_75 (by decide) ?_
            refine lv_iadd hx hb dX12_takeNumber_76 ?_
            have r47 := i_full (V 0 7)
            refine lv_topi (fun z48 ez48 => ?_)
            have hz48 : Imp (-2147483648 ≤ ((V 0 7)).toInt + 1 ∧ ((V 0 7)).toInt + 1 ≤ 2147483647) (z48.toInt = ((V 0 7)).toInt + 1) := Imp.mk (fun hp => i_add ez48 rfl (by decide) hp)
            refine va_put (D := D) (ci := 12) (v := .int z48) (ty := tyX12 7) (C := RX12) (T := TX12) (N := 100) hx hb hg inX12 tyX12 tyX12_ok nmX12 hown hK hP hD hS 0 rfl rfl 7 (by decide) (hg _ w1713) (fun _ h9 => h9) rfl (tyX12_ok 7 (by decide)) rfl rfl (Nat.le_of_ble_eq_true rfl) dX12_takeNumber_77 (fun H locs hP hD hS => ?_)
            obtain ⟨V49, hV49⟩ : ∃ z, z = up2 V 0 7 z48 := ⟨_, rfl⟩
            have hP : va_P D vwCl (mw ad kk ks.1 V49 L) H := by rw [hV49]; exact hP
            have hD : va_D A (mw ad kk ks.1 V49 L) := by rw [hV49]; exact hD
            have hMV49 : rgd bM V49 := hMV.put hV49 (i_full _)
            have agV49 : agr [(0, 7), (0, 8)] [] V V49 := agV.up hV49 rfl
            refine lv_aload_n hx hb dX12_takeNumber_80 rfl (lv_at hl 0 rfl) ?_
            refine va_get (D := D) (ci := 12) (v := .int (V49 0 8)) (C := RX12) (T := TX12) (N := 100) hx hb hg inX12 hown hK hP 0 rfl rfl 8 (by decide) (hg _ w1714) (fun _ h9 => h9) rfl dX12_takeNumber_81 ?_
            refine g_top (v := (V 0 8)) (up2_k hV49 (by decide)) ?_
            refine lv_if_le (tgt := 91) hx hb dX12_takeNumber_84 (by decide) (fun c50 => ?_) (fun c50 => ?_)
            · skip
              have f51 : ((V 0 8)).toInt ≤ 0 := b_le rfl (by decide) c50
              refine lv_aload_n hx hb dX12_takeNumber_91 rfl (lv_at hl 0 rfl) ?_
              refine va_get (D := D) (ci := 12) (v := .ref (ad 6)) (C := RX12) (T := TX12) (N := 100) hx hb hg inX12 hown hK hP 0 rfl rfl 6 (by decide) (hg _ w1712) (fun _ h9 => h9) rfl dX12_takeNumber_92 ?_
              refine lv_aload_n hx hb dX12_takeNumber_95 rfl (lv_at hl 0 rfl) ?_
              refine va_get (D := D) (ci := 12) (v := .int (V49 0 7)) (C := RX12) (T := TX12) (N := 100) hx hb hg inX12 hown hK hP 0 rfl rfl 7 (by decide) (hg _ w1713) (fun _ h9 => h9) rfl dX12_takeNumber_96 ?_
              refine g_top (v := z48) (up2_s hV49) ?_
              refine lv_iconst (v := 1) hx hb dX12_takeNumber_99 (by decide) ?_
              refine lv_isub hx hb dX12_takeNumber_100 ?_
              have r52 := i_full z48
              refine lv_topi (fun z53 ez53 => ?_)
              have hz53 : Imp (-2147483648 ≤ z48.toInt - 1 ∧ z48.toInt - 1 ≤ 2147483647) (z53.toInt = z48.toInt - 1) := Imp.mk (fun hp => i_sub ez53 rfl (by decide) hp)
              have q54 : z53 = (V 0 7) := Int32.toInt_inj.mp (by first | omega | ((try (have i_x3 := Imp.go x3 (f21))); omega) | ((try (have i_hz53 := Imp.go hz53 (by omega))); (try (have i_hz48 := Imp.go hz48 (by omega))); (try (have i_t16 := Imp.go t16 (by omega))); (try (have i_x3 := Imp.go x3 (by omega))); first | omega | ((try (have i_x3 := Imp.go x3 (by omega))); (try (have i_t16 := Imp.go t16 (by omega))); (try (have i_hz48 := Imp.go hz48 (by omega))); (try (have i_hz53 := Imp.go hz53 (by omega))); omega)))
              rw [q54]
              refine va_lald (D := D) (i := (V 0 7)) hx hb hK hP 4 3 rfl rfl (i_in (a := ((V 0 7)).toInt) rfl (by first | exact om_04c3762723a1 x2 ((Imp.go x3 (f21)).1) ((Imp.go x3 (f21)).2) | first | omega | ((try (have i_x3 := Imp.go x3 (f21))); omega) | ((try (have i_hz53 := Imp.go hz53 (by omega))); (try (have i_hz48 := Imp.go hz48 (by omega))); (try (have i_t16 := Imp.go t16 (by omega))); (try (have i_x3 := Imp.go x3 (by omega))); first | omega | ((try (have i_x3 := Imp.go x3 (by omega))); (try (have i_t16 := Imp.go t16 (by omega))); (try (have i_hz48 := Imp.go hz48 (by omega))); (try (have i_hz53 := Imp.go hz53 (by omega))); omega)))) dX12_takeNumber_101 ?_
              refine lv_l2i hx hb dX12_takeNumber_102 rfl ?_
              refine lv_topi (fun z55 ez55 => ?_)
              have hz55 := l2i_f ez55
              have pq56 : (V49 0 7).toInt = z48.toInt := congrArg Int32.toInt (up2_s hV49)
              have pq57 : (V49 0 8).toInt = ((V 0 8)).toInt := congrArg Int32.toInt (up2_k hV49 (by decide))
              exact W.iret (v := z55) hx hb hr (fun t ht hW => ⟨⟨z55, (V49, L), rfl, ⟨hMV49, agV49, rfl, (Imp.mk (fun hp => have hp : (V49 0 8).toInt = 0 := hp; (show 0 ≤ (V49 0 7).toInt ∧ (V49 0 7).toInt ≤ n ∧ (V 0 8).toInt = 0 ∧ (V 0 7).toInt ≤ (V49 0 7).toInt from by first | omega | ((try (have i_x3 := Imp.go x3 (f21))); omega) | ((try (have i_hz55 := Imp.go hz55 (by omega))); (try (have i_hz53 := Imp.go hz53 (by omega))); (try (have i_hz48 := Imp.go hz48 (by omega))); (try (have i_t16 := Imp.go t16 (by omega))); first | omega | ((try (have i_x3 := Imp.go x3 (by omega))); (try (have i_x3 := Imp.go x3 (by omega))); (try (have i_t16 := Imp.go t16 (by omega))); (try (have i_hz48 := Imp.go hz48 (by omega))); (try (have i_hz53 := Imp.go hz53 (by omega))); (try (have i_hz55 := Imp.go hz55 (by omega))); omega))))), (Imp.mk (fun hp => have hp : (V49 0 8).toInt = 0 := hp; (show p0.toInt ≤ z55.toInt ∧ z55.toInt ≤ p1.toInt from by first | omega | ((try (have i_x3 := Imp.go x3 (f21))); omega) | ((try (have i_hz55 := Imp.go hz55 (by omega))); (try (have i_hz53 := Imp.go hz53 (by omega))); (try (have i_hz48 := Imp.go hz48 (by omega))); (try (have i_t16 := Imp.go t16 (by omega))); first | omega | ((try (have i_x3 := Imp.go x3 (by omega))); (try (have i_x3 := Imp.go x3 (by omega))); (try (have i_t16 := Imp.go t16 (by omega))); (try (have i_hz48 := Imp.go hz48 (by omega))); (try (have i_hz53 := Imp.go hz53 (by omega))); (try (have i_hz55 := Imp.go hz55 (by omega))); omega))))), (Imp.mk (fun hp => have hp : (V49 0 8).toInt = 0 := hp; (show (V 0 7).toInt + 1 ≤ (V49 0 7).toInt from by first | exact om_202eeafe7f37 pq56 ((Imp.go hz48 (om_c1248e7f4c05 x2 ((Imp.go x3 (f21)).1) ((Imp.go x3 (f21)).2)))) | first | omega | ((try (have i_x3 := Imp.go x3 (f21))); omega) | ((try (have i_hz55 := Imp.go hz55 (by omega))); (try (have i_hz53 := Imp.go hz53 (by omega))); (try (have i_hz48 := Imp.go hz48 (by omega))); (try (have i_t16 := Imp.go t16 (by omega))); first | omega | ((try (have i_x3 := Imp.go x3 (by omega))); (try (have i_x3 := Imp.go x3 (by omega))); (try (have i_t16 := Imp.go t16 (by omega))); (try (have i_hz48 := Imp.go hz48 (by omega))); (try (have i_hz53 := Imp.go hz53 (by omega))); (try (have i_hz55 := Imp.go hz55 (by omega))); omega))))), (Imp.mk (fun hp => have hp : 1 ≤ (V49 0 8).toInt := hp; (show z55.toInt = 0 from by first | omega | ((try (have i_x3 := Imp.go x3 (f21))); omega) | ((try (have i_hz55 := Imp.go hz55 (by omega))); (try (have i_hz53 := Imp.go hz53 (by omega))); (try (have i_hz48 := Imp.go hz48 (by omega))); (try (have i_t16 := Imp.go t16 (by omega))); first | omega | ((try (have i_x3 := Imp.go x3 (by omega))); (try (have i_x3 := Imp.go x3 (by omega))); (try (have i_t16 := Imp.go t16 (by omega))); (try (have i_hz48 := Imp.go hz48 (by omega))); (try (have i_hz53 := Imp.go hz53 (by omega))); (try (have i_hz55 := Imp.go hz55 (by omega))); omega)))))⟩, by rw [ht]; exact hP, va_K.moved hW.alike hK, hD⟩, hS.F ht⟩) hS.2.2 dX12_takeNumber_103
            · skip
              have f58 : 0 < ((V 0 8)).toInt := b_nle rfl (by decide) c50
              exfalso; first | exact om_bf2beb62232e f15 f58 | first | omega | ((try (have i_hz48 := Imp.go hz48 (by omega))); (try (have i_t16 := Imp.go t16 (by omega))); (try (have i_x3 := Imp.go x3 (by omega))); (try (have i_x3 := Imp.go x3 (by omega))); (try (have i_t16 := Imp.go t16 (by omega))); (try (have i_hz48 := Imp.go hz48 (by omega))); omega)
          · skip
            have f59 : 0 < z44.toInt := b_nle rfl (by decide) c45
            refine lv_aload_n hx hb dX12_takeNumber_65 rfl (lv_at hl 0 rfl) ?_
            refine lv_iconst (v := 4) hx hb dX12_takeNumber_66 (by decide) ?_
            have r60 : Int32.toInt 4 = 4 := by decide
            refine gA_void (gA_runV (As := [.int 4]) (rest := []) (ci := 12) (q0 := 0) hx hb hml hown hg hP hD hK hS hA hnw hgk (s_wrong l D ks H.size ad kk V L 4 (n) hMV (by decide) (show (V 4 (n)).toInt = 0 from by first | exact om_b66ba74381d5 x1 | first | omega | ((try (have i_t16 := Imp.go t16 (by omega))); (try (have i_x3 := Imp.go x3 (by omega))); (try (have i_x3 := Imp.go x3 (by omega))); (try (have i_t16 := Imp.go t16 (by omega))); omega)) (show (n) ≤ 4000 from by first | exact om_af64e361c991 x2 | first | omega | ((try (have i_t16 := Imp.go t16 (by omega))); (try (have i_x3 := Imp.go x3 (by omega))); (try (have i_x3 := Imp.go x3 (by omega))); (try (have i_t16 := Imp.go t16 (by omega))); omega)) (Imp.mk (fun hp => have hp : (V 0 8).toInt = 0 := hp; (show 0 ≤ (V 0 7).toInt ∧ (V 0 7).toInt ≤ (n) from by first | exact om_408b46baf51e ((Imp.go x3 (hp)).1) ((Imp.go x3 (hp)).2) | first | omega | ((try (have i_t16 := Imp.go t16 (by omega))); (try (have i_x3 := Imp.go x3 (by omega))); (try (have i_x3 := Imp.go x3 (by omega))); (try (have i_t16 := Imp.go t16 (by omega))); omega))))) w2035 w2037 w86 w172 w2038 rfl rfl hdV_yX12_wrong ⟨Nat.le_of_ble_eq_true rfl, Nat.le_of_ble_eq_true rfl⟩ rfl hl.1 rfl (Nat.le_of_ble_eq_true rfl) dX12_takeNumber_67 ⟨Nat.le_of_ble_eq_true rfl, Nat.le_of_ble_eq_true rfl⟩) hP hD hK hS hA (fun u62 H locs w63 hP hD hK hS => ?_)
            obtain ⟨V65, L66⟩ := u62
            obtain ⟨hMV65, ajV65, axL66, t64⟩ := w63
            have axL66 : L = L66 := Eq.symm axL66
            subst axL66
            replace hP : va_P D vwCl (mw ad kk ks.1 V65 L) H := hP
            replace hD : va_D A (mw ad kk ks.1 V65 L) := hD
            replace hMV65 : rgd bM V65 := hMV65
            replace ajV65 : agr [(0, 8)] [] V V65 := ajV65
            have agV65 : agr [(0, 7), (0, 8)] [] V V65 := agV.tr ajV65 (by decide) (by decide)
            replace t64 : 1 ≤ (V65 0 8).toInt := t64
            have r67 : 0 ≤ ((V65 0 8)).toInt ∧ ((V65 0 8)).toInt ≤ 70000 := hMV65 0 8
            refine lv_aload_n hx hb dX12_takeNumber_70 rfl (lv_at hl 0 rfl) ?_
            refine lv_dup hx hb dX12_takeNumber_71 rfl ?_
            refine va_get (D := D) (ci := 12) (v := .int (V65 0 7)) (C := RX12) (T := TX12) (N := 100) hx hb hg inX12 hown hK hP 0 rfl rfl 7 (by decide) (hg _ w1713) (fun _ h9 => h9) rfl dX12_takeNumber_72 ?_
            refine g_top (v := (V 0 7)) (ajV65 0 7 rfl) ?_
            refine lv_iconst (v := 1) hx hb dX12_takeNumber_75 (by decide) ?_
            refine lv_iadd hx hb dX12_takeNumber_76 ?_
            have r68 := i_full (V 0 7)
            refine lv_topi (fun z69 ez69 => ?_)
            have hz69 : Imp (-2147483648 ≤ ((V 0 7)).toInt + 1 ∧ ((V 0 7)).toInt + 1 ≤ 2147483647) (z69.toInt = ((V 0 7)).toInt + 1) := Imp.mk (fun hp => i_add ez69 rfl (by decide) hp)
            refine va_put (D := D) (ci := 12) (v := .int z69) (ty := tyX12 7) (C := RX12) (T := TX12) (N := 100) hx hb hg inX12 tyX12 tyX12_ok nmX12 hown hK hP hD hS 0 rfl rfl 7 (by decide) (hg _ w1713) (fun _ h9 => h9) rfl (tyX12_ok 7 (by decide)) rfl rfl (Nat.le_of_ble_eq_true rfl) dX12_takeNumber_77 (fun H locs hP hD hS => ?_)
            obtain ⟨V70, hV70⟩ : ∃ z, z = up2 V65 0 7 z69 := ⟨_, rfl⟩
            have hP : va_P D vwCl (mw ad kk ks.1 V70 L) H := by rw [hV70]; exact hP
            have hD : va_D A (mw ad kk ks.1 V70 L) := by rw [hV70]; exact hD
            have hMV70 : rgd bM V70 := hMV65.put hV70 (i_full _)
            have agV70 : agr [(0, 7), (0, 8)] [] V V70 := agV65.up hV70 rfl
            refine lv_aload_n hx hb dX12_takeNumber_80 rfl (lv_at hl 0 rfl) ?_
            refine va_get (D := D) (ci := 12) (v := .int (V70 0 8)) (C := RX12) (T := TX12) (N := 100) hx hb hg inX12 hown hK hP 0 rfl rfl 8 (by decide) (hg _ w1714) (fun _ h9 => h9) rfl dX12_takeNumber_81 ?_
            refine g_top (v := (V65 0 8)) (up2_k hV70 (by decide)) ?_
            refine lv_if_le (tgt := 91) hx hb dX12_takeNumber_84 (by decide) (fun c71 => ?_) (fun c71 => ?_)
            · skip
              have f72 : ((V65 0 8)).toInt ≤ 0 := b_le rfl (by decide) c71
              exfalso; first | exact om_f4ec09d15507 t64 f72 | first | omega | ((try (have i_hz69 := Imp.go hz69 (by omega))); (try (have i_t16 := Imp.go t16 (by omega))); (try (have i_x3 := Imp.go x3 (by omega))); (try (have i_x3 := Imp.go x3 (by omega))); (try (have i_t16 := Imp.go t16 (by omega))); (try (have i_hz69 := Imp.go hz69 (by omega))); omega)
            · skip
              have f73 : 0 < ((V65 0 8)).toInt := b_nle rfl (by decide) c71
              refine lv_iconst (v := 0) hx hb dX12_takeNumber_87 (by decide) ?_
              refine lv_goto (tgt := 103) hx hb dX12_takeNumber_88 (by decide) ?_
              have pq74 : (V70 0 7).toInt = z69.toInt := congrArg Int32.toInt (up2_s hV70)
              have pq75 : (V70 0 8).toInt = ((V65 0 8)).toInt := congrArg Int32.toInt (up2_k hV70 (by decide))
              exact W.iret (v := 0) hx hb hr (fun t ht hW => ⟨⟨0, (V70, L), rfl, ⟨hMV70, agV70, rfl, (Imp.mk (fun hp => have hp : (V70 0 8).toInt = 0 := hp; (show 0 ≤ (V70 0 7).toInt ∧ (V70 0 7).toInt ≤ n ∧ (V 0 8).toInt = 0 ∧ (V 0 7).toInt ≤ (V70 0 7).toInt from by first | omega | ((try (have i_hz69 := Imp.go hz69 (by omega))); (try (have i_t16 := Imp.go t16 (by omega))); (try (have i_x3 := Imp.go x3 (by omega))); (try (have i_x3 := Imp.go x3 (by omega))); (try (have i_t16 := Imp.go t16 (by omega))); (try (have i_hz69 := Imp.go hz69 (by omega))); omega)))), (Imp.mk (fun hp => have hp : (V70 0 8).toInt = 0 := hp; (show p0.toInt ≤ 0 ∧ 0 ≤ p1.toInt from by first | omega | ((try (have i_hz69 := Imp.go hz69 (by omega))); (try (have i_t16 := Imp.go t16 (by omega))); (try (have i_x3 := Imp.go x3 (by omega))); (try (have i_x3 := Imp.go x3 (by omega))); (try (have i_t16 := Imp.go t16 (by omega))); (try (have i_hz69 := Imp.go hz69 (by omega))); omega)))), (Imp.mk (fun hp => have hp : (V70 0 8).toInt = 0 := hp; (show (V 0 7).toInt + 1 ≤ (V70 0 7).toInt from by first | omega | ((try (have i_hz69 := Imp.go hz69 (by omega))); (try (have i_t16 := Imp.go t16 (by omega))); (try (have i_x3 := Imp.go x3 (by omega))); (try (have i_x3 := Imp.go x3 (by omega))); (try (have i_t16 := Imp.go t16 (by omega))); (try (have i_hz69 := Imp.go hz69 (by omega))); omega)))), (Imp.mk (fun hp => have hp : 1 ≤ (V70 0 8).toInt := hp; (show 0 = 0 from by first | omega | ((try (have i_hz69 := Imp.go hz69 (by omega))); (try (have i_t16 := Imp.go t16 (by omega))); (try (have i_x3 := Imp.go x3 (by omega))); (try (have i_x3 := Imp.go x3 (by omega))); (try (have i_t16 := Imp.go t16 (by omega))); (try (have i_hz69 := Imp.go hz69 (by omega))); omega))))⟩, by rw [ht]; exact hP, va_K.moved hW.alike hK, hD⟩, hS.F ht⟩) hS.2.2 dX12_takeNumber_103
    · skip
      have f76 : ((V 4 (Int32.toNatClampNeg (V 0 7)))).toInt ≠ 2 := b_neq rfl (by decide) c17
      refine lv_aload_n hx hb dX12_takeNumber_20 rfl (lv_at hl 0 rfl) ?_
      refine lv_iconst (v := 1) hx hb dX12_takeNumber_21 (by decide) ?_
      have r77 : Int32.toInt 1 = 1 := by decide
      refine gA_void (gA_runV (As := [.int 1]) (rest := []) (ci := 12) (q0 := 0) hx hb hml hown hg hP hD hK hS hA hnw hgk (s_wrong l D ks H.size ad kk V L 1 (n) hMV (by decide) (show (V 4 (n)).toInt = 0 from by first | exact om_b66ba74381d5 x1 | first | omega | ((try (have i_t16 := Imp.go t16 (by omega))); (try (have i_x3 := Imp.go x3 (by omega))); (try (have i_x3 := Imp.go x3 (by omega))); (try (have i_t16 := Imp.go t16 (by omega))); omega)) (show (n) ≤ 4000 from by first | exact om_af64e361c991 x2 | first | omega | ((try (have i_t16 := Imp.go t16 (by omega))); (try (have i_x3 := Imp.go x3 (by omega))); (try (have i_x3 := Imp.go x3 (by omega))); (try (have i_t16 := Imp.go t16 (by omega))); omega)) (Imp.mk (fun hp => have hp : (V 0 8).toInt = 0 := hp; (show 0 ≤ (V 0 7).toInt ∧ (V 0 7).toInt ≤ (n) from by first | exact om_408b46baf51e ((Imp.go x3 (hp)).1) ((Imp.go x3 (hp)).2) | first | omega | ((try (have i_t16 := Imp.go t16 (by omega))); (try (have i_x3 := Imp.go x3 (by omega))); (try (have i_x3 := Imp.go x3 (by omega))); (try (have i_t16 := Imp.go t16 (by omega))); omega))))) w2035 w2037 w86 w172 w2038 rfl rfl hdV_yX12_wrong ⟨Nat.le_of_ble_eq_true rfl, Nat.le_of_ble_eq_true rfl⟩ rfl hl.1 rfl (Nat.le_of_ble_eq_true rfl) dX12_takeNumber_22 ⟨Nat.le_of_ble_eq_true rfl, Nat.le_of_ble_eq_true rfl⟩) hP hD hK hS hA (fun u79 H locs w80 hP hD hK hS => ?_)
      obtain ⟨V82, L83⟩ := u79
      obtain ⟨hMV82, ajV82, axL83, t81⟩ := w80
      have axL83 : L = L83 := Eq.symm axL83
      subst axL83
      replace hP : va_P D vwCl (mw ad kk ks.1 V82 L) H := hP
      replace hD : va_D A (mw ad kk ks.1 V82 L) := hD
      replace hMV82 : rgd bM V82 := hMV82
      replace ajV82 : agr [(0, 8)] [] V V82 := ajV82
      have agV82 : agr [(0, 7), (0, 8)] [] V V82 := agV.tr ajV82 (by decide) (by decide)
      replace t81 : 1 ≤ (V82 0 8).toInt := t81
      have r84 : 0 ≤ ((V82 0 8)).toInt ∧ ((V82 0 8)).toInt ≤ 70000 := hMV82 0 8
      refine lv_goto (tgt := 70) hx hb dX12_takeNumber_25 (by decide) ?_
      refine lv_aload_n hx hb dX12_takeNumber_70 rfl (lv_at hl 0 rfl) ?_
      refine lv_dup hx hb dX12_takeNumber_71 rfl ?_
      refine va_get (D := D) (ci := 12) (v := .int (V82 0 7)) (C := RX12) (T := TX12) (N := 100) hx hb hg inX12 hown hK hP 0 rfl rfl 7 (by decide) (hg _ w1713) (fun _ h9 => h9) rfl dX12_takeNumber_72 ?_
      refine g_top (v := (V 0 7)) (ajV82 0 7 rfl) ?_
      refine lv_iconst (v := 1) hx hb dX12_takeNumber_75 (by decide) ?_
      refine lv_iadd hx hb dX12_takeNumber_76 ?_
      have r85 := i_full (V 0 7)
      refine lv_topi (fun z86 ez86 => ?_)
      have hz86 : Imp (-2147483648 ≤ ((V 0 7)).toInt + 1 ∧ ((V 0 7)).toInt + 1 ≤ 2147483647) (z86.toInt = ((V 0 7)).toInt + 1) := Imp.mk (fun hp => i_add ez86 rfl (by decide) hp)
      refine va_put (D := D) (ci := 12) (v := .int z86) (ty := tyX12 7) (C := RX12) (T := TX12) (N := 100) hx hb hg inX12 tyX12 tyX12_ok nmX12 hown hK hP hD hS 0 rfl rfl 7 (by decide) (hg _ w1713) (fun _ h9 => h9) rfl (tyX12_ok 7 (by decide)) rfl rfl (Nat.le_of_ble_eq_true rfl) dX12_takeNumber_77 (fun H locs hP hD hS => ?_)
      obtain ⟨V87, hV87⟩ : ∃ z, z = up2 V82 0 7 z86 := ⟨_, rfl⟩
      have hP : va_P D vwCl (mw ad kk ks.1 V87 L) H := by rw [hV87]; exact hP
      have hD : va_D A (mw ad kk ks.1 V87 L) := by rw [hV87]; exact hD
      have hMV87 : rgd bM V87 := hMV82.put hV87 (i_full _)
      have agV87 : agr [(0, 7), (0, 8)] [] V V87 := agV82.up hV87 rfl
      refine lv_aload_n hx hb dX12_takeNumber_80 rfl (lv_at hl 0 rfl) ?_
      refine va_get (D := D) (ci := 12) (v := .int (V87 0 8)) (C := RX12) (T := TX12) (N := 100) hx hb hg inX12 hown hK hP 0 rfl rfl 8 (by decide) (hg _ w1714) (fun _ h9 => h9) rfl dX12_takeNumber_81 ?_
      refine g_top (v := (V82 0 8)) (up2_k hV87 (by decide)) ?_
      refine lv_if_le (tgt := 91) hx hb dX12_takeNumber_84 (by decide) (fun c88 => ?_) (fun c88 => ?_)
      · skip
        have f89 : ((V82 0 8)).toInt ≤ 0 := b_le rfl (by decide) c88
        exfalso; first | exact om_f4ec09d15507 t81 f89 | first | omega | ((try (have i_hz86 := Imp.go hz86 (by omega))); (try (have i_t16 := Imp.go t16 (by omega))); (try (have i_x3 := Imp.go x3 (by omega))); (try (have i_x3 := Imp.go x3 (by omega))); (try (have i_t16 := Imp.go t16 (by omega))); (try (have i_hz86 := Imp.go hz86 (by omega))); omega)
      · skip
        have f90 : 0 < ((V82 0 8)).toInt := b_nle rfl (by decide) c88
        refine lv_iconst (v := 0) hx hb dX12_takeNumber_87 (by decide) ?_
        refine lv_goto (tgt := 103) hx hb dX12_takeNumber_88 (by decide) ?_
        have pq91 : (V87 0 7).toInt = z86.toInt := congrArg Int32.toInt (up2_s hV87)
        have pq92 : (V87 0 8).toInt = ((V82 0 8)).toInt := congrArg Int32.toInt (up2_k hV87 (by decide))
        exact W.iret (v := 0) hx hb hr (fun t ht hW => ⟨⟨0, (V87, L), rfl, ⟨hMV87, agV87, rfl, (Imp.mk (fun hp => have hp : (V87 0 8).toInt = 0 := hp; (show 0 ≤ (V87 0 7).toInt ∧ (V87 0 7).toInt ≤ n ∧ (V 0 8).toInt = 0 ∧ (V 0 7).toInt ≤ (V87 0 7).toInt from by first | omega | ((try (have i_hz86 := Imp.go hz86 (by omega))); (try (have i_t16 := Imp.go t16 (by omega))); (try (have i_x3 := Imp.go x3 (by omega))); (try (have i_x3 := Imp.go x3 (by omega))); (try (have i_t16 := Imp.go t16 (by omega))); (try (have i_hz86 := Imp.go hz86 (by omega))); omega)))), (Imp.mk (fun hp => have hp : (V87 0 8).toInt = 0 := hp; (show p0.toInt ≤ 0 ∧ 0 ≤ p1.toInt from by first | omega | ((try (have i_hz86 := Imp.go hz86 (by omega))); (try (have i_t16 := Imp.go t16 (by omega))); (try (have i_x3 := Imp.go x3 (by omega))); (try (have i_x3 := Imp.go x3 (by omega))); (try (have i_t16 := Imp.go t16 (by omega))); (try (have i_hz86 := Imp.go hz86 (by omega))); omega)))), (Imp.mk (fun hp => have hp : (V87 0 8).toInt = 0 := hp; (show (V 0 7).toInt + 1 ≤ (V87 0 7).toInt from by first | omega | ((try (have i_hz86 := Imp.go hz86 (by omega))); (try (have i_t16 := Imp.go t16 (by omega))); (try (have i_x3 := Imp.go x3 (by omega))); (try (have i_x3 := Imp.go x3 (by omega))); (try (have i_t16 := Imp.go t16 (by omega))); (try (have i_hz86 := Imp.go hz86 (by omega))); omega)))), (Imp.mk (fun hp => have hp : 1 ≤ (V87 0 8).toInt := hp; (show 0 = 0 from by first | omega | ((try (have i_hz86 := Imp.go hz86 (by omega))); (try (have i_t16 := Imp.go t16 (by omega))); (try (have i_x3 := Imp.go x3 (by omega))); (try (have i_x3 := Imp.go x3 (by omega))); (try (have i_t16 := Imp.go t16 (by omega))); (try (have i_hz86 := Imp.go hz86 (by omega))); omega))))⟩, by rw [ht]; exact hP, va_K.moved hW.alike hK, hD⟩, hS.F ht⟩) hS.2.2 dX12_takeNumber_103
abbrev r_s_oneOf : Room := { frames := 2, cells := 0, slots := 0, locals := 43 }
abbrev q_s_oneOf (D : va_G) (ks : KS) (ad : Nat → Nat) (kk : Nat → ClassId) (V : Vf) (L : Lf) (p0 : Int32) (p1 : Int32) (n : Nat) (A : Nat → Prop) : Array Value → State → Outcome → State → Prop := va_Qi (fun (r : Int32) (u : Vf × Lf) => rgd bM u.1 ∧ agr [(0, 7), (0, 8)] [] V u.1 ∧ u.2 = L ∧ (0 ≤ r.toInt ∧ r.toInt ≤ 3) ∧ (Imp ((u.1 0 8).toInt = 0) (0 ≤ (u.1 0 7).toInt ∧ (u.1 0 7).toInt ≤ n ∧ (V 0 8).toInt = 0 ∧ (V 0 7).toInt ≤ (u.1 0 7).toInt))) (fun u t => gq D A (mw ad kk ks.1 u.1 u.2) (mty kk) t) A
set_option maxHeartbeats 4000000 in
set_option maxRecDepth 100000 in
theorem s_oneOf (l : Launch) (D : va_G) (ks : KS) (sz : Nat) (ad : Nat → Nat) (kk : Nat → ClassId) (V : Vf) (L : Lf) (p0 : Int32) (p1 : Int32) (n : Nat) (hMV : rgd bM V) (rg_p0 : 0 ≤ p0.toInt ∧ p0.toInt ≤ 25) (rg_p1 : 0 ≤ p1.toInt ∧ p1.toInt ≤ 4) (x1 : (V 4 n).toInt = 0) (x2 : n ≤ 4000) (x3 : Imp ((V 0 8).toInt = 0) (0 ≤ (V 0 7).toInt ∧ (V 0 7).toInt ≤ n))  : Met l yX12_oneOf (Cond.code yX12_oneOf cX12_oneOf 4 (some .int) :: GW) r_s_oneOf (va_Pc [.ref (ad 0), .int p0, .int p1] (gp D ks (mw ad kk ks.1 V L) (mty kk) sz)) (q_s_oneOf D ks ad kk V L p0 p1 n (va_A (mw ad kk ks.1 V L) sz)) 0 0 (va_A (mw ad kk ks.1 V L) sz) := by
  refine g_met (q_s_oneOf D ks ad kk V L p0 p1 n) (by decide) (Nat.le_of_ble_eq_true rfl) ?_
  intro p e s m below meth c A ls H locs hx hb hr hml hown hg hlocks hin hnw hgk hP hK hD hS hA hl
  replace hown : s.vm.findClass RX12 = some m.cls := hown
  replace hl : lv_has ls 4 [(0, .ref (ad 0)), (1, .int p0), (2, .int p1)] := hl
  replace hP : va_P D vwCl (mw ad kk ks.1 V L) H := hP
  replace hD : va_D A (mw ad kk ks.1 V L) := hD
  replace hK : va_K D vwCl (mty kk) s := hK
  have agV : agr [(0, 7), (0, 8)] [] V V := agr.rf
  have r1 : 0 ≤ ((V 0 8)).toInt ∧ ((V 0 8)).toInt ≤ 70000 := hMV 0 8
  refine lv_iconst (v := 0) hx hb dX12_oneOf_0 (by decide) ?_
  refine lv_istore_n (lv' := [(3, .int 0), (0, .ref (ad 0)), (1, .int p0), (2, .int p1)]) hx hb dX12_oneOf_1 rfl hl (by decide) rfl (fun ls hl => ?_)
  have lp4 : ∀ (fulp4 : Nat) (y2 : Int32) (V3 : Vf) (H : Heap) (locs : List Loc) (ls : Array Slot), 0 ≤ y2.toInt ∧ y2.toInt ≤ 4 → y2.toInt ≤ p1.toInt → Imp ((V3 0 8).toInt = 0) (0 ≤ (V3 0 7).toInt ∧ (V3 0 7).toInt ≤ n ∧ (V 0 8).toInt = 0 ∧ (V 0 7).toInt ≤ (V3 0 7).toInt) → p1.toInt - y2.toInt < (fulp4 : Int) → agr [(0, 7)] [] V V3 → rgd bM V3 → va_P D vwCl (mw ad kk ks.1 V3 L) H → va_D A (mw ad kk ks.1 V3 L) → va_S A s.heap H locs → lv_has ls 4 [(3, .int y2), (0, .ref (ad 0)), (1, .int p0), (2, .int p1)] → W p l e r_s_oneOf s m ([.ref (ad 0), .int p0, .int p1] : List Value).toArray below meth c H locs 0 0 (MQ below (q_s_oneOf D ks ad kk V L p0 p1 n A) ([.ref (ad 0), .int p0, .int p1] : List Value).toArray s 0 0 A) (F0 m 2 ls []) := by
    intro fulp4
    induction fulp4 with
    | zero =>
      intro y2 V3 H locs ls klp4_0 xlp4_0 xlp4_1 hn ajV3 hMV3 hP hD hS hl
      exfalso; (first | exact om_4634b1278845 xlp4_0 hn | omega)
    | succ fulp4 ihlp4 =>
      intro y2 V3 H locs ls klp4_0 xlp4_0 xlp4_1 hn ajV3 hMV3 hP hD hS hl
      have agV3 : agr [(0, 7), (0, 8)] [] V V3 := agV.tr ajV3 (by decide) (by decide)
      have pq5 : (V3 0 8).toInt = ((V 0 8)).toInt := congrArg Int32.toInt (ajV3 0 8 rfl)
      refine lv_iload_n hx hb dX12_oneOf_2 rfl (lv_at hl 0 rfl) ?_
      refine lv_iload_n hx hb dX12_oneOf_3 rfl (lv_at hl 3 rfl) ?_
      refine lv_icmp_ge (tgt := 25) hx hb dX12_oneOf_4 (by decide) (fun c6 => ?_) (fun c6 => ?_)
      · skip
        have f7 : p1.toInt ≤ y2.toInt := b_le rfl rfl c6
        refine lv_aload_n hx hb dX12_oneOf_25 rfl (lv_at hl 1 rfl) ?_
        refine lv_iconst (v := 1) hx hb dX12_oneOf_26 (by decide) ?_
        have r8 : Int32.toInt 1 = 1 := by decide
        have pq9 : (V3 4 n).toInt = ((V 4 n)).toInt := congrArg Int32.toInt (ajV3 4 n rfl)
        refine gA_void (gA_runV (As := [.int 1]) (rest := []) (ci := 12) (q0 := 0) hx hb hml hown hg hP hD hK hS hA hnw hgk (s_wrong l D ks H.size ad kk V3 L 1 (n) hMV3 (by decide) (show (V3 4 (n)).toInt = 0 from by first | exact om_36161e850215 x1 pq9 | first | omega | ((try (have i_xlp4_1 := Imp.go xlp4_1 (by omega))); (try (have i_x3 := Imp.go x3 (by omega))); (try (have i_x3 := Imp.go x3 (by omega))); (try (have i_xlp4_1 := Imp.go xlp4_1 (by omega))); omega)) (show (n) ≤ 4000 from by first | exact om_af64e361c991 x2 | first | omega | ((try (have i_xlp4_1 := Imp.go xlp4_1 (by omega))); (try (have i_x3 := Imp.go x3 (by omega))); (try (have i_x3 := Imp.go x3 (by omega))); (try (have i_xlp4_1 := Imp.go xlp4_1 (by omega))); omega)) (Imp.mk (fun hp => have hp : (V3 0 8).toInt = 0 := hp; (show 0 ≤ (V3 0 7).toInt ∧ (V3 0 7).toInt ≤ (n) from by first | exact om_408b46baf51e ((Imp.go xlp4_1 (hp)).1) ((Imp.go xlp4_1 (hp)).2.1) | first | omega | ((try (have i_xlp4_1 := Imp.go xlp4_1 (by omega))); (try (have i_x3 := Imp.go x3 (by omega))); (try (have i_x3 := Imp.go x3 (by omega))); (try (have i_xlp4_1 := Imp.go xlp4_1 (by omega))); omega))))) w2035 w2037 w86 w172 w2038 rfl rfl hdV_yX12_wrong ⟨Nat.le_of_ble_eq_true rfl, Nat.le_of_ble_eq_true rfl⟩ rfl hl.1 rfl (Nat.le_of_ble_eq_true rfl) dX12_oneOf_27 ⟨Nat.le_of_ble_eq_true rfl, Nat.le_of_ble_eq_true rfl⟩) hP hD hK hS hA (fun u11 H locs w12 hP hD hK hS => ?_)
        obtain ⟨V14, L15⟩ := u11
        obtain ⟨hMV14, ajV14, axL15, t13⟩ := w12
        have axL15 : L = L15 := Eq.symm axL15
        subst axL15
        replace hP : va_P D vwCl (mw ad kk ks.1 V14 L) H := hP
        replace hD : va_D A (mw ad kk ks.1 V14 L) := hD
        replace hMV14 : rgd bM V14 := hMV14
        replace ajV14 : agr [(0, 8)] [] V3 V14 := ajV14
        have agV14 : agr [(0, 7), (0, 8)] [] V V14 := agV3.tr ajV14 (by decide) (by decide)
        replace t13 : 1 ≤ (V14 0 8).toInt := t13
        have r16 : 0 ≤ ((V14 0 8)).toInt ∧ ((V14 0 8)).toInt ≤ 70000 := hMV14 0 8
        refine lv_iconst (v := 0) hx hb dX12_oneOf_30 (by decide) ?_
        have pq17 : (V14 0 7).toInt = ((V3 0 7)).toInt := congrArg Int32.toInt (ajV14 0 7 rfl)
        exact W.iret (v := 0) hx hb hr (fun t ht hW => ⟨⟨0, (V14, L), rfl, ⟨hMV14, agV14, rfl, (by decide), (Imp.mk (fun hp => have hp : (V14 0 8).toInt = 0 := hp; (show 0 ≤ (V14 0 7).toInt ∧ (V14 0 7).toInt ≤ n ∧ (V 0 8).toInt = 0 ∧ (V 0 7).toInt ≤ (V14 0 7).toInt from by first | omega | ((try (have i_xlp4_1 := Imp.go xlp4_1 (by omega))); (try (have i_x3 := Imp.go x3 (by omega))); (try (have i_x3 := Imp.go x3 (by omega))); (try (have i_xlp4_1 := Imp.go xlp4_1 (by omega))); omega))))⟩, by rw [ht]; exact hP, va_K.moved hW.alike hK, hD⟩, hS.F ht⟩) hS.2.2 dX12_oneOf_31
      · skip
        have f18 : y2.toInt < p1.toInt := b_nle rfl rfl c6
        refine lv_aload_n hx hb dX12_oneOf_7 rfl (lv_at hl 1 rfl) ?_
        refine lv_iload_n hx hb dX12_oneOf_8 rfl (lv_at hl 2 rfl) ?_
        refine lv_iload_n hx hb dX12_oneOf_9 rfl (lv_at hl 0 rfl) ?_
        refine lv_iadd hx hb dX12_oneOf_10 ?_
        refine lv_topi (fun z19 ez19 => ?_)
        have hz19 : z19.toInt = p0.toInt + y2.toInt := i_add ez19 rfl rfl (by (first | exact om_54570dc3d521 rg_p0.1 rg_p0.2 rg_p1.2 klp4_0.1 f18 | omega))
        have pq20 : (V3 4 n).toInt = ((V 4 n)).toInt := congrArg Int32.toInt (ajV3 4 n rfl)
        refine gA_int (gA_runV (As := [.int z19]) (rest := []) (ci := 12) (q0 := 0) hx hb hml hown hg hP hD hK hS hA hnw hgk (s_hasWord l D ks H.size ad kk V3 L z19 (n) hMV3 (by first | exact om_b9dbba868e89 rg_p0.1 rg_p0.2 rg_p1.2 klp4_0.1 f18 hz19 | first | omega | ((try (have i_xlp4_1 := Imp.go xlp4_1 (by omega))); (try (have i_x3 := Imp.go x3 (by omega))); (try (have i_x3 := Imp.go x3 (by omega))); (try (have i_xlp4_1 := Imp.go xlp4_1 (by omega))); omega)) (show (V3 4 (n)).toInt = 0 from by first | exact om_36161e850215 x1 pq20 | first | omega | ((try (have i_xlp4_1 := Imp.go xlp4_1 (by omega))); (try (have i_x3 := Imp.go x3 (by omega))); (try (have i_x3 := Imp.go x3 (by omega))); (try (have i_xlp4_1 := Imp.go xlp4_1 (by omega))); omega)) (show (n) ≤ 4000 from by first | exact om_af64e361c991 x2 | first | omega | ((try (have i_xlp4_1 := Imp.go xlp4_1 (by omega))); (try (have i_x3 := Imp.go x3 (by omega))); (try (have i_x3 := Imp.go x3 (by omega))); (try (have i_xlp4_1 := Imp.go xlp4_1 (by omega))); omega)) (Imp.mk (fun hp => have hp : (V3 0 8).toInt = 0 := hp; (show 0 ≤ (V3 0 7).toInt ∧ (V3 0 7).toInt ≤ (n) from by first | exact om_408b46baf51e ((Imp.go xlp4_1 (hp)).1) ((Imp.go xlp4_1 (hp)).2.1) | first | omega | ((try (have i_xlp4_1 := Imp.go xlp4_1 (by omega))); (try (have i_x3 := Imp.go x3 (by omega))); (try (have i_x3 := Imp.go x3 (by omega))); (try (have i_xlp4_1 := Imp.go xlp4_1 (by omega))); omega))))) w2051 w2053 w90 w172 w2054 rfl rfl hdV_yX12_hasWord ⟨Nat.le_of_ble_eq_true rfl, Nat.le_of_ble_eq_true rfl⟩ rfl hl.1 rfl (Nat.le_of_ble_eq_true rfl) dX12_oneOf_11 ⟨Nat.le_of_ble_eq_true rfl, Nat.le_of_ble_eq_true rfl⟩) hP hD hK hS hA (fun z21 u22 H locs w23 hP hD hK hS => ?_)
        obtain ⟨V26, L27⟩ := u22
        obtain ⟨hMV26, ajV26, axL27, rgz21, t24, t25⟩ := w23
        have axL27 : L = L27 := Eq.symm axL27
        subst axL27
        replace hP : va_P D vwCl (mw ad kk ks.1 V26 L) H := hP
        replace hD : va_D A (mw ad kk ks.1 V26 L) := hD
        replace hMV26 : rgd bM V26 := hMV26
        replace ajV26 : agr [(0, 7)] [] V3 V26 := ajV26
        have agV26 : agr [(0, 7), (0, 8)] [] V V26 := agV3.tr ajV26 (by decide) (by decide)
        replace rgz21 : 0 ≤ z21.toInt ∧ z21.toInt ≤ 1 := rgz21
        replace t24 : Imp ((V26 0 8).toInt = 0) (0 ≤ (V26 0 7).toInt ∧ (V26 0 7).toInt ≤ (n) ∧ (V3 0 8).toInt = 0 ∧ (V3 0 7).toInt ≤ (V26 0 7).toInt) := t24
        replace t25 : Imp (z21.toInt = 1) ((V26 0 8).toInt = 0 ∧ (V3 0 7).toInt + 1 ≤ (V26 0 7).toInt) := t25
        have pq28 : (V26 0 8).toInt = ((V 0 8)).toInt := congrArg Int32.toInt ((ajV26 0 8 rfl).trans (ajV3 0 8 rfl))
        refine lv_if_eq (tgt := 19) hx hb dX12_oneOf_14 (by decide) (fun c29 => ?_) (fun c29 => ?_)
        · skip
          have f30 : z21.toInt = 0 := b_eq rfl (by decide) c29
          obtain ⟨z31, ez31⟩ : ∃ y : Int32, y = y2 + 1 := ⟨_, rfl⟩
          have hz31 : z31.toInt = y2.toInt + 1 := i_add ez31 rfl (by decide) (by (first | exact om_f9dc9c403a6b rg_p1.2 klp4_0.1 f18 | omega))
          refine lv_iinc (v := z31) (lv' := [(3, .int z31), (0, .ref (ad 0)), (1, .int p0), (2, .int p1)]) hx hb dX12_oneOf_19 hl (k := 0) rfl (by rw [ez31]; rfl) (by decide) rfl (fun ls hl => ?_)
          refine lv_goto (tgt := 2) hx hb dX12_oneOf_22 (by decide) ?_
          exact ihlp4 z31 V26 H locs ls (by first | exact om_35946ed5e904 rg_p1.2 klp4_0.1 f18 hz31 | first | omega | ((try (have i_t25 := Imp.go t25 (by omega))); (try (have i_t24 := Imp.go t24 (by omega))); (try (have i_xlp4_1 := Imp.go xlp4_1 (by omega))); (try (have i_x3 := Imp.go x3 (by omega))); first | omega | ((try (have i_x3 := Imp.go x3 (by omega))); (try (have i_xlp4_1 := Imp.go xlp4_1 (by omega))); (try (have i_t24 := Imp.go t24 (by omega))); (try (have i_t25 := Imp.go t25 (by omega))); omega))) (show z31.toInt ≤ p1.toInt from by first | exact om_7fe9249fc074 f18 hz31 | first | omega | ((try (have i_t25 := Imp.go t25 (by omega))); (try (have i_t24 := Imp.go t24 (by omega))); (try (have i_xlp4_1 := Imp.go xlp4_1 (by omega))); (try (have i_x3 := Imp.go x3 (by omega))); first | omega | ((try (have i_x3 := Imp.go x3 (by omega))); (try (have i_xlp4_1 := Imp.go xlp4_1 (by omega))); (try (have i_t24 := Imp.go t24 (by omega))); (try (have i_t25 := Imp.go t25 (by omega))); omega))) (Imp.mk (fun hp => have hp : (V26 0 8).toInt = 0 := hp; (show 0 ≤ (V26 0 7).toInt ∧ (V26 0 7).toInt ≤ n ∧ (V 0 8).toInt = 0 ∧ (V 0 7).toInt ≤ (V26 0 7).toInt from by first | exact om_0b4d32bfddb4 r1.1 ((Imp.go xlp4_1 (((pq5).trans (pq28.symm)).trans (hp))).2.2.1) ((Imp.go xlp4_1 (((pq5).trans (pq28.symm)).trans (hp))).2.2.2) ((Imp.go t24 (hp)).1) ((Imp.go t24 (hp)).2.1) ((Imp.go t24 (hp)).2.2.2) | first | omega | ((try (have i_t24 := Imp.go t24 (hp))); (try (have i_xlp4_1 := Imp.go xlp4_1 (i_t24.2.2.1))); (try (have i_x3 := Imp.go x3 (i_xlp4_1.2.2.1))); omega) | ((try (have i_t25 := Imp.go t25 (by omega))); (try (have i_t24 := Imp.go t24 (by omega))); (try (have i_xlp4_1 := Imp.go xlp4_1 (by omega))); (try (have i_x3 := Imp.go x3 (by omega))); first | omega | ((try (have i_x3 := Imp.go x3 (by omega))); (try (have i_xlp4_1 := Imp.go xlp4_1 (by omega))); (try (have i_t24 := Imp.go t24 (by omega))); (try (have i_t25 := Imp.go t25 (by omega))); omega))))) (by first | exact om_9e7d2b874257 hn hz31 | first | omega | ((try (have i_t25 := Imp.go t25 (by omega))); (try (have i_t24 := Imp.go t24 (by omega))); (try (have i_xlp4_1 := Imp.go xlp4_1 (by omega))); (try (have i_x3 := Imp.go x3 (by omega))); first | omega | ((try (have i_x3 := Imp.go x3 (by omega))); (try (have i_xlp4_1 := Imp.go xlp4_1 (by omega))); (try (have i_t24 := Imp.go t24 (by omega))); (try (have i_t25 := Imp.go t25 (by omega))); omega))) (agr.tr (agr.tr agr.rf ajV3 (by decide) (by decide)) ajV26 (by decide) (by decide)) hMV26 hP hD hS (lv_sub hl [0, 1, 2, 3] rfl)
        · skip
          have f32 : z21.toInt ≠ 0 := b_neq rfl (by decide) c29
          refine lv_iload_n hx hb dX12_oneOf_17 rfl (lv_at hl 0 rfl) ?_
          exact W.iret (v := y2) hx hb hr (fun t ht hW => ⟨⟨y2, (V26, L), rfl, ⟨hMV26, agV26, rfl, (show 0 ≤ y2.toInt ∧ y2.toInt ≤ 3 from by first | exact om_0be7ea43cf85 rg_p1.2 klp4_0.1 f18 | first | omega | ((try (have i_t25 := Imp.go t25 (imp_a (rgz21.1) (rgz21.2) (f32)))); (try (have i_t24 := Imp.go t24 (i_t25.1))); (try (have i_xlp4_1 := Imp.go xlp4_1 (i_t24.2.2.1))); (try (have i_x3 := Imp.go x3 (i_xlp4_1.2.2.1))); omega) | ((try (have i_t25 := Imp.go t25 (by omega))); (try (have i_t24 := Imp.go t24 (by omega))); (try (have i_xlp4_1 := Imp.go xlp4_1 (by omega))); (try (have i_x3 := Imp.go x3 (by omega))); first | omega | ((try (have i_x3 := Imp.go x3 (by omega))); (try (have i_xlp4_1 := Imp.go xlp4_1 (by omega))); (try (have i_t24 := Imp.go t24 (by omega))); (try (have i_t25 := Imp.go t25 (by omega))); omega))), (Imp.mk (fun hp => have hp : (V26 0 8).toInt = 0 := hp; (show 0 ≤ (V26 0 7).toInt ∧ (V26 0 7).toInt ≤ n ∧ (V 0 8).toInt = 0 ∧ (V 0 7).toInt ≤ (V26 0 7).toInt from by first | exact om_bfebd1f4d0c7 r1.1 ((Imp.go xlp4_1 (((pq5).trans (pq28.symm)).trans (hp))).1) ((Imp.go xlp4_1 (((pq5).trans (pq28.symm)).trans (hp))).2.2.1) ((Imp.go xlp4_1 (((pq5).trans (pq28.symm)).trans (hp))).2.2.2) ((Imp.go t24 (hp)).2.1) ((Imp.go t25 (imp_a (rgz21.1) (rgz21.2) (f32))).2) | first | omega | ((try (have i_t25 := Imp.go t25 (imp_a (rgz21.1) (rgz21.2) (f32)))); (try (have i_t24 := Imp.go t24 (i_t25.1))); (try (have i_xlp4_1 := Imp.go xlp4_1 (i_t24.2.2.1))); (try (have i_x3 := Imp.go x3 (i_xlp4_1.2.2.1))); omega) | ((try (have i_t25 := Imp.go t25 (by omega))); (try (have i_t24 := Imp.go t24 (by omega))); (try (have i_xlp4_1 := Imp.go xlp4_1 (by omega))); (try (have i_x3 := Imp.go x3 (by omega))); first | omega | ((try (have i_x3 := Imp.go x3 (by omega))); (try (have i_xlp4_1 := Imp.go xlp4_1 (by omega))); (try (have i_t24 := Imp.go t24 (by omega))); (try (have i_t25 := Imp.go t25 (by omega))); omega)))))⟩, by rw [ht]; exact hP, va_K.moved hW.alike hK, hD⟩, hS.F ht⟩) hS.2.2 dX12_oneOf_18
  have r33 : Int32.toInt 0 = 0 := by decide
  exact lp4 ((p1.toInt - (Int32.toInt 0) + 1 : Int).toNat) 0 V H locs ls (by decide) (show (Int32.toInt 0) ≤ p1.toInt from by first | exact om_6f9bb8cf3bec rg_p1.1 r33 | first | omega | ((try (have i_x3 := Imp.go x3 (by omega))); omega)) (Imp.mk (fun hp => have hp : (V 0 8).toInt = 0 := hp; (show 0 ≤ (V 0 7).toInt ∧ (V 0 7).toInt ≤ n ∧ (V 0 8).toInt = 0 ∧ (V 0 7).toInt ≤ (V 0 7).toInt from by first | exact om_ac9b04ec6f0a r1.1 hp ((Imp.go x3 (hp)).1) ((Imp.go x3 (hp)).2) | first | omega | ((try (have i_x3 := Imp.go x3 (by omega))); omega)))) (by first | exact om_7441a7786481 | first | omega | ((try (have i_x3 := Imp.go x3 (by omega))); omega)) agr.rf hMV hP hD hS (lv_sub hl [0, 1, 2, 3] rfl)
abbrev r_s_find_typeName : Room := { frames := 0, cells := 0, slots := 0, locals := 0 }
abbrev q_s_find_typeName (D : va_G) (ks : KS) (ad : Nat → Nat) (kk : Nat → ClassId) (V : Vf) (L : Lf) (p1 : Int32) (p2 : Int32) (p3 : Int64) (A : Nat → Prop) : Array Value → State → Outcome → State → Prop := va_Qi (fun (r : Int32) (_ : Unit) => ((-1) ≤ r.toInt ∧ r.toInt ≤ 47) ∧ (r.toInt < p2.toInt)) (fun _ t => gq D A (mw ad kk ks.1 V L) (mty kk) t) A
set_option maxHeartbeats 4000000 in
set_option maxRecDepth 100000 in
theorem s_find_typeName (l : Launch) (D : va_G) (ks : KS) (sz : Nat) (ad : Nat → Nat) (kk : Nat → ClassId) (V : Vf) (L : Lf) (p1 : Int32) (p2 : Int32) (p3 : Int64) (hMV : rgd bM V) (rg_p1 : 0 ≤ p1.toInt ∧ p1.toInt ≤ 24) (rg_p2 : 0 ≤ p2.toInt ∧ p2.toInt ≤ 24) (y1 : p1.toInt + p2.toInt ≤ 48)  : Met l yX12_find (Cond.code yX12_find cX12_find 8 (some .int) :: GW) r_s_find_typeName (va_Pc [.ref (ad 0), .ref (ad 14), .int p1, .int p2, .long p3] (gp D ks (mw ad kk ks.1 V L) (mty kk) sz)) (q_s_find_typeName D ks ad kk V L p1 p2 p3 (va_A (mw ad kk ks.1 V L) sz)) 0 0 (va_A (mw ad kk ks.1 V L) sz) := by
  refine g_met (q_s_find_typeName D ks ad kk V L p1 p2 p3) (by decide) (Nat.le_of_ble_eq_true rfl) ?_
  intro p e s m below meth c A ls H locs hx hb hr hml hown hg hlocks hin hnw hgk hP hK hD hS hA hl
  replace hown : s.vm.findClass RX12 = some m.cls := hown
  replace hl : lv_has ls 8 [(0, .ref (ad 0)), (1, .ref (ad 14)), (2, .int p1), (3, .int p2), (4, .long p3)] := hl
  replace hP : va_P D vwCl (mw ad kk ks.1 V L) H := hP
  replace hD : va_D A (mw ad kk ks.1 V L) := hD
  replace hK : va_K D vwCl (mty kk) s := hK
  refine lv_iconst (v := (-1)) hx hb dX12_find_0 (by decide) ?_
  refine lv_istore (lv' := [(6, .int (-1)), (0, .ref (ad 0)), (1, .ref (ad 14)), (2, .int p1), (3, .int p2), (4, .long p3)]) hx hb dX12_find_1 hl (by decide) rfl (fun ls hl => ?_)
  refine lv_iconst (v := 0) hx hb dX12_find_3 (by decide) ?_
  refine lv_istore (lv' := [(7, .int 0), (6, .int (-1)), (0, .ref (ad 0)), (1, .ref (ad 14)), (2, .int p1), (3, .int p2), (4, .long p3)]) hx hb dX12_find_4 hl (by decide) rfl (fun ls hl => ?_)
  have lp3 : ∀ (fulp3 : Nat) (y1 : Int32) (y2 : Int32) (H : Heap) (locs : List Loc) (ls : Array Slot), 0 ≤ y1.toInt ∧ y1.toInt ≤ 48 → (-1) ≤ y2.toInt ∧ y2.toInt ≤ 47 → y1.toInt ≤ p2.toInt → y2.toInt < p2.toInt → p2.toInt - y1.toInt < (fulp3 : Int) → va_P D vwCl (mw ad kk ks.1 V L) H → va_D A (mw ad kk ks.1 V L) → va_S A s.heap H locs → lv_has ls 8 [(7, .int y1), (6, .int y2), (0, .ref (ad 0)), (1, .ref (ad 14)), (2, .int p1), (3, .int p2), (4, .long p3)] → W p l e r_s_find_typeName s m ([.ref (ad 0), .ref (ad 14), .int p1, .int p2, .long p3] : List Value).toArray below meth c H locs 0 0 (MQ below (q_s_find_typeName D ks ad kk V L p1 p2 p3 A) ([.ref (ad 0), .ref (ad 14), .int p1, .int p2, .long p3] : List Value).toArray s 0 0 A) (F0 m 6 ls []) := by
    intro fulp3
    induction fulp3 with
    | zero =>
      intro y1 y2 H locs ls klp3_0 klp3_1 xlp3_0 xlp3_1 hn  hP hD hS hl
      exfalso; (first | exact om_4634b1278845 xlp3_0 hn | omega)
    | succ fulp3 ihlp3 =>
      intro y1 y2 H locs ls klp3_0 klp3_1 xlp3_0 xlp3_1 hn  hP hD hS hl
      refine lv_iload hx hb dX12_find_6 (lv_at hl 0 rfl) ?_
      refine lv_iload_n hx hb dX12_find_8 rfl (lv_at hl 5 rfl) ?_
      refine lv_icmp_ge (tgt := 39) hx hb dX12_find_9 (by decide) (fun c4 => ?_) (fun c4 => ?_)
      · skip
        have f5 : p2.toInt ≤ y1.toInt := b_le rfl rfl c4
        refine lv_iload hx hb dX12_find_39 (lv_at hl 1 rfl) ?_
        exact W.iret (v := y2) hx hb hr (fun t ht hW => ⟨⟨y2, (), rfl, ⟨(show (-1) ≤ y2.toInt ∧ y2.toInt ≤ 47 from by (first | exact om_ada4133e811d rg_p2.2 klp3_1.1 xlp3_1 | omega)), (show y2.toInt < p2.toInt from by (first | exact om_0e9116797efb xlp3_1 | omega))⟩, by rw [ht]; exact hP, va_K.moved hW.alike hK, hD⟩, hS.F ht⟩) hS.2.2 dX12_find_41
      · skip
        have f6 : y1.toInt < p2.toInt := b_nle rfl rfl c4
        refine lv_aload_n hx hb dX12_find_12 rfl (lv_at hl 3 rfl) ?_
        refine lv_iload_n hx hb dX12_find_13 rfl (lv_at hl 4 rfl) ?_
        refine lv_iload hx hb dX12_find_14 (lv_at hl 0 rfl) ?_
        refine lv_iadd hx hb dX12_find_16 ?_
        refine lv_topi (fun z7 ez7 => ?_)
        have hz7 : z7.toInt = p1.toInt + y1.toInt := i_add ez7 rfl rfl (by (first | exact om_5d4bd373b16a rg_p1.1 rg_p1.2 rg_p2.2 klp3_0.1 f6 | omega))
        refine va_lald (D := D) (i := z7) hx hb hK hP 7 6 rfl rfl (i_in (a := z7.toInt) rfl (by (first | exact om_8185df881766 rg_p1.1 rg_p1.2 rg_p2.2 klp3_0.1 f6 hz7 | omega))) dX12_find_17 ?_
        refine lv_topl (fun w8 ew8 => ?_)
        refine lv_lload hx hb dX12_find_18 (lv_at hl 6 rfl) ?_
        refine W.lcmp hx hb dX12_find_20 ?_
        refine lv_topi (fun z9 ez9 => ?_)
        have hz9 : -1 ≤ z9.toInt ∧ z9.toInt ≤ 1 := lcmp_r ez9
        refine lv_if_ne (tgt := 29) hx hb dX12_find_21 (by decide) (fun c10 => ?_) (fun c10 => ?_)
        · skip
          have f11 : z9.toInt ≠ 0 := b_neq rfl (by decide) c10
          refine lv_iload hx hb dX12_find_29 (lv_at hl 1 rfl) ?_
          refine lv_istore (lv' := [(6, .int y2), (7, .int y1), (0, .ref (ad 0)), (1, .ref (ad 14)), (2, .int p1), (3, .int p2), (4, .long p3)]) hx hb dX12_find_31 hl (by decide) rfl (fun ls hl => ?_)
          obtain ⟨z12, ez12⟩ : ∃ y : Int32, y = y1 + 1 := ⟨_, rfl⟩
          have hz12 : z12.toInt = y1.toInt + 1 := i_add ez12 rfl (by decide) (by (first | exact om_ef5c713ba60b rg_p2.2 klp3_0.1 f6 | omega))
          refine lv_iinc (v := z12) (lv' := [(7, .int z12), (6, .int y2), (0, .ref (ad 0)), (1, .ref (ad 14)), (2, .int p1), (3, .int p2), (4, .long p3)]) hx hb dX12_find_33 hl (k := 1) rfl (by rw [ez12]; rfl) (by decide) rfl (fun ls hl => ?_)
          refine lv_goto (tgt := 6) hx hb dX12_find_36 (by decide) ?_
          exact ihlp3 z12 y2 H locs ls (by (first | exact om_fd99fc2c0081 rg_p2.2 klp3_0.1 f6 hz12 | omega)) (by (first | exact om_ada4133e811d rg_p2.2 klp3_1.1 xlp3_1 | omega)) (show z12.toInt ≤ p2.toInt from by (first | exact om_7fe9249fc074 f6 hz12 | omega)) (show y2.toInt < p2.toInt from by (first | exact om_0e9116797efb xlp3_1 | omega)) (by (first | exact om_9e7d2b874257 hn hz12 | omega)) hP hD hS (lv_sub hl [0, 1, 2, 3, 4, 5, 6] rfl)
        · skip
          have f13 : z9.toInt = 0 := b_eq rfl (by decide) c10
          refine lv_iload hx hb dX12_find_24 (lv_at hl 0 rfl) ?_
          refine lv_goto (tgt := 31) hx hb dX12_find_26 (by decide) ?_
          refine lv_istore (lv' := [(6, .int y1), (7, .int y1), (0, .ref (ad 0)), (1, .ref (ad 14)), (2, .int p1), (3, .int p2), (4, .long p3)]) hx hb dX12_find_31 hl (by decide) rfl (fun ls hl => ?_)
          obtain ⟨z14, ez14⟩ : ∃ y : Int32, y = y1 + 1 := ⟨_, rfl⟩
          have hz14 : z14.toInt = y1.toInt + 1 := i_add ez14 rfl (by decide) (by (first | exact om_ef5c713ba60b rg_p2.2 klp3_0.1 f6 | omega))
          refine lv_iinc (v := z14) (lv' := [(7, .int z14), (6, .int y1), (0, .ref (ad 0)), (1, .ref (ad 14)), (2, .int p1), (3, .int p2), (4, .long p3)]) hx hb dX12_find_33 hl (k := 1) rfl (by rw [ez14]; rfl) (by decide) rfl (fun ls hl => ?_)
          refine lv_goto (tgt := 6) hx hb dX12_find_36 (by decide) ?_
          exact ihlp3 z14 y1 H locs ls (by (first | exact om_fd99fc2c0081 rg_p2.2 klp3_0.1 f6 hz14 | omega)) (by (first | exact om_80d701c7d15f rg_p2.2 klp3_0.1 f6 | omega)) (show z14.toInt ≤ p2.toInt from by (first | exact om_7fe9249fc074 f6 hz14 | omega)) (show y1.toInt < p2.toInt from by (first | exact om_0e9116797efb f6 | omega)) (by (first | exact om_9e7d2b874257 hn hz14 | omega)) hP hD hS (lv_sub hl [0, 1, 2, 3, 4, 5, 6] rfl)
  have r15 : Int32.toInt 0 = 0 := by decide
  have r16 : Int32.toInt (-1) = (-1) := by decide
  exact lp3 ((p2.toInt - (Int32.toInt 0) + 1 : Int).toNat) 0 (-1) H locs ls (by decide) (by decide) (show (Int32.toInt 0) ≤ p2.toInt from by (first | exact om_6f9bb8cf3bec rg_p2.1 r15 | omega)) (show (Int32.toInt (-1)) < p2.toInt from by (first | exact om_0520d8737a12 rg_p2.1 r16 | omega)) (by (first | exact om_7441a7786481 | omega)) hP hD hS (lv_sub hl [0, 1, 2, 3, 4, 5, 6] rfl)
abbrev r_s_find_settingName : Room := { frames := 0, cells := 0, slots := 0, locals := 0 }
abbrev q_s_find_settingName (D : va_G) (ks : KS) (ad : Nat → Nat) (kk : Nat → ClassId) (V : Vf) (L : Lf) (p1 : Int32) (p2 : Int32) (p3 : Int64) (A : Nat → Prop) : Array Value → State → Outcome → State → Prop := va_Qi (fun (r : Int32) (_ : Unit) => ((-1) ≤ r.toInt ∧ r.toInt ≤ 47) ∧ (r.toInt < p2.toInt)) (fun _ t => gq D A (mw ad kk ks.1 V L) (mty kk) t) A
set_option maxHeartbeats 4000000 in
set_option maxRecDepth 100000 in
theorem s_find_settingName (l : Launch) (D : va_G) (ks : KS) (sz : Nat) (ad : Nat → Nat) (kk : Nat → ClassId) (V : Vf) (L : Lf) (p1 : Int32) (p2 : Int32) (p3 : Int64) (hMV : rgd bM V) (rg_p1 : 0 ≤ p1.toInt ∧ p1.toInt ≤ 24) (rg_p2 : 0 ≤ p2.toInt ∧ p2.toInt ≤ 24) (y1 : p1.toInt + p2.toInt ≤ 24)  : Met l yX12_find (Cond.code yX12_find cX12_find 8 (some .int) :: GW) r_s_find_settingName (va_Pc [.ref (ad 0), .ref (ad 17), .int p1, .int p2, .long p3] (gp D ks (mw ad kk ks.1 V L) (mty kk) sz)) (q_s_find_settingName D ks ad kk V L p1 p2 p3 (va_A (mw ad kk ks.1 V L) sz)) 0 0 (va_A (mw ad kk ks.1 V L) sz) := by
  refine g_met (q_s_find_settingName D ks ad kk V L p1 p2 p3) (by decide) (Nat.le_of_ble_eq_true rfl) ?_
  intro p e s m below meth c A ls H locs hx hb hr hml hown hg hlocks hin hnw hgk hP hK hD hS hA hl
  replace hown : s.vm.findClass RX12 = some m.cls := hown
  replace hl : lv_has ls 8 [(0, .ref (ad 0)), (1, .ref (ad 17)), (2, .int p1), (3, .int p2), (4, .long p3)] := hl
  replace hP : va_P D vwCl (mw ad kk ks.1 V L) H := hP
  replace hD : va_D A (mw ad kk ks.1 V L) := hD
  replace hK : va_K D vwCl (mty kk) s := hK
  refine lv_iconst (v := (-1)) hx hb dX12_find_0 (by decide) ?_
  refine lv_istore (lv' := [(6, .int (-1)), (0, .ref (ad 0)), (1, .ref (ad 17)), (2, .int p1), (3, .int p2), (4, .long p3)]) hx hb dX12_find_1 hl (by decide) rfl (fun ls hl => ?_)
  refine lv_iconst (v := 0) hx hb dX12_find_3 (by decide) ?_
  refine lv_istore (lv' := [(7, .int 0), (6, .int (-1)), (0, .ref (ad 0)), (1, .ref (ad 17)), (2, .int p1), (3, .int p2), (4, .long p3)]) hx hb dX12_find_4 hl (by decide) rfl (fun ls hl => ?_)
  have lp3 : ∀ (fulp3 : Nat) (y1 : Int32) (y2 : Int32) (H : Heap) (locs : List Loc) (ls : Array Slot), 0 ≤ y1.toInt ∧ y1.toInt ≤ 48 → (-1) ≤ y2.toInt ∧ y2.toInt ≤ 47 → y1.toInt ≤ p2.toInt → y2.toInt < p2.toInt → p2.toInt - y1.toInt < (fulp3 : Int) → va_P D vwCl (mw ad kk ks.1 V L) H → va_D A (mw ad kk ks.1 V L) → va_S A s.heap H locs → lv_has ls 8 [(7, .int y1), (6, .int y2), (0, .ref (ad 0)), (1, .ref (ad 17)), (2, .int p1), (3, .int p2), (4, .long p3)] → W p l e r_s_find_settingName s m ([.ref (ad 0), .ref (ad 17), .int p1, .int p2, .long p3] : List Value).toArray below meth c H locs 0 0 (MQ below (q_s_find_settingName D ks ad kk V L p1 p2 p3 A) ([.ref (ad 0), .ref (ad 17), .int p1, .int p2, .long p3] : List Value).toArray s 0 0 A) (F0 m 6 ls []) := by
    intro fulp3
    induction fulp3 with
    | zero =>
      intro y1 y2 H locs ls klp3_0 klp3_1 xlp3_0 xlp3_1 hn  hP hD hS hl
      exfalso; (first | exact om_4634b1278845 xlp3_0 hn | omega)
    | succ fulp3 ihlp3 =>
      intro y1 y2 H locs ls klp3_0 klp3_1 xlp3_0 xlp3_1 hn  hP hD hS hl
      refine lv_iload hx hb dX12_find_6 (lv_at hl 0 rfl) ?_
      refine lv_iload_n hx hb dX12_find_8 rfl (lv_at hl 5 rfl) ?_
      refine lv_icmp_ge (tgt := 39) hx hb dX12_find_9 (by decide) (fun c4 => ?_) (fun c4 => ?_)
      · skip
        have f5 : p2.toInt ≤ y1.toInt := b_le rfl rfl c4
        refine lv_iload hx hb dX12_find_39 (lv_at hl 1 rfl) ?_
        exact W.iret (v := y2) hx hb hr (fun t ht hW => ⟨⟨y2, (), rfl, ⟨(show (-1) ≤ y2.toInt ∧ y2.toInt ≤ 47 from by (first | exact om_ada4133e811d rg_p2.2 klp3_1.1 xlp3_1 | omega)), (show y2.toInt < p2.toInt from by (first | exact om_0e9116797efb xlp3_1 | omega))⟩, by rw [ht]; exact hP, va_K.moved hW.alike hK, hD⟩, hS.F ht⟩) hS.2.2 dX12_find_41
      · skip
        have f6 : y1.toInt < p2.toInt := b_nle rfl rfl c4
        refine lv_aload_n hx hb dX12_find_12 rfl (lv_at hl 3 rfl) ?_
        refine lv_iload_n hx hb dX12_find_13 rfl (lv_at hl 4 rfl) ?_
        refine lv_iload hx hb dX12_find_14 (lv_at hl 0 rfl) ?_
        refine lv_iadd hx hb dX12_find_16 ?_
        refine lv_topi (fun z7 ez7 => ?_)
        have hz7 : z7.toInt = p1.toInt + y1.toInt := i_add ez7 rfl rfl (by (first | exact om_348456f2348a rg_p1.1 y1 klp3_0.1 f6 | omega))
        refine va_lald (D := D) (i := z7) hx hb hK hP 10 9 rfl rfl (i_in (a := z7.toInt) rfl (by (first | exact om_46c5c27a88fc rg_p1.1 y1 klp3_0.1 f6 hz7 | omega))) dX12_find_17 ?_
        refine lv_topl (fun w8 ew8 => ?_)
        refine lv_lload hx hb dX12_find_18 (lv_at hl 6 rfl) ?_
        refine W.lcmp hx hb dX12_find_20 ?_
        refine lv_topi (fun z9 ez9 => ?_)
        have hz9 : -1 ≤ z9.toInt ∧ z9.toInt ≤ 1 := lcmp_r ez9
        refine lv_if_ne (tgt := 29) hx hb dX12_find_21 (by decide) (fun c10 => ?_) (fun c10 => ?_)
        · skip
          have f11 : z9.toInt ≠ 0 := b_neq rfl (by decide) c10
          refine lv_iload hx hb dX12_find_29 (lv_at hl 1 rfl) ?_
          refine lv_istore (lv' := [(6, .int y2), (7, .int y1), (0, .ref (ad 0)), (1, .ref (ad 17)), (2, .int p1), (3, .int p2), (4, .long p3)]) hx hb dX12_find_31 hl (by decide) rfl (fun ls hl => ?_)
          obtain ⟨z12, ez12⟩ : ∃ y : Int32, y = y1 + 1 := ⟨_, rfl⟩
          have hz12 : z12.toInt = y1.toInt + 1 := i_add ez12 rfl (by decide) (by (first | exact om_ef5c713ba60b rg_p2.2 klp3_0.1 f6 | omega))
          refine lv_iinc (v := z12) (lv' := [(7, .int z12), (6, .int y2), (0, .ref (ad 0)), (1, .ref (ad 17)), (2, .int p1), (3, .int p2), (4, .long p3)]) hx hb dX12_find_33 hl (k := 1) rfl (by rw [ez12]; rfl) (by decide) rfl (fun ls hl => ?_)
          refine lv_goto (tgt := 6) hx hb dX12_find_36 (by decide) ?_
          exact ihlp3 z12 y2 H locs ls (by (first | exact om_fd99fc2c0081 rg_p2.2 klp3_0.1 f6 hz12 | omega)) (by (first | exact om_ada4133e811d rg_p2.2 klp3_1.1 xlp3_1 | omega)) (show z12.toInt ≤ p2.toInt from by (first | exact om_7fe9249fc074 f6 hz12 | omega)) (show y2.toInt < p2.toInt from by (first | exact om_0e9116797efb xlp3_1 | omega)) (by (first | exact om_9e7d2b874257 hn hz12 | omega)) hP hD hS (lv_sub hl [0, 1, 2, 3, 4, 5, 6] rfl)
        · skip
          have f13 : z9.toInt = 0 := b_eq rfl (by decide) c10
          refine lv_iload hx hb dX12_find_24 (lv_at hl 0 rfl) ?_
          refine lv_goto (tgt := 31) hx hb dX12_find_26 (by decide) ?_
          refine lv_istore (lv' := [(6, .int y1), (7, .int y1), (0, .ref (ad 0)), (1, .ref (ad 17)), (2, .int p1), (3, .int p2), (4, .long p3)]) hx hb dX12_find_31 hl (by decide) rfl (fun ls hl => ?_)
          obtain ⟨z14, ez14⟩ : ∃ y : Int32, y = y1 + 1 := ⟨_, rfl⟩
          have hz14 : z14.toInt = y1.toInt + 1 := i_add ez14 rfl (by decide) (by (first | exact om_ef5c713ba60b rg_p2.2 klp3_0.1 f6 | omega))
          refine lv_iinc (v := z14) (lv' := [(7, .int z14), (6, .int y1), (0, .ref (ad 0)), (1, .ref (ad 17)), (2, .int p1), (3, .int p2), (4, .long p3)]) hx hb dX12_find_33 hl (k := 1) rfl (by rw [ez14]; rfl) (by decide) rfl (fun ls hl => ?_)
          refine lv_goto (tgt := 6) hx hb dX12_find_36 (by decide) ?_
          exact ihlp3 z14 y1 H locs ls (by (first | exact om_fd99fc2c0081 rg_p2.2 klp3_0.1 f6 hz14 | omega)) (by (first | exact om_80d701c7d15f rg_p2.2 klp3_0.1 f6 | omega)) (show z14.toInt ≤ p2.toInt from by (first | exact om_7fe9249fc074 f6 hz14 | omega)) (show y1.toInt < p2.toInt from by (first | exact om_0e9116797efb f6 | omega)) (by (first | exact om_9e7d2b874257 hn hz14 | omega)) hP hD hS (lv_sub hl [0, 1, 2, 3, 4, 5, 6] rfl)
  have r15 : Int32.toInt 0 = 0 := by decide
  have r16 : Int32.toInt (-1) = (-1) := by decide
  exact lp3 ((p2.toInt - (Int32.toInt 0) + 1 : Int).toNat) 0 (-1) H locs ls (by decide) (by decide) (show (Int32.toInt 0) ≤ p2.toInt from by (first | exact om_6f9bb8cf3bec rg_p2.1 r15 | omega)) (show (Int32.toInt (-1)) < p2.toInt from by (first | exact om_0520d8737a12 rg_p2.1 r16 | omega)) (by (first | exact om_7441a7786481 | omega)) hP hD hS (lv_sub hl [0, 1, 2, 3, 4, 5, 6] rfl)
abbrev r_s_find_componentName : Room := { frames := 0, cells := 0, slots := 0, locals := 0 }
abbrev q_s_find_componentName (D : va_G) (ks : KS) (ad : Nat → Nat) (kk : Nat → ClassId) (V : Vf) (L : Lf) (p1 : Int32) (p2 : Int32) (p3 : Int64) (A : Nat → Prop) : Array Value → State → Outcome → State → Prop := va_Qi (fun (r : Int32) (_ : Unit) => ((-1) ≤ r.toInt ∧ r.toInt ≤ 47) ∧ (r.toInt < p2.toInt)) (fun _ t => gq D A (mw ad kk ks.1 V L) (mty kk) t) A
set_option maxHeartbeats 4000000 in
set_option maxRecDepth 100000 in
theorem s_find_componentName (l : Launch) (D : va_G) (ks : KS) (sz : Nat) (ad : Nat → Nat) (kk : Nat → ClassId) (V : Vf) (L : Lf) (p1 : Int32) (p2 : Int32) (p3 : Int64) (hMV : rgd bM V) (rg_p1 : 0 ≤ p1.toInt ∧ p1.toInt ≤ 24) (rg_p2 : 0 ≤ p2.toInt ∧ p2.toInt ≤ 24) (y1 : p1.toInt + p2.toInt ≤ 48)  : Met l yX12_find (Cond.code yX12_find cX12_find 8 (some .int) :: GW) r_s_find_componentName (va_Pc [.ref (ad 0), .ref (ad 20), .int p1, .int p2, .long p3] (gp D ks (mw ad kk ks.1 V L) (mty kk) sz)) (q_s_find_componentName D ks ad kk V L p1 p2 p3 (va_A (mw ad kk ks.1 V L) sz)) 0 0 (va_A (mw ad kk ks.1 V L) sz) := by
  refine g_met (q_s_find_componentName D ks ad kk V L p1 p2 p3) (by decide) (Nat.le_of_ble_eq_true rfl) ?_
  intro p e s m below meth c A ls H locs hx hb hr hml hown hg hlocks hin hnw hgk hP hK hD hS hA hl
  replace hown : s.vm.findClass RX12 = some m.cls := hown
  replace hl : lv_has ls 8 [(0, .ref (ad 0)), (1, .ref (ad 20)), (2, .int p1), (3, .int p2), (4, .long p3)] := hl
  replace hP : va_P D vwCl (mw ad kk ks.1 V L) H := hP
  replace hD : va_D A (mw ad kk ks.1 V L) := hD
  replace hK : va_K D vwCl (mty kk) s := hK
  refine lv_iconst (v := (-1)) hx hb dX12_find_0 (by decide) ?_
  refine lv_istore (lv' := [(6, .int (-1)), (0, .ref (ad 0)), (1, .ref (ad 20)), (2, .int p1), (3, .int p2), (4, .long p3)]) hx hb dX12_find_1 hl (by decide) rfl (fun ls hl => ?_)
  refine lv_iconst (v := 0) hx hb dX12_find_3 (by decide) ?_
  refine lv_istore (lv' := [(7, .int 0), (6, .int (-1)), (0, .ref (ad 0)), (1, .ref (ad 20)), (2, .int p1), (3, .int p2), (4, .long p3)]) hx hb dX12_find_4 hl (by decide) rfl (fun ls hl => ?_)
  have lp3 : ∀ (fulp3 : Nat) (y1 : Int32) (y2 : Int32) (H : Heap) (locs : List Loc) (ls : Array Slot), 0 ≤ y1.toInt ∧ y1.toInt ≤ 48 → (-1) ≤ y2.toInt ∧ y2.toInt ≤ 47 → y1.toInt ≤ p2.toInt → y2.toInt < p2.toInt → p2.toInt - y1.toInt < (fulp3 : Int) → va_P D vwCl (mw ad kk ks.1 V L) H → va_D A (mw ad kk ks.1 V L) → va_S A s.heap H locs → lv_has ls 8 [(7, .int y1), (6, .int y2), (0, .ref (ad 0)), (1, .ref (ad 20)), (2, .int p1), (3, .int p2), (4, .long p3)] → W p l e r_s_find_componentName s m ([.ref (ad 0), .ref (ad 20), .int p1, .int p2, .long p3] : List Value).toArray below meth c H locs 0 0 (MQ below (q_s_find_componentName D ks ad kk V L p1 p2 p3 A) ([.ref (ad 0), .ref (ad 20), .int p1, .int p2, .long p3] : List Value).toArray s 0 0 A) (F0 m 6 ls []) := by
    intro fulp3
    induction fulp3 with
    | zero =>
      intro y1 y2 H locs ls klp3_0 klp3_1 xlp3_0 xlp3_1 hn  hP hD hS hl
      exfalso; (first | exact om_4634b1278845 xlp3_0 hn | omega)
    | succ fulp3 ihlp3 =>
      intro y1 y2 H locs ls klp3_0 klp3_1 xlp3_0 xlp3_1 hn  hP hD hS hl
      refine lv_iload hx hb dX12_find_6 (lv_at hl 0 rfl) ?_
      refine lv_iload_n hx hb dX12_find_8 rfl (lv_at hl 5 rfl) ?_
      refine lv_icmp_ge (tgt := 39) hx hb dX12_find_9 (by decide) (fun c4 => ?_) (fun c4 => ?_)
      · skip
        have f5 : p2.toInt ≤ y1.toInt := b_le rfl rfl c4
        refine lv_iload hx hb dX12_find_39 (lv_at hl 1 rfl) ?_
        exact W.iret (v := y2) hx hb hr (fun t ht hW => ⟨⟨y2, (), rfl, ⟨(show (-1) ≤ y2.toInt ∧ y2.toInt ≤ 47 from by (first | exact om_ada4133e811d rg_p2.2 klp3_1.1 xlp3_1 | omega)), (show y2.toInt < p2.toInt from by (first | exact om_0e9116797efb xlp3_1 | omega))⟩, by rw [ht]; exact hP, va_K.moved hW.alike hK, hD⟩, hS.F ht⟩) hS.2.2 dX12_find_41
      · skip
        have f6 : y1.toInt < p2.toInt := b_nle rfl rfl c4
        refine lv_aload_n hx hb dX12_find_12 rfl (lv_at hl 3 rfl) ?_
        refine lv_iload_n hx hb dX12_find_13 rfl (lv_at hl 4 rfl) ?_
        refine lv_iload hx hb dX12_find_14 (lv_at hl 0 rfl) ?_
        refine lv_iadd hx hb dX12_find_16 ?_
        refine lv_topi (fun z7 ez7 => ?_)
        have hz7 : z7.toInt = p1.toInt + y1.toInt := i_add ez7 rfl rfl (by (first | exact om_5d4bd373b16a rg_p1.1 rg_p1.2 rg_p2.2 klp3_0.1 f6 | omega))
        refine va_lald (D := D) (i := z7) hx hb hK hP 13 12 rfl rfl (i_in (a := z7.toInt) rfl (by (first | exact om_8185df881766 rg_p1.1 rg_p1.2 rg_p2.2 klp3_0.1 f6 hz7 | omega))) dX12_find_17 ?_
        refine lv_topl (fun w8 ew8 => ?_)
        refine lv_lload hx hb dX12_find_18 (lv_at hl 6 rfl) ?_
        refine W.lcmp hx hb dX12_find_20 ?_
        refine lv_topi (fun z9 ez9 => ?_)
        have hz9 : -1 ≤ z9.toInt ∧ z9.toInt ≤ 1 := lcmp_r ez9
        refine lv_if_ne (tgt := 29) hx hb dX12_find_21 (by decide) (fun c10 => ?_) (fun c10 => ?_)
        · skip
          have f11 : z9.toInt ≠ 0 := b_neq rfl (by decide) c10
          refine lv_iload hx hb dX12_find_29 (lv_at hl 1 rfl) ?_
          refine lv_istore (lv' := [(6, .int y2), (7, .int y1), (0, .ref (ad 0)), (1, .ref (ad 20)), (2, .int p1), (3, .int p2), (4, .long p3)]) hx hb dX12_find_31 hl (by decide) rfl (fun ls hl => ?_)
          obtain ⟨z12, ez12⟩ : ∃ y : Int32, y = y1 + 1 := ⟨_, rfl⟩
          have hz12 : z12.toInt = y1.toInt + 1 := i_add ez12 rfl (by decide) (by (first | exact om_ef5c713ba60b rg_p2.2 klp3_0.1 f6 | omega))
          refine lv_iinc (v := z12) (lv' := [(7, .int z12), (6, .int y2), (0, .ref (ad 0)), (1, .ref (ad 20)), (2, .int p1), (3, .int p2), (4, .long p3)]) hx hb dX12_find_33 hl (k := 1) rfl (by rw [ez12]; rfl) (by decide) rfl (fun ls hl => ?_)
          refine lv_goto (tgt := 6) hx hb dX12_find_36 (by decide) ?_
          exact ihlp3 z12 y2 H locs ls (by (first | exact om_fd99fc2c0081 rg_p2.2 klp3_0.1 f6 hz12 | omega)) (by (first | exact om_ada4133e811d rg_p2.2 klp3_1.1 xlp3_1 | omega)) (show z12.toInt ≤ p2.toInt from by (first | exact om_7fe9249fc074 f6 hz12 | omega)) (show y2.toInt < p2.toInt from by (first | exact om_0e9116797efb xlp3_1 | omega)) (by (first | exact om_9e7d2b874257 hn hz12 | omega)) hP hD hS (lv_sub hl [0, 1, 2, 3, 4, 5, 6] rfl)
        · skip
          have f13 : z9.toInt = 0 := b_eq rfl (by decide) c10
          refine lv_iload hx hb dX12_find_24 (lv_at hl 0 rfl) ?_
          refine lv_goto (tgt := 31) hx hb dX12_find_26 (by decide) ?_
          refine lv_istore (lv' := [(6, .int y1), (7, .int y1), (0, .ref (ad 0)), (1, .ref (ad 20)), (2, .int p1), (3, .int p2), (4, .long p3)]) hx hb dX12_find_31 hl (by decide) rfl (fun ls hl => ?_)
          obtain ⟨z14, ez14⟩ : ∃ y : Int32, y = y1 + 1 := ⟨_, rfl⟩
          have hz14 : z14.toInt = y1.toInt + 1 := i_add ez14 rfl (by decide) (by (first | exact om_ef5c713ba60b rg_p2.2 klp3_0.1 f6 | omega))
          refine lv_iinc (v := z14) (lv' := [(7, .int z14), (6, .int y1), (0, .ref (ad 0)), (1, .ref (ad 20)), (2, .int p1), (3, .int p2), (4, .long p3)]) hx hb dX12_find_33 hl (k := 1) rfl (by rw [ez14]; rfl) (by decide) rfl (fun ls hl => ?_)
          refine lv_goto (tgt := 6) hx hb dX12_find_36 (by decide) ?_
          exact ihlp3 z14 y1 H locs ls (by (first | exact om_fd99fc2c0081 rg_p2.2 klp3_0.1 f6 hz14 | omega)) (by (first | exact om_80d701c7d15f rg_p2.2 klp3_0.1 f6 | omega)) (show z14.toInt ≤ p2.toInt from by (first | exact om_7fe9249fc074 f6 hz14 | omega)) (show y1.toInt < p2.toInt from by (first | exact om_0e9116797efb f6 | omega)) (by (first | exact om_9e7d2b874257 hn hz14 | omega)) hP hD hS (lv_sub hl [0, 1, 2, 3, 4, 5, 6] rfl)
  have r15 : Int32.toInt 0 = 0 := by decide
  have r16 : Int32.toInt (-1) = (-1) := by decide
  exact lp3 ((p2.toInt - (Int32.toInt 0) + 1 : Int).toNat) 0 (-1) H locs ls (by decide) (by decide) (show (Int32.toInt 0) ≤ p2.toInt from by (first | exact om_6f9bb8cf3bec rg_p2.1 r15 | omega)) (show (Int32.toInt (-1)) < p2.toInt from by (first | exact om_0520d8737a12 rg_p2.1 r16 | omega)) (by (first | exact om_7441a7786481 | omega)) hP hD hS (lv_sub hl [0, 1, 2, 3, 4, 5, 6] rfl)
abbrev r_s_find_methodName : Room := { frames := 0, cells := 0, slots := 0, locals := 0 }
abbrev q_s_find_methodName (D : va_G) (ks : KS) (ad : Nat → Nat) (kk : Nat → ClassId) (V : Vf) (L : Lf) (p1 : Int32) (p2 : Int32) (p3 : Int64) (A : Nat → Prop) : Array Value → State → Outcome → State → Prop := va_Qi (fun (r : Int32) (_ : Unit) => ((-1) ≤ r.toInt ∧ r.toInt ≤ 47) ∧ (r.toInt < p2.toInt)) (fun _ t => gq D A (mw ad kk ks.1 V L) (mty kk) t) A
set_option maxHeartbeats 4000000 in
set_option maxRecDepth 100000 in
theorem s_find_methodName (l : Launch) (D : va_G) (ks : KS) (sz : Nat) (ad : Nat → Nat) (kk : Nat → ClassId) (V : Vf) (L : Lf) (p1 : Int32) (p2 : Int32) (p3 : Int64) (hMV : rgd bM V) (rg_p1 : 0 ≤ p1.toInt ∧ p1.toInt ≤ 24) (rg_p2 : 0 ≤ p2.toInt ∧ p2.toInt ≤ 24) (y1 : p1.toInt + p2.toInt ≤ 40)  : Met l yX12_find (Cond.code yX12_find cX12_find 8 (some .int) :: GW) r_s_find_methodName (va_Pc [.ref (ad 0), .ref (ad 36), .int p1, .int p2, .long p3] (gp D ks (mw ad kk ks.1 V L) (mty kk) sz)) (q_s_find_methodName D ks ad kk V L p1 p2 p3 (va_A (mw ad kk ks.1 V L) sz)) 0 0 (va_A (mw ad kk ks.1 V L) sz) := by
  refine g_met (q_s_find_methodName D ks ad kk V L p1 p2 p3) (by decide) (Nat.le_of_ble_eq_true rfl) ?_
  intro p e s m below meth c A ls H locs hx hb hr hml hown hg hlocks hin hnw hgk hP hK hD hS hA hl
  replace hown : s.vm.findClass RX12 = some m.cls := hown
  replace hl : lv_has ls 8 [(0, .ref (ad 0)), (1, .ref (ad 36)), (2, .int p1), (3, .int p2), (4, .long p3)] := hl
  replace hP : va_P D vwCl (mw ad kk ks.1 V L) H := hP
  replace hD : va_D A (mw ad kk ks.1 V L) := hD
  replace hK : va_K D vwCl (mty kk) s := hK
  refine lv_iconst (v := (-1)) hx hb dX12_find_0 (by decide) ?_
  refine lv_istore (lv' := [(6, .int (-1)), (0, .ref (ad 0)), (1, .ref (ad 36)), (2, .int p1), (3, .int p2), (4, .long p3)]) hx hb dX12_find_1 hl (by decide) rfl (fun ls hl => ?_)
  refine lv_iconst (v := 0) hx hb dX12_find_3 (by decide) ?_
  refine lv_istore (lv' := [(7, .int 0), (6, .int (-1)), (0, .ref (ad 0)), (1, .ref (ad 36)), (2, .int p1), (3, .int p2), (4, .long p3)]) hx hb dX12_find_4 hl (by decide) rfl (fun ls hl => ?_)
  have lp3 : ∀ (fulp3 : Nat) (y1 : Int32) (y2 : Int32) (H : Heap) (locs : List Loc) (ls : Array Slot), 0 ≤ y1.toInt ∧ y1.toInt ≤ 48 → (-1) ≤ y2.toInt ∧ y2.toInt ≤ 47 → y1.toInt ≤ p2.toInt → y2.toInt < p2.toInt → p2.toInt - y1.toInt < (fulp3 : Int) → va_P D vwCl (mw ad kk ks.1 V L) H → va_D A (mw ad kk ks.1 V L) → va_S A s.heap H locs → lv_has ls 8 [(7, .int y1), (6, .int y2), (0, .ref (ad 0)), (1, .ref (ad 36)), (2, .int p1), (3, .int p2), (4, .long p3)] → W p l e r_s_find_methodName s m ([.ref (ad 0), .ref (ad 36), .int p1, .int p2, .long p3] : List Value).toArray below meth c H locs 0 0 (MQ below (q_s_find_methodName D ks ad kk V L p1 p2 p3 A) ([.ref (ad 0), .ref (ad 36), .int p1, .int p2, .long p3] : List Value).toArray s 0 0 A) (F0 m 6 ls []) := by
    intro fulp3
    induction fulp3 with
    | zero =>
      intro y1 y2 H locs ls klp3_0 klp3_1 xlp3_0 xlp3_1 hn  hP hD hS hl
      exfalso; (first | exact om_4634b1278845 xlp3_0 hn | omega)
    | succ fulp3 ihlp3 =>
      intro y1 y2 H locs ls klp3_0 klp3_1 xlp3_0 xlp3_1 hn  hP hD hS hl
      refine lv_iload hx hb dX12_find_6 (lv_at hl 0 rfl) ?_
      refine lv_iload_n hx hb dX12_find_8 rfl (lv_at hl 5 rfl) ?_
      refine lv_icmp_ge (tgt := 39) hx hb dX12_find_9 (by decide) (fun c4 => ?_) (fun c4 => ?_)
      · skip
        have f5 : p2.toInt ≤ y1.toInt := b_le rfl rfl c4
        refine lv_iload hx hb dX12_find_39 (lv_at hl 1 rfl) ?_
        exact W.iret (v := y2) hx hb hr (fun t ht hW => ⟨⟨y2, (), rfl, ⟨(show (-1) ≤ y2.toInt ∧ y2.toInt ≤ 47 from by (first | exact om_ada4133e811d rg_p2.2 klp3_1.1 xlp3_1 | omega)), (show y2.toInt < p2.toInt from by (first | exact om_0e9116797efb xlp3_1 | omega))⟩, by rw [ht]; exact hP, va_K.moved hW.alike hK, hD⟩, hS.F ht⟩) hS.2.2 dX12_find_41
      · skip
        have f6 : y1.toInt < p2.toInt := b_nle rfl rfl c4
        refine lv_aload_n hx hb dX12_find_12 rfl (lv_at hl 3 rfl) ?_
        refine lv_iload_n hx hb dX12_find_13 rfl (lv_at hl 4 rfl) ?_
        refine lv_iload hx hb dX12_find_14 (lv_at hl 0 rfl) ?_
        refine lv_iadd hx hb dX12_find_16 ?_
        refine lv_topi (fun z7 ez7 => ?_)
        have hz7 : z7.toInt = p1.toInt + y1.toInt := i_add ez7 rfl rfl (by (first | exact om_e600b20a033e rg_p1.1 y1 klp3_0.1 f6 | omega))
        refine va_lald (D := D) (i := z7) hx hb hK hP 29 28 rfl rfl (i_in (a := z7.toInt) rfl (by (first | exact om_5dbe2c5fe856 rg_p1.1 y1 klp3_0.1 f6 hz7 | omega))) dX12_find_17 ?_
        refine lv_topl (fun w8 ew8 => ?_)
        refine lv_lload hx hb dX12_find_18 (lv_at hl 6 rfl) ?_
        refine W.lcmp hx hb dX12_find_20 ?_
        refine lv_topi (fun z9 ez9 => ?_)
        have hz9 : -1 ≤ z9.toInt ∧ z9.toInt ≤ 1 := lcmp_r ez9
        refine lv_if_ne (tgt := 29) hx hb dX12_find_21 (by decide) (fun c10 => ?_) (fun c10 => ?_)
        · skip
          have f11 : z9.toInt ≠ 0 := b_neq rfl (by decide) c10
          refine lv_iload hx hb dX12_find_29 (lv_at hl 1 rfl) ?_
          refine lv_istore (lv' := [(6, .int y2), (7, .int y1), (0, .ref (ad 0)), (1, .ref (ad 36)), (2, .int p1), (3, .int p2), (4, .long p3)]) hx hb dX12_find_31 hl (by decide) rfl (fun ls hl => ?_)
          obtain ⟨z12, ez12⟩ : ∃ y : Int32, y = y1 + 1 := ⟨_, rfl⟩
          have hz12 : z12.toInt = y1.toInt + 1 := i_add ez12 rfl (by decide) (by (first | exact om_ef5c713ba60b rg_p2.2 klp3_0.1 f6 | omega))
          refine lv_iinc (v := z12) (lv' := [(7, .int z12), (6, .int y2), (0, .ref (ad 0)), (1, .ref (ad 36)), (2, .int p1), (3, .int p2), (4, .long p3)]) hx hb dX12_find_33 hl (k := 1) rfl (by rw [ez12]; rfl) (by decide) rfl (fun ls hl => ?_)
          refine lv_goto (tgt := 6) hx hb dX12_find_36 (by decide) ?_
          exact ihlp3 z12 y2 H locs ls (by (first | exact om_fd99fc2c0081 rg_p2.2 klp3_0.1 f6 hz12 | omega)) (by (first | exact om_ada4133e811d rg_p2.2 klp3_1.1 xlp3_1 | omega)) (show z12.toInt ≤ p2.toInt from by (first | exact om_7fe9249fc074 f6 hz12 | omega)) (show y2.toInt < p2.toInt from by (first | exact om_0e9116797efb xlp3_1 | omega)) (by (first | exact om_9e7d2b874257 hn hz12 | omega)) hP hD hS (lv_sub hl [0, 1, 2, 3, 4, 5, 6] rfl)
        · skip
          have f13 : z9.toInt = 0 := b_eq rfl (by decide) c10
          refine lv_iload hx hb dX12_find_24 (lv_at hl 0 rfl) ?_
          refine lv_goto (tgt := 31) hx hb dX12_find_26 (by decide) ?_
          refine lv_istore (lv' := [(6, .int y1), (7, .int y1), (0, .ref (ad 0)), (1, .ref (ad 36)), (2, .int p1), (3, .int p2), (4, .long p3)]) hx hb dX12_find_31 hl (by decide) rfl (fun ls hl => ?_)
          obtain ⟨z14, ez14⟩ : ∃ y : Int32, y = y1 + 1 := ⟨_, rfl⟩
          have hz14 : z14.toInt = y1.toInt + 1 := i_add ez14 rfl (by decide) (by (first | exact om_ef5c713ba60b rg_p2.2 klp3_0.1 f6 | omega))
          refine lv_iinc (v := z14) (lv' := [(7, .int z14), (6, .int y1), (0, .ref (ad 0)), (1, .ref (ad 36)), (2, .int p1), (3, .int p2), (4, .long p3)]) hx hb dX12_find_33 hl (k := 1) rfl (by rw [ez14]; rfl) (by decide) rfl (fun ls hl => ?_)
          refine lv_goto (tgt := 6) hx hb dX12_find_36 (by decide) ?_
          exact ihlp3 z14 y1 H locs ls (by (first | exact om_fd99fc2c0081 rg_p2.2 klp3_0.1 f6 hz14 | omega)) (by (first | exact om_80d701c7d15f rg_p2.2 klp3_0.1 f6 | omega)) (show z14.toInt ≤ p2.toInt from by (first | exact om_7fe9249fc074 f6 hz14 | omega)) (show y1.toInt < p2.toInt from by (first | exact om_0e9116797efb f6 | omega)) (by (first | exact om_9e7d2b874257 hn hz14 | omega)) hP hD hS (lv_sub hl [0, 1, 2, 3, 4, 5, 6] rfl)
  have r15 : Int32.toInt 0 = 0 := by decide
  have r16 : Int32.toInt (-1) = (-1) := by decide
  exact lp3 ((p2.toInt - (Int32.toInt 0) + 1 : Int).toNat) 0 (-1) H locs ls (by decide) (by decide) (show (Int32.toInt 0) ≤ p2.toInt from by (first | exact om_6f9bb8cf3bec rg_p2.1 r15 | omega)) (show (Int32.toInt (-1)) < p2.toInt from by (first | exact om_0520d8737a12 rg_p2.1 r16 | omega)) (by (first | exact om_7441a7786481 | omega)) hP hD hS (lv_sub hl [0, 1, 2, 3, 4, 5, 6] rfl)
abbrev r_s_find_callName : Room := { frames := 0, cells := 0, slots := 0, locals := 0 }
abbrev q_s_find_callName (D : va_G) (ks : KS) (ad : Nat → Nat) (kk : Nat → ClassId) (V : Vf) (L : Lf) (p1 : Int32) (p2 : Int32) (p3 : Int64) (A : Nat → Prop) : Array Value → State → Outcome → State → Prop := va_Qi (fun (r : Int32) (_ : Unit) => ((-1) ≤ r.toInt ∧ r.toInt ≤ 47) ∧ (r.toInt < p2.toInt)) (fun _ t => gq D A (mw ad kk ks.1 V L) (mty kk) t) A
set_option maxHeartbeats 4000000 in
set_option maxRecDepth 100000 in
theorem s_find_callName (l : Launch) (D : va_G) (ks : KS) (sz : Nat) (ad : Nat → Nat) (kk : Nat → ClassId) (V : Vf) (L : Lf) (p1 : Int32) (p2 : Int32) (p3 : Int64) (hMV : rgd bM V) (rg_p1 : 0 ≤ p1.toInt ∧ p1.toInt ≤ 24) (rg_p2 : 0 ≤ p2.toInt ∧ p2.toInt ≤ 24) (y1 : p1.toInt + p2.toInt ≤ 40)  : Met l yX12_find (Cond.code yX12_find cX12_find 8 (some .int) :: GW) r_s_find_callName (va_Pc [.ref (ad 0), .ref (ad 38), .int p1, .int p2, .long p3] (gp D ks (mw ad kk ks.1 V L) (mty kk) sz)) (q_s_find_callName D ks ad kk V L p1 p2 p3 (va_A (mw ad kk ks.1 V L) sz)) 0 0 (va_A (mw ad kk ks.1 V L) sz) := by
  refine g_met (q_s_find_callName D ks ad kk V L p1 p2 p3) (by decide) (Nat.le_of_ble_eq_true rfl) ?_
  intro p e s m below meth c A ls H locs hx hb hr hml hown hg hlocks hin hnw hgk hP hK hD hS hA hl
  replace hown : s.vm.findClass RX12 = some m.cls := hown
  replace hl : lv_has ls 8 [(0, .ref (ad 0)), (1, .ref (ad 38)), (2, .int p1), (3, .int p2), (4, .long p3)] := hl
  replace hP : va_P D vwCl (mw ad kk ks.1 V L) H := hP
  replace hD : va_D A (mw ad kk ks.1 V L) := hD
  replace hK : va_K D vwCl (mty kk) s := hK
  refine lv_iconst (v := (-1)) hx hb dX12_find_0 (by decide) ?_
  refine lv_istore (lv' := [(6, .int (-1)), (0, .ref (ad 0)), (1, .ref (ad 38)), (2, .int p1), (3, .int p2), (4, .long p3)]) hx hb dX12_find_1 hl (by decide) rfl (fun ls hl => ?_)
  refine lv_iconst (v := 0) hx hb dX12_find_3 (by decide) ?_
  refine lv_istore (lv' := [(7, .int 0), (6, .int (-1)), (0, .ref (ad 0)), (1, .ref (ad 38)), (2, .int p1), (3, .int p2), (4, .long p3)]) hx hb dX12_find_4 hl (by decide) rfl (fun ls hl => ?_)
  have lp3 : ∀ (fulp3 : Nat) (y1 : Int32) (y2 : Int32) (H : Heap) (locs : List Loc) (ls : Array Slot), 0 ≤ y1.toInt ∧ y1.toInt ≤ 48 → (-1) ≤ y2.toInt ∧ y2.toInt ≤ 47 → y1.toInt ≤ p2.toInt → y2.toInt < p2.toInt → p2.toInt - y1.toInt < (fulp3 : Int) → va_P D vwCl (mw ad kk ks.1 V L) H → va_D A (mw ad kk ks.1 V L) → va_S A s.heap H locs → lv_has ls 8 [(7, .int y1), (6, .int y2), (0, .ref (ad 0)), (1, .ref (ad 38)), (2, .int p1), (3, .int p2), (4, .long p3)] → W p l e r_s_find_callName s m ([.ref (ad 0), .ref (ad 38), .int p1, .int p2, .long p3] : List Value).toArray below meth c H locs 0 0 (MQ below (q_s_find_callName D ks ad kk V L p1 p2 p3 A) ([.ref (ad 0), .ref (ad 38), .int p1, .int p2, .long p3] : List Value).toArray s 0 0 A) (F0 m 6 ls []) := by
    intro fulp3
    induction fulp3 with
    | zero =>
      intro y1 y2 H locs ls klp3_0 klp3_1 xlp3_0 xlp3_1 hn  hP hD hS hl
      exfalso; (first | exact om_4634b1278845 xlp3_0 hn | omega)
    | succ fulp3 ihlp3 =>
      intro y1 y2 H locs ls klp3_0 klp3_1 xlp3_0 xlp3_1 hn  hP hD hS hl
      refine lv_iload hx hb dX12_find_6 (lv_at hl 0 rfl) ?_
      refine lv_iload_n hx hb dX12_find_8 rfl (lv_at hl 5 rfl) ?_
      refine lv_icmp_ge (tgt := 39) hx hb dX12_find_9 (by decide) (fun c4 => ?_) (fun c4 => ?_)
      · skip
        have f5 : p2.toInt ≤ y1.toInt := b_le rfl rfl c4
        refine lv_iload hx hb dX12_find_39 (lv_at hl 1 rfl) ?_
        exact W.iret (v := y2) hx hb hr (fun t ht hW => ⟨⟨y2, (), rfl, ⟨(show (-1) ≤ y2.toInt ∧ y2.toInt ≤ 47 from by (first | exact om_ada4133e811d rg_p2.2 klp3_1.1 xlp3_1 | omega)), (show y2.toInt < p2.toInt from by (first | exact om_0e9116797efb xlp3_1 | omega))⟩, by rw [ht]; exact hP, va_K.moved hW.alike hK, hD⟩, hS.F ht⟩) hS.2.2 dX12_find_41
      · skip
        have f6 : y1.toInt < p2.toInt := b_nle rfl rfl c4
        refine lv_aload_n hx hb dX12_find_12 rfl (lv_at hl 3 rfl) ?_
        refine lv_iload_n hx hb dX12_find_13 rfl (lv_at hl 4 rfl) ?_
        refine lv_iload hx hb dX12_find_14 (lv_at hl 0 rfl) ?_
        refine lv_iadd hx hb dX12_find_16 ?_
        refine lv_topi (fun z7 ez7 => ?_)
        have hz7 : z7.toInt = p1.toInt + y1.toInt := i_add ez7 rfl rfl (by (first | exact om_e600b20a033e rg_p1.1 y1 klp3_0.1 f6 | omega))
        refine va_lald (D := D) (i := z7) hx hb hK hP 31 30 rfl rfl (i_in (a := z7.toInt) rfl (by (first | exact om_5dbe2c5fe856 rg_p1.1 y1 klp3_0.1 f6 hz7 | omega))) dX12_find_17 ?_
        refine lv_topl (fun w8 ew8 => ?_)
        refine lv_lload hx hb dX12_find_18 (lv_at hl 6 rfl) ?_
        refine W.lcmp hx hb dX12_find_20 ?_
        refine lv_topi (fun z9 ez9 => ?_)
        have hz9 : -1 ≤ z9.toInt ∧ z9.toInt ≤ 1 := lcmp_r ez9
        refine lv_if_ne (tgt := 29) hx hb dX12_find_21 (by decide) (fun c10 => ?_) (fun c10 => ?_)
        · skip
          have f11 : z9.toInt ≠ 0 := b_neq rfl (by decide) c10
          refine lv_iload hx hb dX12_find_29 (lv_at hl 1 rfl) ?_
          refine lv_istore (lv' := [(6, .int y2), (7, .int y1), (0, .ref (ad 0)), (1, .ref (ad 38)), (2, .int p1), (3, .int p2), (4, .long p3)]) hx hb dX12_find_31 hl (by decide) rfl (fun ls hl => ?_)
          obtain ⟨z12, ez12⟩ : ∃ y : Int32, y = y1 + 1 := ⟨_, rfl⟩
          have hz12 : z12.toInt = y1.toInt + 1 := i_add ez12 rfl (by decide) (by (first | exact om_ef5c713ba60b rg_p2.2 klp3_0.1 f6 | omega))
          refine lv_iinc (v := z12) (lv' := [(7, .int z12), (6, .int y2), (0, .ref (ad 0)), (1, .ref (ad 38)), (2, .int p1), (3, .int p2), (4, .long p3)]) hx hb dX12_find_33 hl (k := 1) rfl (by rw [ez12]; rfl) (by decide) rfl (fun ls hl => ?_)
          refine lv_goto (tgt := 6) hx hb dX12_find_36 (by decide) ?_
          exact ihlp3 z12 y2 H locs ls (by (first | exact om_fd99fc2c0081 rg_p2.2 klp3_0.1 f6 hz12 | omega)) (by (first | exact om_ada4133e811d rg_p2.2 klp3_1.1 xlp3_1 | omega)) (show z12.toInt ≤ p2.toInt from by (first | exact om_7fe9249fc074 f6 hz12 | omega)) (show y2.toInt < p2.toInt from by (first | exact om_0e9116797efb xlp3_1 | omega)) (by (first | exact om_9e7d2b874257 hn hz12 | omega)) hP hD hS (lv_sub hl [0, 1, 2, 3, 4, 5, 6] rfl)
        · skip
          have f13 : z9.toInt = 0 := b_eq rfl (by decide) c10
          refine lv_iload hx hb dX12_find_24 (lv_at hl 0 rfl) ?_
          refine lv_goto (tgt := 31) hx hb dX12_find_26 (by decide) ?_
          refine lv_istore (lv' := [(6, .int y1), (7, .int y1), (0, .ref (ad 0)), (1, .ref (ad 38)), (2, .int p1), (3, .int p2), (4, .long p3)]) hx hb dX12_find_31 hl (by decide) rfl (fun ls hl => ?_)
          obtain ⟨z14, ez14⟩ : ∃ y : Int32, y = y1 + 1 := ⟨_, rfl⟩
          have hz14 : z14.toInt = y1.toInt + 1 := i_add ez14 rfl (by decide) (by (first | exact om_ef5c713ba60b rg_p2.2 klp3_0.1 f6 | omega))
          refine lv_iinc (v := z14) (lv' := [(7, .int z14), (6, .int y1), (0, .ref (ad 0)), (1, .ref (ad 38)), (2, .int p1), (3, .int p2), (4, .long p3)]) hx hb dX12_find_33 hl (k := 1) rfl (by rw [ez14]; rfl) (by decide) rfl (fun ls hl => ?_)
          refine lv_goto (tgt := 6) hx hb dX12_find_36 (by decide) ?_
          exact ihlp3 z14 y1 H locs ls (by (first | exact om_fd99fc2c0081 rg_p2.2 klp3_0.1 f6 hz14 | omega)) (by (first | exact om_80d701c7d15f rg_p2.2 klp3_0.1 f6 | omega)) (show z14.toInt ≤ p2.toInt from by (first | exact om_7fe9249fc074 f6 hz14 | omega)) (show y1.toInt < p2.toInt from by (first | exact om_0e9116797efb f6 | omega)) (by (first | exact om_9e7d2b874257 hn hz14 | omega)) hP hD hS (lv_sub hl [0, 1, 2, 3, 4, 5, 6] rfl)
  have r15 : Int32.toInt 0 = 0 := by decide
  have r16 : Int32.toInt (-1) = (-1) := by decide
  exact lp3 ((p2.toInt - (Int32.toInt 0) + 1 : Int).toNat) 0 (-1) H locs ls (by decide) (by decide) (show (Int32.toInt 0) ≤ p2.toInt from by (first | exact om_6f9bb8cf3bec rg_p2.1 r15 | omega)) (show (Int32.toInt (-1)) < p2.toInt from by (first | exact om_0520d8737a12 rg_p2.1 r16 | omega)) (by (first | exact om_7441a7786481 | omega)) hP hD hS (lv_sub hl [0, 1, 2, 3, 4, 5, 6] rfl)
abbrev r_s_begins : Room := { frames := 1, cells := 0, slots := 0, locals := 21 }
abbrev q_s_begins (D : va_G) (ks : KS) (ad : Nat → Nat) (kk : Nat → ClassId) (V : Vf) (L : Lf) (p0 : Int32) (n : Nat) (A : Nat → Prop) : Array Value → State → Outcome → State → Prop := va_Qv (fun (u : Vf × Lf) => rgd bM u.1 ∧ agr [(0, 7), (0, 8)] [] V u.1 ∧ u.2 = L ∧ (Imp ((u.1 0 8).toInt = 0) (0 ≤ (u.1 0 7).toInt ∧ (u.1 0 7).toInt ≤ n ∧ (V 0 8).toInt = 0 ∧ (V 0 7).toInt ≤ (u.1 0 7).toInt)) ∧ (Imp (p0.toInt = 1) (1 ≤ (u.1 0 8).toInt)) ∧ (Imp ((u.1 0 8).toInt = 0) ((V 0 7).toInt + 1 ≤ (u.1 0 7).toInt))) (fun u t => gq D A (mw ad kk ks.1 u.1 u.2) (mty kk) t) A
set_option maxHeartbeats 4000000 in
set_option maxRecDepth 100000 in
theorem s_begins (l : Launch) (D : va_G) (ks : KS) (sz : Nat) (ad : Nat → Nat) (kk : Nat → ClassId) (V : Vf) (L : Lf) (p0 : Int32) (n : Nat) (hMV : rgd bM V) (rg_p0 : 0 ≤ p0.toInt ∧ p0.toInt ≤ 1) (x1 : (V 4 n).toInt = 0) (x2 : n ≤ 4000) (x3 : Imp ((V 0 8).toInt = 0) (0 ≤ (V 0 7).toInt ∧ (V 0 7).toInt ≤ n)) (y2 : Imp ((V 0 8).toInt = 0) ((V 0 7).toInt < n))  : Met l yX12_begins (Cond.code yX12_begins cX12_begins 2 none :: GW) r_s_begins (va_Pc [.ref (ad 0), .int p0] (gp D ks (mw ad kk ks.1 V L) (mty kk) sz)) (q_s_begins D ks ad kk V L p0 n (va_A (mw ad kk ks.1 V L) sz)) 0 0 (va_A (mw ad kk ks.1 V L) sz) := by
  refine g_met (q_s_begins D ks ad kk V L p0 n) (by decide) (Nat.le_of_ble_eq_true rfl) ?_
  intro p e s m below meth c A ls H locs hx hb hr hml hown hg hlocks hin hnw hgk hP hK hD hS hA hl
  replace hown : s.vm.findClass RX12 = some m.cls := hown
  replace hl : lv_has ls 2 [(0, .ref (ad 0)), (1, .int p0)] := hl
  replace hP : va_P D vwCl (mw ad kk ks.1 V L) H := hP
  replace hD : va_D A (mw ad kk ks.1 V L) := hD
  replace hK : va_K D vwCl (mty kk) s := hK
  have agV : agr [(0, 7), (0, 8)] [] V V := agr.rf
  have r1 : 0 ≤ ((V 0 8)).toInt ∧ ((V 0 8)).toInt ≤ 70000 := hMV 0 8
  refine lv_iload_n hx hb dX12_begins_0 rfl (lv_at hl 1 rfl) ?_
  refine lv_if_eq (tgt := 9) hx hb dX12_begins_1 (by decide) (fun c2 => ?_) (fun c2 => ?_)
  · skip
    have f3 : p0.toInt = 0 := b_eq rfl (by decide) c2
    refine lv_aload_n hx hb dX12_begins_9 rfl (lv_at hl 0 rfl) ?_
    refine lv_dup hx hb dX12_begins_10 rfl ?_
    refine va_get (D := D) (ci := 12) (v := .int (V 0 7)) (C := RX12) (T := TX12) (N := 100) hx hb hg inX12 hown hK hP 0 rfl rfl 7 (by decide) (hg _ w1713) (fun _ h9 => h9) rfl dX12_begins_11 ?_
    refine lv_iconst (v := 1) hx hb dX12_begins_14 (by decide) ?_
    refine lv_iadd hx hb dX12_begins_15 ?_
    have r4 := i_full (V 0 7)
    refine lv_topi (fun z5 ez5 => ?_)
    have hz5 : Imp (-2147483648 ≤ ((V 0 7)).toInt + 1 ∧ ((V 0 7)).toInt + 1 ≤ 2147483647) (z5.toInt = ((V 0 7)).toInt + 1) := Imp.mk (fun hp => i_add ez5 rfl (by decide) hp)
    refine va_put (D := D) (ci := 12) (v := .int z5) (ty := tyX12 7) (C := RX12) (T := TX12) (N := 100) hx hb hg inX12 tyX12 tyX12_ok nmX12 hown hK hP hD hS 0 rfl rfl 7 (by decide) (hg _ w1713) (fun _ h9 => h9) rfl (tyX12_ok 7 (by decide)) rfl rfl (Nat.le_of_ble_eq_true rfl) dX12_begins_16 (fun H locs hP hD hS => ?_)
    obtain ⟨V6, hV6⟩ : ∃ z, z = up2 V 0 7 z5 := ⟨_, rfl⟩
    have hP : va_P D vwCl (mw ad kk ks.1 V6 L) H := by rw [hV6]; exact hP
    have hD : va_D A (mw ad kk ks.1 V6 L) := by rw [hV6]; exact hD
    have hMV6 : rgd bM V6 := hMV.put hV6 (i_full _)
    have agV6 : agr [(0, 7), (0, 8)] [] V V6 := agV.up hV6 rfl
    have pq7 : (V6 0 7).toInt = z5.toInt := congrArg Int32.toInt (up2_s hV6)
    have pq8 : (V6 0 8).toInt = ((V 0 8)).toInt := congrArg Int32.toInt (up2_k hV6 (by decide))
    exact W.vret hx hb hr (fun t ht hW => ⟨⟨(V6, L), rfl, ⟨hMV6, agV6, rfl, (Imp.mk (fun hp => have hp : (V6 0 8).toInt = 0 := hp; (show 0 ≤ (V6 0 7).toInt ∧ (V6 0 7).toInt ≤ n ∧ (V 0 8).toInt = 0 ∧ (V 0 7).toInt ≤ (V6 0 7).toInt from by first | exact om_3e362e05a60c r1.1 pq7 pq8 hp ((Imp.go x3 ((pq8.symm).trans (hp))).1) ((Imp.go y2 ((pq8.symm).trans (hp)))) ((Imp.go hz5 (om_053a02be3074 x2 ((Imp.go x3 ((pq8.symm).trans (hp))).1) ((Imp.go y2 ((pq8.symm).trans (hp))))))) | first | omega | ((try (have i_hz5 := Imp.go hz5 (by omega))); (try (have i_y2 := Imp.go y2 (by omega))); (try (have i_x3 := Imp.go x3 (by omega))); (try (have i_x3 := Imp.go x3 (by omega))); (try (have i_y2 := Imp.go y2 (by omega))); (try (have i_hz5 := Imp.go hz5 (by omega))); omega)))), (Imp.mk (fun hp => have hp : p0.toInt = 1 := hp; (show 1 ≤ (V6 0 8).toInt from by first | omega | ((try (have i_hz5 := Imp.go hz5 (by omega))); (try (have i_y2 := Imp.go y2 (by omega))); (try (have i_x3 := Imp.go x3 (by omega))); (try (have i_x3 := Imp.go x3 (by omega))); (try (have i_y2 := Imp.go y2 (by omega))); (try (have i_hz5 := Imp.go hz5 (by omega))); omega)))), (Imp.mk (fun hp => have hp : (V6 0 8).toInt = 0 := hp; (show (V 0 7).toInt + 1 ≤ (V6 0 7).toInt from by first | exact om_202eeafe7f37 pq7 ((Imp.go hz5 (om_053a02be3074 x2 ((Imp.go x3 ((pq8.symm).trans (hp))).1) ((Imp.go y2 ((pq8.symm).trans (hp))))))) | first | omega | ((try (have i_hz5 := Imp.go hz5 (by omega))); (try (have i_y2 := Imp.go y2 (by omega))); (try (have i_x3 := Imp.go x3 (by omega))); (try (have i_x3 := Imp.go x3 (by omega))); (try (have i_y2 := Imp.go y2 (by omega))); (try (have i_hz5 := Imp.go hz5 (by omega))); omega))))⟩, by rw [ht]; exact hP, va_K.moved hW.alike hK, hD⟩, hS.F ht⟩) hS.2.2 dX12_begins_19
  · skip
    have f9 : p0.toInt ≠ 0 := b_neq rfl (by decide) c2
    refine lv_aload_n hx hb dX12_begins_4 rfl (lv_at hl 0 rfl) ?_
    refine lv_iconst (v := 5) hx hb dX12_begins_5 (by decide) ?_
    have r10 : Int32.toInt 5 = 5 := by decide
    refine gA_void (gA_runV (As := [.int 5]) (rest := []) (ci := 12) (q0 := 0) hx hb hml hown hg hP hD hK hS hA hnw hgk (s_wrong l D ks H.size ad kk V L 5 (n) hMV (by decide) (show (V 4 (n)).toInt = 0 from by first | exact om_b66ba74381d5 x1 | first | omega | ((try (have i_y2 := Imp.go y2 (by omega))); (try (have i_x3 := Imp.go x3 (by omega))); (try (have i_x3 := Imp.go x3 (by omega))); (try (have i_y2 := Imp.go y2 (by omega))); omega)) (show (n) ≤ 4000 from by first | exact om_af64e361c991 x2 | first | omega | ((try (have i_y2 := Imp.go y2 (by omega))); (try (have i_x3 := Imp.go x3 (by omega))); (try (have i_x3 := Imp.go x3 (by omega))); (try (have i_y2 := Imp.go y2 (by omega))); omega)) (Imp.mk (fun hp => have hp : (V 0 8).toInt = 0 := hp; (show 0 ≤ (V 0 7).toInt ∧ (V 0 7).toInt ≤ (n) from by first | exact om_7a329117c856 ((Imp.go x3 (hp)).1) ((Imp.go y2 (hp))) | first | omega | ((try (have i_y2 := Imp.go y2 (by omega))); (try (have i_x3 := Imp.go x3 (by omega))); (try (have i_x3 := Imp.go x3 (by omega))); (try (have i_y2 := Imp.go y2 (by omega))); omega))))) w2035 w2037 w86 w172 w2038 rfl rfl hdV_yX12_wrong ⟨Nat.le_of_ble_eq_true rfl, Nat.le_of_ble_eq_true rfl⟩ rfl hl.1 rfl (Nat.le_of_ble_eq_true rfl) dX12_begins_6 ⟨Nat.le_of_ble_eq_true rfl, Nat.le_of_ble_eq_true rfl⟩) hP hD hK hS hA (fun u12 H locs w13 hP hD hK hS => ?_)
    obtain ⟨V15, L16⟩ := u12
    obtain ⟨hMV15, ajV15, axL16, t14⟩ := w13
    have axL16 : L = L16 := Eq.symm axL16
    subst axL16
    replace hP : va_P D vwCl (mw ad kk ks.1 V15 L) H := hP
    replace hD : va_D A (mw ad kk ks.1 V15 L) := hD
    replace hMV15 : rgd bM V15 := hMV15
    replace ajV15 : agr [(0, 8)] [] V V15 := ajV15
    have agV15 : agr [(0, 7), (0, 8)] [] V V15 := agV.tr ajV15 (by decide) (by decide)
    replace t14 : 1 ≤ (V15 0 8).toInt := t14
    have r17 : 0 ≤ ((V15 0 8)).toInt ∧ ((V15 0 8)).toInt ≤ 70000 := hMV15 0 8
    refine lv_aload_n hx hb dX12_begins_9 rfl (lv_at hl 0 rfl) ?_
    refine lv_dup hx hb dX12_begins_10 rfl ?_
    refine va_get (D := D) (ci := 12) (v := .int (V15 0 7)) (C := RX12) (T := TX12) (N := 100) hx hb hg inX12 hown hK hP 0 rfl rfl 7 (by decide) (hg _ w1713) (fun _ h9 => h9) rfl dX12_begins_11 ?_
    refine g_top (v := (V 0 7)) (ajV15 0 7 rfl) ?_
    refine lv_iconst (v := 1) hx hb dX12_begins_14 (by decide) ?_
    refine lv_iadd hx hb dX12_begins_15 ?_
    have r18 := i_full (V 0 7)
    refine lv_topi (fun z19 ez19 => ?_)
    have hz19 : Imp (-2147483648 ≤ ((V 0 7)).toInt + 1 ∧ ((V 0 7)).toInt + 1 ≤ 2147483647) (z19.toInt = ((V 0 7)).toInt + 1) := Imp.mk (fun hp => i_add ez19 rfl (by decide) hp)
    refine va_put (D := D) (ci := 12) (v := .int z19) (ty := tyX12 7) (C := RX12) (T := TX12) (N := 100) hx hb hg inX12 tyX12 tyX12_ok nmX12 hown hK hP hD hS 0 rfl rfl 7 (by decide) (hg _ w1713) (fun _ h9 => h9) rfl (tyX12_ok 7 (by decide)) rfl rfl (Nat.le_of_ble_eq_true rfl) dX12_begins_16 (fun H locs hP hD hS => ?_)
    obtain ⟨V20, hV20⟩ : ∃ z, z = up2 V15 0 7 z19 := ⟨_, rfl⟩
    have hP : va_P D vwCl (mw ad kk ks.1 V20 L) H := by rw [hV20]; exact hP
    have hD : va_D A (mw ad kk ks.1 V20 L) := by rw [hV20]; exact hD
    have hMV20 : rgd bM V20 := hMV15.put hV20 (i_full _)
    have agV20 : agr [(0, 7), (0, 8)] [] V V20 := agV15.up hV20 rfl
    have pq21 : (V20 0 7).toInt = z19.toInt := congrArg Int32.toInt (up2_s hV20)
    have pq22 : (V20 0 8).toInt = ((V15 0 8)).toInt := congrArg Int32.toInt (up2_k hV20 (by decide))
    exact W.vret hx hb hr (fun t ht hW => ⟨⟨(V20, L), rfl, ⟨hMV20, agV20, rfl, (Imp.mk (fun hp => have hp : (V20 0 8).toInt = 0 := hp; (show 0 ≤ (V20 0 7).toInt ∧ (V20 0 7).toInt ≤ n ∧ (V 0 8).toInt = 0 ∧ (V 0 7).toInt ≤ (V20 0 7).toInt from by first | omega | ((try (have i_hz19 := Imp.go hz19 (by omega))); (try (have i_y2 := Imp.go y2 (by omega))); (try (have i_x3 := Imp.go x3 (by omega))); (try (have i_x3 := Imp.go x3 (by omega))); (try (have i_y2 := Imp.go y2 (by omega))); (try (have i_hz19 := Imp.go hz19 (by omega))); omega)))), (Imp.mk (fun hp => have hp : p0.toInt = 1 := hp; (show 1 ≤ (V20 0 8).toInt from by first | exact om_e3c391a03e81 t14 pq22 | first | omega | ((try (have i_hz19 := Imp.go hz19 (by omega))); (try (have i_y2 := Imp.go y2 (by omega))); (try (have i_x3 := Imp.go x3 (by omega))); (try (have i_x3 := Imp.go x3 (by omega))); (try (have i_y2 := Imp.go y2 (by omega))); (try (have i_hz19 := Imp.go hz19 (by omega))); omega)))), (Imp.mk (fun hp => have hp : (V20 0 8).toInt = 0 := hp; (show (V 0 7).toInt + 1 ≤ (V20 0 7).toInt from by first | omega | ((try (have i_hz19 := Imp.go hz19 (by omega))); (try (have i_y2 := Imp.go y2 (by omega))); (try (have i_x3 := Imp.go x3 (by omega))); (try (have i_x3 := Imp.go x3 (by omega))); (try (have i_y2 := Imp.go y2 (by omega))); (try (have i_hz19 := Imp.go hz19 (by omega))); omega))))⟩, by rw [ht]; exact hP, va_K.moved hW.alike hK, hD⟩, hS.F ht⟩) hS.2.2 dX12_begins_19
abbrev r_s_newName : Room := { frames := 1, cells := 0, slots := 0, locals := 27 }
abbrev q_s_newName (D : va_G) (ks : KS) (ad : Nat → Nat) (kk : Nat → ClassId) (V : Vf) (L : Lf) (n : Nat) (A : Nat → Prop) : Array Value → State → Outcome → State → Prop := va_Ql (fun (r : Int64) (u : Vf × Lf) => rgd bM u.1 ∧ agr [(0, 7), (0, 8)] [] V u.1 ∧ u.2 = L ∧ (Imp ((u.1 0 8).toInt = 0) (0 ≤ (u.1 0 7).toInt ∧ (u.1 0 7).toInt ≤ n ∧ (V 0 8).toInt = 0 ∧ (V 0 7).toInt ≤ (u.1 0 7).toInt)) ∧ (Imp ((u.1 0 8).toInt = 0) ((V 0 7).toInt + 1 ≤ (u.1 0 7).toInt))) (fun u t => gq D A (mw ad kk ks.1 u.1 u.2) (mty kk) t) A
set_option maxHeartbeats 4000000 in
set_option maxRecDepth 100000 in
theorem s_newName (l : Launch) (D : va_G) (ks : KS) (sz : Nat) (ad : Nat → Nat) (kk : Nat → ClassId) (V : Vf) (L : Lf) (n : Nat) (hMV : rgd bM V) (x1 : (V 4 n).toInt = 0) (x2 : n ≤ 4000) (x3 : Imp ((V 0 8).toInt = 0) (0 ≤ (V 0 7).toInt ∧ (V 0 7).toInt ≤ n)) (y3 : (V 0 8).toInt = 0)  : Met l yX12_newName (Cond.code yX12_newName cX12_newName 1 (some .long) :: GW) r_s_newName (va_Pc [.ref (ad 0)] (gp D ks (mw ad kk ks.1 V L) (mty kk) sz)) (q_s_newName D ks ad kk V L  n (va_A (mw ad kk ks.1 V L) sz)) 0 0 (va_A (mw ad kk ks.1 V L) sz) := by
  refine g_met (q_s_newName D ks ad kk V L  n) (by decide) (Nat.le_of_ble_eq_true rfl) ?_
  intro p e s m below meth c A ls H locs hx hb hr hml hown hg hlocks hin hnw hgk hP hK hD hS hA hl
  replace hown : s.vm.findClass RX12 = some m.cls := hown
  replace hl : lv_has ls 1 [(0, .ref (ad 0))] := hl
  replace hP : va_P D vwCl (mw ad kk ks.1 V L) H := hP
  replace hD : va_D A (mw ad kk ks.1 V L) := hD
  replace hK : va_K D vwCl (mty kk) s := hK
  have agV : agr [(0, 7), (0, 8)] [] V V := agr.rf
  have r1 : 0 ≤ ((V 0 8)).toInt ∧ ((V 0 8)).toInt ≤ 70000 := hMV 0 8
  refine lv_aload_n hx hb dX12_newName_0 rfl (lv_at hl 0 rfl) ?_
  refine va_get (D := D) (ci := 12) (v := .int (V 0 8)) (C := RX12) (T := TX12) (N := 100) hx hb hg inX12 hown hK hP 0 rfl rfl 8 (by decide) (hg _ w1714) (fun _ h9 => h9) rfl dX12_newName_1 ?_
  refine lv_if_ne (tgt := 22) hx hb dX12_newName_4 (by decide) (fun c2 => ?_) (fun c2 => ?_)
  · skip
    have f3 : ((V 0 8)).toInt ≠ 0 := b_neq rfl (by decide) c2
    refine lv_aload_n hx hb dX12_newName_22 rfl (lv_at hl 0 rfl) ?_
    refine va_get (D := D) (ci := 12) (v := .int (V 0 8)) (C := RX12) (T := TX12) (N := 100) hx hb hg inX12 hown hK hP 0 rfl rfl 8 (by decide) (hg _ w1714) (fun _ h9 => h9) rfl dX12_newName_23 ?_
    refine lv_if_ne (tgt := 142) hx hb dX12_newName_26 (by decide) (fun c4 => ?_) (fun c4 => ?_)
    · skip
      have f5 : ((V 0 8)).toInt ≠ 0 := b_neq rfl (by decide) c4
      refine lv_aload_n hx hb dX12_newName_142 rfl (lv_at hl 0 rfl) ?_
      refine lv_dup hx hb dX12_newName_143 rfl ?_
      refine va_get (D := D) (ci := 12) (v := .int (V 0 7)) (C := RX12) (T := TX12) (N := 100) hx hb hg inX12 hown hK hP 0 rfl rfl 7 (by decide) (hg _ w1713) (fun _ h9 => h9) rfl dX12_newName_144 ?_
      refine lv_iconst (v := 1) hx hb dX12_newName_147 (by decide) ?_
      refine lv_iadd hx hb dX12_newName_148 ?_
      have r6 := i_full (V 0 7)
      refine lv_topi (fun z7 ez7 => ?_)
      have hz7 : Imp (-2147483648 ≤ ((V 0 7)).toInt + 1 ∧ ((V 0 7)).toInt + 1 ≤ 2147483647) (z7.toInt = ((V 0 7)).toInt + 1) := Imp.mk (fun hp => i_add ez7 rfl (by decide) hp)
      refine va_put (D := D) (ci := 12) (v := .int z7) (ty := tyX12 7) (C := RX12) (T := TX12) (N := 100) hx hb hg inX12 tyX12 tyX12_ok nmX12 hown hK hP hD hS 0 rfl rfl 7 (by decide) (hg _ w1713) (fun _ h9 => h9) rfl (tyX12_ok 7 (by decide)) rfl rfl (Nat.le_of_ble_eq_true rfl) dX12_newName_149 (fun H locs hP hD hS => ?_)
      obtain ⟨V8, hV8⟩ : ∃ z, z = up2 V 0 7 z7 := ⟨_, rfl⟩
      have hP : va_P D vwCl (mw ad kk ks.1 V8 L) H := by rw [hV8]; exact hP
      have hD : va_D A (mw ad kk ks.1 V8 L) := by rw [hV8]; exact hD
      have hMV8 : rgd bM V8 := hMV.put hV8 (i_full _)
      have agV8 : agr [(0, 7), (0, 8)] [] V V8 := agV.up hV8 rfl
      refine lv_aload_n hx hb dX12_newName_152 rfl (lv_at hl 0 rfl) ?_
      refine va_get (D := D) (ci := 12) (v := .ref (ad 6)) (C := RX12) (T := TX12) (N := 100) hx hb hg inX12 hown hK hP 0 rfl rfl 6 (by decide) (hg _ w1712) (fun _ h9 => h9) rfl dX12_newName_153 ?_
      refine lv_aload_n hx hb dX12_newName_156 rfl (lv_at hl 0 rfl) ?_
      refine va_get (D := D) (ci := 12) (v := .int (V8 0 7)) (C := RX12) (T := TX12) (N := 100) hx hb hg inX12 hown hK hP 0 rfl rfl 7 (by decide) (hg _ w1713) (fun _ h9 => h9) rfl dX12_newName_157 ?_
      refine g_top (v := z7) (up2_s hV8) ?_
      refine lv_iconst (v := 1) hx hb dX12_newName_160 (by decide) ?_
      refine lv_isub hx hb dX12_newName_161 ?_
      have r9 := i_full z7
      refine lv_topi (fun z10 ez10 => ?_)
      have hz10 : Imp (-2147483648 ≤ z7.toInt - 1 ∧ z7.toInt - 1 ≤ 2147483647) (z10.toInt = z7.toInt - 1) := Imp.mk (fun hp => i_sub ez10 rfl (by decide) hp)
      refine va_lald (D := D) (i := z10) hx hb hK hP 4 3 rfl rfl (i_in (a := z10.toInt) rfl (by first | omega | ((try (have i_hz10 := Imp.go hz10 (by omega))); (try (have i_hz7 := Imp.go hz7 (by omega))); (try (have i_x3 := Imp.go x3 (by omega))); (try (have i_x3 := Imp.go x3 (by omega))); (try (have i_hz7 := Imp.go hz7 (by omega))); (try (have i_hz10 := Imp.go hz10 (by omega))); omega))) dX12_newName_162 ?_
      refine lv_topl (fun w11 ew11 => ?_)
      have pq12 : (V8 0 7).toInt = z7.toInt := congrArg Int32.toInt (up2_s hV8)
      have pq13 : (V8 0 8).toInt = ((V 0 8)).toInt := congrArg Int32.toInt (up2_k hV8 (by decide))
      exact W.lret (v := w11) hx hb hr (fun t ht hW => ⟨⟨w11, (V8, L), rfl, ⟨hMV8, agV8, rfl, (Imp.mk (fun hp => have hp : (V8 0 8).toInt = 0 := hp; (show 0 ≤ (V8 0 7).toInt ∧ (V8 0 7).toInt ≤ n ∧ (V 0 8).toInt = 0 ∧ (V 0 7).toInt ≤ (V8 0 7).toInt from by first | omega | ((try (have i_hz10 := Imp.go hz10 (by omega))); (try (have i_hz7 := Imp.go hz7 (by omega))); (try (have i_x3 := Imp.go x3 (by omega))); (try (have i_x3 := Imp.go x3 (by omega))); (try (have i_hz7 := Imp.go hz7 (by omega))); (try (have i_hz10 := Imp.go hz10 (by omega))); omega)))), (Imp.mk (fun hp => have hp : (V8 0 8).toInt = 0 := hp; (show (V 0 7).toInt + 1 ≤ (V8 0 7).toInt from by first | omega | ((try (have i_hz10 := Imp.go hz10 (by omega))); (try (have i_hz7 := Imp.go hz7 (by omega))); (try (have i_x3 := Imp.go x3 (by omega))); (try (have i_x3 := Imp.go x3 (by omega))); (try (have i_hz7 := Imp.go hz7 (by omega))); (try (have i_hz10 := Imp.go hz10 (by omega))); omega))))⟩, by rw [ht]; exact hP, va_K.moved hW.alike hK, hD⟩, hS.F ht⟩) hS.2.2 dX12_newName_163
    · skip
      have f14 : ((V 0 8)).toInt = 0 := b_eq rfl (by decide) c4
      exfalso; first | exact om_0b51723c7ef6 y3 f3 | first | omega | ((try (have i_x3 := Imp.go x3 (by omega))); omega)
  · skip
    have f15 : ((V 0 8)).toInt = 0 := b_eq rfl (by decide) c2
    refine lv_aload_n hx hb dX12_newName_7 rfl (lv_at hl 0 rfl) ?_
    refine gA_int (gA_runV (As := []) (rest := []) (ci := 12) (q0 := 0) hx hb hml hown hg hP hD hK hS hA hnw hgk (s_isName l D ks H.size ad kk V L (n) hMV (show (V 4 (n)).toInt = 0 from by first | exact om_b66ba74381d5 x1 | first | omega | ((try (have i_x3 := Imp.go x3 (by omega))); omega)) (show (n) ≤ 4000 from by first | exact om_af64e361c991 x2 | first | omega | ((try (have i_x3 := Imp.go x3 (by omega))); omega)) (Imp.mk (fun hp => have hp : (V 0 8).toInt = 0 := hp; (show 0 ≤ (V 0 7).toInt ∧ (V 0 7).toInt ≤ (n) from by first | exact om_408b46baf51e ((Imp.go x3 (hp)).1) ((Imp.go x3 (hp)).2) | first | omega | ((try (have i_x3 := Imp.go x3 (by omega))); omega))))) w2043 w2045 w88 w172 w2046 rfl rfl hdV_yX12_isName ⟨Nat.le_of_ble_eq_true rfl, Nat.le_of_ble_eq_true rfl⟩ rfl hl.1 rfl (Nat.le_of_ble_eq_true rfl) dX12_newName_8 ⟨Nat.le_of_ble_eq_true rfl, Nat.le_of_ble_eq_true rfl⟩) hP hD hK hS hA (fun z16 u17 H locs w18 hP hD hK hS => ?_)
    obtain ⟨rgz16, t19⟩ := w18
    replace rgz16 : 0 ≤ z16.toInt ∧ z16.toInt ≤ 1 := rgz16
    replace t19 : Imp (z16.toInt = 1) ((V 0 8).toInt = 0 ∧ 0 ≤ (V 0 7).toInt ∧ (V 0 7).toInt < (n)) := t19
    refine lv_if_ne (tgt := 22) hx hb dX12_newName_11 (by decide) (fun c20 => ?_) (fun c20 => ?_)
    · skip
      have f21 : z16.toInt ≠ 0 := b_neq rfl (by decide) c20
      refine lv_aload_n hx hb dX12_newName_22 rfl (lv_at hl 0 rfl) ?_
      refine va_get (D := D) (ci := 12) (v := .int (V 0 8)) (C := RX12) (T := TX12) (N := 100) hx hb hg inX12 hown hK hP 0 rfl rfl 8 (by decide) (hg _ w1714) (fun _ h9 => h9) rfl dX12_newName_23 ?_
      refine lv_if_ne (tgt := 142) hx hb dX12_newName_26 (by decide) (fun c22 => ?_) (fun c22 => ?_)
      · skip
        have f23 : ((V 0 8)).toInt ≠ 0 := b_neq rfl (by decide) c22
        exfalso; first | exact om_0b51723c7ef6 y3 f23 | first | omega | ((try (have i_t19 := Imp.go t19 (by omega))); (try (have i_x3 := Imp.go x3 (by omega))); (try (have i_x3 := Imp.go x3 (by omega))); (try (have i_t19 := Imp.go t19 (by omega))); omega)
      · skip
        have f24 : ((V 0 8)).toInt = 0 := b_eq rfl (by decide) c22
        refine lv_aload_n hx hb dX12_newName_29 rfl (lv_at hl 0 rfl) ?_
        refine lv_aload_n hx hb dX12_newName_30 rfl (lv_at hl 0 rfl) ?_
        refine va_get (D := D) (ci := 12) (v := .ref (ad 14)) (C := RX12) (T := TX12) (N := 100) hx hb hg inX12 hown hK hP 0 rfl rfl 14 (by decide) (hg _ w1720) (fun _ h9 => h9) rfl dX12_newName_31 ?_
        refine lv_bipush (v := 24) hx hb dX12_newName_34 (by decide) ?_
        refine lv_aload_n hx hb dX12_newName_36 rfl (lv_at hl 0 rfl) ?_
        refine va_get (D := D) (ci := 12) (v := .int (V 0 12)) (C := RX12) (T := TX12) (N := 100) hx hb hg inX12 hown hK hP 0 rfl rfl 12 (by decide) (hg _ w1718) (fun _ h9 => h9) rfl dX12_newName_37 ?_
        have r25 : 0 ≤ ((V 0 12)).toInt ∧ ((V 0 12)).toInt ≤ 1 := hMV 0 12
        refine lv_imul hx hb dX12_newName_40 ?_
        refine lv_topi (fun z26 ez26 => ?_)
        have hz26 : z26.toInt = 24 * ((V 0 12)).toInt := i_mul ez26 (by decide) rfl (by (first | exact om_3f8aba7b6ce1 r25.1 r25.2 | omega))
        refine lv_aload_n hx hb dX12_newName_41 rfl (lv_at hl 0 rfl) ?_
        refine va_get (D := D) (ci := 12) (v := .ref (ad 13)) (C := RX12) (T := TX12) (N := 100) hx hb hg inX12 hown hK hP 0 rfl rfl 13 (by decide) (hg _ w1719) (fun _ h9 => h9) rfl dX12_newName_42 ?_
        refine lv_aload_n hx hb dX12_newName_45 rfl (lv_at hl 0 rfl) ?_
        refine va_get (D := D) (ci := 12) (v := .int (V 0 12)) (C := RX12) (T := TX12) (N := 100) hx hb hg inX12 hown hK hP 0 rfl rfl 12 (by decide) (hg _ w1718) (fun _ h9 => h9) rfl dX12_newName_46 ?_
        refine va_iald (D := D) (i := (V 0 12)) hx hb hK hP 6 5 rfl rfl (i_in (a := ((V 0 12)).toInt) rfl (by first | exact om_8367a84723c7 r25.1 r25.2 | first | omega | ((try (have i_t19 := Imp.go t19 (by omega))); (try (have i_x3 := Imp.go x3 (by omega))); (try (have i_x3 := Imp.go x3 (by omega))); (try (have i_t19 := Imp.go t19 (by omega))); omega))) dX12_newName_49 ?_
        have r27 : 0 ≤ ((V 13 (Int32.toNatClampNeg (V 0 12)))).toInt ∧ ((V 13 (Int32.toNatClampNeg (V 0 12)))).toInt ≤ 24 := hMV 13 (Int32.toNatClampNeg (V 0 12))
        refine lv_aload_n hx hb dX12_newName_50 rfl (lv_at hl 0 rfl) ?_
        refine va_get (D := D) (ci := 12) (v := .ref (ad 6)) (C := RX12) (T := TX12) (N := 100) hx hb hg inX12 hown hK hP 0 rfl rfl 6 (by decide) (hg _ w1712) (fun _ h9 => h9) rfl dX12_newName_51 ?_
        refine lv_aload_n hx hb dX12_newName_54 rfl (lv_at hl 0 rfl) ?_
        refine va_get (D := D) (ci := 12) (v := .int (V 0 7)) (C := RX12) (T := TX12) (N := 100) hx hb hg inX12 hown hK hP 0 rfl rfl 7 (by decide) (hg _ w1713) (fun _ h9 => h9) rfl dX12_newName_55 ?_
        refine va_lald (D := D) (i := (V 0 7)) hx hb hK hP 4 3 rfl rfl (i_in (a := ((V 0 7)).toInt) rfl (by first | exact om_4d9bfa19b181 x2 ((Imp.go x3 (f24)).1) ((Imp.go t19 (imp_a (rgz16.1) (rgz16.2) (f21))).2.2) | first | omega | ((try (have i_t19 := Imp.go t19 (by omega))); (try (have i_x3 := Imp.go x3 (by omega))); (try (have i_x3 := Imp.go x3 (by omega))); (try (have i_t19 := Imp.go t19 (by omega))); omega))) dX12_newName_58 ?_
        refine lv_topl (fun w28 ew28 => ?_)
        refine gA_int (gA_runV (As := [.ref (ad 14), .int z26, .int (V 13 (Int32.toNatClampNeg (V 0 12))), .long w28]) (rest := []) (ci := 12) (q0 := 0) hx hb hml hown hg hP hD hK hS hA hnw hgk (s_find_typeName l D ks H.size ad kk V L z26 (V 13 (Int32.toNatClampNeg (V 0 12))) w28 hMV (by first | exact om_c44c09625d4d r25.1 r25.2 hz26 | first | omega | ((try (have i_t19 := Imp.go t19 (by omega))); (try (have i_x3 := Imp.go x3 (by omega))); (try (have i_x3 := Imp.go x3 (by omega))); (try (have i_t19 := Imp.go t19 (by omega))); omega)) (by first | exact om_f82fee59341f r27.1 r27.2 | first | omega | ((try (have i_t19 := Imp.go t19 (by omega))); (try (have i_x3 := Imp.go x3 (by omega))); (try (have i_x3 := Imp.go x3 (by omega))); (try (have i_t19 := Imp.go t19 (by omega))); omega)) (show z26.toInt + ((V 13 (Int32.toNatClampNeg (V 0 12)))).toInt ≤ 48 from by first | exact om_6f18d472129c r25.2 hz26 r27.2 | first | omega | ((try (have i_t19 := Imp.go t19 (by omega))); (try (have i_x3 := Imp.go x3 (by omega))); (try (have i_x3 := Imp.go x3 (by omega))); (try (have i_t19 := Imp.go t19 (by omega))); omega))) w2047 w2049 w89 w172 w2050 rfl rfl hdV_yX12_find ⟨Nat.le_of_ble_eq_true rfl, Nat.le_of_ble_eq_true rfl⟩ rfl hl.1 rfl (Nat.le_of_ble_eq_true rfl) dX12_newName_59 ⟨Nat.le_of_ble_eq_true rfl, Nat.le_of_ble_eq_true rfl⟩) hP hD hK hS hA (fun z29 u30 H locs w31 hP hD hK hS => ?_)
        obtain ⟨rgz29, t32⟩ := w31
        replace rgz29 : (-1) ≤ z29.toInt ∧ z29.toInt ≤ 47 := rgz29
        replace t32 : z29.toInt < ((V 13 (Int32.toNatClampNeg (V 0 12)))).toInt := t32
        refine lv_if_ge (tgt := 137) hx hb dX12_newName_62 (by decide) (fun c33 => ?_) (fun c33 => ?_)
        · skip
          have f34 : 0 ≤ z29.toInt := b_le (by decide) rfl c33
          refine lv_aload_n hx hb dX12_newName_137 rfl (lv_at hl 0 rfl) ?_
          refine lv_iconst (v := 3) hx hb dX12_newName_138 (by decide) ?_
          have r35 : Int32.toInt 3 = 3 := by decide
          refine gA_void (gA_runV (As := [.int 3]) (rest := []) (ci := 12) (q0 := 0) hx hb hml hown hg hP hD hK hS hA hnw hgk (s_wrong l D ks H.size ad kk V L 3 (n) hMV (by decide) (show (V 4 (n)).toInt = 0 from by first | exact om_b66ba74381d5 x1 | first | omega | ((try (have i_t19 := Imp.go t19 (by omega))); (try (have i_x3 := Imp.go x3 (by omega))); (try (have i_x3 := Imp.go x3 (by omega))); (try (have i_t19 := Imp.go t19 (by omega))); omega)) (show (n) ≤ 4000 from by first | exact om_af64e361c991 x2 | first | omega | ((try (have i_t19 := Imp.go t19 (by omega))); (try (have i_x3 := Imp.go x3 (by omega))); (try (have i_x3 := Imp.go x3 (by omega))); (try (have i_t19 := Imp.go t19 (by omega))); omega)) (Imp.mk (fun hp => have hp : (V 0 8).toInt = 0 := hp; (show 0 ≤ (V 0 7).toInt ∧ (V 0 7).toInt ≤ (n) from by first | exact om_7a329117c856 ((Imp.go x3 (hp)).1) ((Imp.go t19 (imp_a (rgz16.1) (rgz16.2) (f21))).2.2) | first | omega | ((try (have i_t19 := Imp.go t19 (by omega))); (try (have i_x3 := Imp.go x3 (by omega))); (try (have i_x3 := Imp.go x3 (by omega))); (try (have i_t19 := Imp.go t19 (by omega))); omega))))) w2035 w2037 w86 w172 w2038 rfl rfl hdV_yX12_wrong ⟨Nat.le_of_ble_eq_true rfl, Nat.le_of_ble_eq_true rfl⟩ rfl hl.1 rfl (Nat.le_of_ble_eq_true rfl) dX12_newName_139 ⟨Nat.le_of_ble_eq_true rfl, Nat.le_of_ble_eq_true rfl⟩) hP hD hK hS hA (fun u37 H locs w38 hP hD hK hS => ?_)
          obtain ⟨V40, L41⟩ := u37
          obtain ⟨hMV40, ajV40, axL41, t39⟩ := w38
          have axL41 : L = L41 := Eq.symm axL41
          subst axL41
          replace hP : va_P D vwCl (mw ad kk ks.1 V40 L) H := hP
          replace hD : va_D A (mw ad kk ks.1 V40 L) := hD
          replace hMV40 : rgd bM V40 := hMV40
          replace ajV40 : agr [(0, 8)] [] V V40 := ajV40
          have agV40 : agr [(0, 7), (0, 8)] [] V V40 := agV.tr ajV40 (by decide) (by decide)
          replace t39 : 1 ≤ (V40 0 8).toInt := t39
          have r42 : 0 ≤ ((V40 0 8)).toInt ∧ ((V40 0 8)).toInt ≤ 70000 := hMV40 0 8
          refine lv_aload_n hx hb dX12_newName_142 rfl (lv_at hl 0 rfl) ?_
          refine lv_dup hx hb dX12_newName_143 rfl ?_
          refine va_get (D := D) (ci := 12) (v := .int (V40 0 7)) (C := RX12) (T := TX12) (N := 100) hx hb hg inX12 hown hK hP 0 rfl rfl 7 (by decide) (hg _ w1713) (fun _ h9 => h9) rfl dX12_newName_144 ?_
          refine g_top (v := (V 0 7)) (ajV40 0 7 rfl) ?_
          refine lv_iconst (v := 1) hx hb dX12_newName_147 (by decide) ?_
          refine lv_iadd hx hb dX12_newName_148 ?_
          have r43 := i_full (V 0 7)
          refine lv_topi (fun z44 ez44 => ?_)
          have hz44 : Imp (-2147483648 ≤ ((V 0 7)).toInt + 1 ∧ ((V 0 7)).toInt + 1 ≤ 2147483647) (z44.toInt = ((V 0 7)).toInt + 1) := Imp.mk (fun hp => i_add ez44 rfl (by decide) hp)
          refine va_put (D := D) (ci := 12) (v := .int z44) (ty := tyX12 7) (C := RX12) (T := TX12) (N := 100) hx hb hg inX12 tyX12 tyX12_ok nmX12 hown hK hP hD hS 0 rfl rfl 7 (by decide) (hg _ w1713) (fun _ h9 => h9) rfl (tyX12_ok 7 (by decide)) rfl rfl (Nat.le_of_ble_eq_true rfl) dX12_newName_149 (fun H locs hP hD hS => ?_)
          obtain ⟨V45, hV45⟩ : ∃ z, z = up2 V40 0 7 z44 := ⟨_, rfl⟩
          have hP : va_P D vwCl (mw ad kk ks.1 V45 L) H := by rw [hV45]; exact hP
          have hD : va_D A (mw ad kk ks.1 V45 L) := by rw [hV45]; exact hD
          have hMV45 : rgd bM V45 := hMV40.put hV45 (i_full _)
          have agV45 : agr [(0, 7), (0, 8)] [] V V45 := agV40.up hV45 rfl
          refine lv_aload_n hx hb dX12_newName_152 rfl (lv_at hl 0 rfl) ?_
          refine va_get (D := D) (ci := 12) (v := .ref (ad 6)) (C := RX12) (T := TX12) (N := 100) hx hb hg inX12 hown hK hP 0 rfl rfl 6 (by decide) (hg _ w1712) (fun _ h9 => h9) rfl dX12_newName_153 ?_
          refine lv_aload_n hx hb dX12_newName_156 rfl (lv_at hl 0 rfl) ?_
          refine va_get (D := D) (ci := 12) (v := .int (V45 0 7)) (C := RX12) (T := TX12) (N := 100) hx hb hg inX12 hown hK hP 0 rfl rfl 7 (by decide) (hg _ w1713) (fun _ h9 => h9) rfl dX12_newName_157 ?_
          refine g_top (v := z44) (up2_s hV45) ?_
          refine lv_iconst (v := 1) hx hb dX12_newName_160 (by decide) ?_
          refine lv_isub hx hb dX12_newName_161 ?_
          have r46 := i_full z44
          refine lv_topi (fun z47 ez47 => ?_)
          have hz47 : Imp (-2147483648 ≤ z44.toInt - 1 ∧ z44.toInt - 1 ≤ 2147483647) (z47.toInt = z44.toInt - 1) := Imp.mk (fun hp => i_sub ez47 rfl (by decide) hp)
          refine va_lald (D := D) (i := z47) hx hb hK hP 4 3 rfl rfl (i_in (a := z47.toInt) rfl (by first | exact om_cbafa6542cd5 x2 ((Imp.go x3 (f24)).1) ((Imp.go t19 (imp_a (rgz16.1) (rgz16.2) (f21))).2.2) ((Imp.go hz44 (om_053a02be3074 x2 ((Imp.go x3 (f24)).1) ((Imp.go t19 (imp_a (rgz16.1) (rgz16.2) (f21))).2.2)))) ((Imp.go hz47 (om_759f29c50e0d x2 ((Imp.go x3 (f24)).1) ((Imp.go t19 (imp_a (rgz16.1) (rgz16.2) (f21))).2.2) ((Imp.go hz44 (om_053a02be3074 x2 ((Imp.go x3 (f24)).1) ((Imp.go t19 (imp_a (rgz16.1) (rgz16.2) (f21))).2.2))))))) | first | omega | ((try (have i_t19 := Imp.go t19 (imp_a (rgz16.1) (rgz16.2) (f21)))); (try (have i_x3 := Imp.go x3 (i_t19.1))); omega) | ((try (have i_hz47 := Imp.go hz47 (by omega))); (try (have i_hz44 := Imp.go hz44 (by omega))); (try (have i_t19 := Imp.go t19 (by omega))); (try (have i_x3 := Imp.go x3 (by omega))); first | omega | ((try (have i_x3 := Imp.go x3 (by omega))); (try (have i_t19 := Imp.go t19 (by omega))); (try (have i_hz44 := Imp.go hz44 (by omega))); (try (have i_hz47 := Imp.go hz47 (by omega))); omega)))) dX12_newName_162 ?_
          refine lv_topl (fun w48 ew48 => ?_)
          have pq49 : (V45 0 7).toInt = z44.toInt := congrArg Int32.toInt (up2_s hV45)
          have pq50 : (V45 0 8).toInt = ((V40 0 8)).toInt := congrArg Int32.toInt (up2_k hV45 (by decide))
          exact W.lret (v := w48) hx hb hr (fun t ht hW => ⟨⟨w48, (V45, L), rfl, ⟨hMV45, agV45, rfl, (Imp.mk (fun hp => have hp : (V45 0 8).toInt = 0 := hp; (show 0 ≤ (V45 0 7).toInt ∧ (V45 0 7).toInt ≤ n ∧ (V 0 8).toInt = 0 ∧ (V 0 7).toInt ≤ (V45 0 7).toInt from by first | omega | ((try (have i_t19 := Imp.go t19 (imp_a (rgz16.1) (rgz16.2) (f21)))); (try (have i_x3 := Imp.go x3 (i_t19.1))); omega) | ((try (have i_hz47 := Imp.go hz47 (by omega))); (try (have i_hz44 := Imp.go hz44 (by omega))); (try (have i_t19 := Imp.go t19 (by omega))); (try (have i_x3 := Imp.go x3 (by omega))); first | omega | ((try (have i_x3 := Imp.go x3 (by omega))); (try (have i_t19 := Imp.go t19 (by omega))); (try (have i_hz44 := Imp.go hz44 (by omega))); (try (have i_hz47 := Imp.go hz47 (by omega))); omega))))), (Imp.mk (fun hp => have hp : (V45 0 8).toInt = 0 := hp; (show (V 0 7).toInt + 1 ≤ (V45 0 7).toInt from by first | omega | ((try (have i_t19 := Imp.go t19 (imp_a (rgz16.1) (rgz16.2) (f21)))); (try (have i_x3 := Imp.go x3 (i_t19.1))); omega) | ((try (have i_hz47 := Imp.go hz47 (by omega))); (try (have i_hz44 := Imp.go hz44 (by omega))); (try (have i_t19 := Imp.go t19 (by omega))); (try (have i_x3 := Imp.go x3 (by omega))); first | omega | ((try (have i_x3 := Imp.go x3 (by omega))); (try (have i_t19 := Imp.go t19 (by omega))); (try (have i_hz44 := Imp.go hz44 (by omega))); (try (have i_hz47 := Imp.go hz47 (by omega))); omega)))))⟩, by rw [ht]; exact hP, va_K.moved hW.alike hK, hD⟩, hS.F ht⟩) hS.2.2 dX12_newName_163
        · skip
          have f51 : z29.toInt < 0 := b_nle (by decide) rfl c33
          refine lv_aload_n hx hb dX12_newName_65 rfl (lv_at hl 0 rfl) ?_
          refine lv_aload_n hx hb dX12_newName_66 rfl (lv_at hl 0 rfl) ?_
          refine va_get (D := D) (ci := 12) (v := .ref (ad 17)) (C := RX12) (T := TX12) (N := 100) hx hb hg inX12 hown hK hP 0 rfl rfl 17 (by decide) (hg _ w1723) (fun _ h9 => h9) rfl dX12_newName_67 ?_
          refine lv_bipush (v := 12) hx hb dX12_newName_70 (by decide) ?_
          refine lv_aload_n hx hb dX12_newName_72 rfl (lv_at hl 0 rfl) ?_
          refine va_get (D := D) (ci := 12) (v := .int (V 0 12)) (C := RX12) (T := TX12) (N := 100) hx hb hg inX12 hown hK hP 0 rfl rfl 12 (by decide) (hg _ w1718) (fun _ h9 => h9) rfl dX12_newName_73 ?_
          refine lv_imul hx hb dX12_newName_76 ?_
          refine lv_topi (fun z52 ez52 => ?_)
          have hz52 : z52.toInt = 12 * ((V 0 12)).toInt := i_mul ez52 (by decide) rfl (by (first | exact om_630bd6ee60c3 r25.1 r25.2 | omega))
          refine lv_aload_n hx hb dX12_newName_77 rfl (lv_at hl 0 rfl) ?_
          refine va_get (D := D) (ci := 12) (v := .ref (ad 16)) (C := RX12) (T := TX12) (N := 100) hx hb hg inX12 hown hK hP 0 rfl rfl 16 (by decide) (hg _ w1722) (fun _ h9 => h9) rfl dX12_newName_78 ?_
          refine lv_aload_n hx hb dX12_newName_81 rfl (lv_at hl 0 rfl) ?_
          refine va_get (D := D) (ci := 12) (v := .int (V 0 12)) (C := RX12) (T := TX12) (N := 100) hx hb hg inX12 hown hK hP 0 rfl rfl 12 (by decide) (hg _ w1718) (fun _ h9 => h9) rfl dX12_newName_82 ?_
          refine va_iald (D := D) (i := (V 0 12)) hx hb hK hP 9 8 rfl rfl (i_in (a := ((V 0 12)).toInt) rfl (by first | exact om_8367a84723c7 r25.1 r25.2 | first | omega | ((try (have i_t19 := Imp.go t19 (by omega))); (try (have i_x3 := Imp.go x3 (by omega))); (try (have i_x3 := Imp.go x3 (by omega))); (try (have i_t19 := Imp.go t19 (by omega))); omega))) dX12_newName_85 ?_
          have r53 : 0 ≤ ((V 16 (Int32.toNatClampNeg (V 0 12)))).toInt ∧ ((V 16 (Int32.toNatClampNeg (V 0 12)))).toInt ≤ 12 := hMV 16 (Int32.toNatClampNeg (V 0 12))
          refine lv_aload_n hx hb dX12_newName_86 rfl (lv_at hl 0 rfl) ?_
          refine va_get (D := D) (ci := 12) (v := .ref (ad 6)) (C := RX12) (T := TX12) (N := 100) hx hb hg inX12 hown hK hP 0 rfl rfl 6 (by decide) (hg _ w1712) (fun _ h9 => h9) rfl dX12_newName_87 ?_
          refine lv_aload_n hx hb dX12_newName_90 rfl (lv_at hl 0 rfl) ?_
          refine va_get (D := D) (ci := 12) (v := .int (V 0 7)) (C := RX12) (T := TX12) (N := 100) hx hb hg inX12 hown hK hP 0 rfl rfl 7 (by decide) (hg _ w1713) (fun _ h9 => h9) rfl dX12_newName_91 ?_
          refine va_lald (D := D) (i := (V 0 7)) hx hb hK hP 4 3 rfl rfl (i_in (a := ((V 0 7)).toInt) rfl (by first | exact om_4d9bfa19b181 x2 ((Imp.go x3 (f24)).1) ((Imp.go t19 (imp_a (rgz16.1) (rgz16.2) (f21))).2.2) | first | omega | ((try (have i_t19 := Imp.go t19 (by omega))); (try (have i_x3 := Imp.go x3 (by omega))); (try (have i_x3 := Imp.go x3 (by omega))); (try (have i_t19 := Imp.go t19 (by omega))); omega))) dX12_newName_94 ?_
          refine lv_topl (fun w54 ew54 => ?_)
          refine gA_int (gA_runV (As := [.ref (ad 17), .int z52, .int (V 16 (Int32.toNatClampNeg (V 0 12))), .long w54]) (rest := []) (ci := 12) (q0 := 0) hx hb hml hown hg hP hD hK hS hA hnw hgk (s_find_settingName l D ks H.size ad kk V L z52 (V 16 (Int32.toNatClampNeg (V 0 12))) w54 hMV (by first | exact om_cbb4348e7513 r25.1 r25.2 hz52 | first | omega | ((try (have i_t19 := Imp.go t19 (by omega))); (try (have i_x3 := Imp.go x3 (by omega))); (try (have i_x3 := Imp.go x3 (by omega))); (try (have i_t19 := Imp.go t19 (by omega))); omega)) (by first | exact om_f5a2411b9512 r53.1 r53.2 | first | omega | ((try (have i_t19 := Imp.go t19 (by omega))); (try (have i_x3 := Imp.go x3 (by omega))); (try (have i_x3 := Imp.go x3 (by omega))); (try (have i_t19 := Imp.go t19 (by omega))); omega)) (show z52.toInt + ((V 16 (Int32.toNatClampNeg (V 0 12)))).toInt ≤ 24 from by first | exact om_789d02abd9c5 r25.2 hz52 r53.2 | first | omega | ((try (have i_t19 := Imp.go t19 (by omega))); (try (have i_x3 := Imp.go x3 (by omega))); (try (have i_x3 := Imp.go x3 (by omega))); (try (have i_t19 := Imp.go t19 (by omega))); omega))) w2047 w2049 w89 w172 w2050 rfl rfl hdV_yX12_find ⟨Nat.le_of_ble_eq_true rfl, Nat.le_of_ble_eq_true rfl⟩ rfl hl.1 rfl (Nat.le_of_ble_eq_true rfl) dX12_newName_95 ⟨Nat.le_of_ble_eq_true rfl, Nat.le_of_ble_eq_true rfl⟩) hP hD hK hS hA (fun z55 u56 H locs w57 hP hD hK hS => ?_)
          obtain ⟨rgz55, t58⟩ := w57
          replace rgz55 : (-1) ≤ z55.toInt ∧ z55.toInt ≤ 47 := rgz55
          replace t58 : z55.toInt < ((V 16 (Int32.toNatClampNeg (V 0 12)))).toInt := t58
          refine lv_if_ge (tgt := 137) hx hb dX12_newName_98 (by decide) (fun c59 => ?_) (fun c59 => ?_)
          · skip
            have f60 : 0 ≤ z55.toInt := b_le (by decide) rfl c59
            refine lv_aload_n hx hb dX12_newName_137 rfl (lv_at hl 0 rfl) ?_
            refine lv_iconst (v := 3) hx hb dX12_newName_138 (by decide) ?_
            have r61 : Int32.toInt 3 = 3 := by decide
            refine gA_void (gA_runV (As := [.int 3]) (rest := []) (ci := 12) (q0 := 0) hx hb hml hown hg hP hD hK hS hA hnw hgk (s_wrong l D ks H.size ad kk V L 3 (n) hMV (by decide) (show (V 4 (n)).toInt = 0 from by first | exact om_b66ba74381d5 x1 | first | omega | ((try (have i_t19 := Imp.go t19 (by omega))); (try (have i_x3 := Imp.go x3 (by omega))); (try (have i_x3 := Imp.go x3 (by omega))); (try (have i_t19 := Imp.go t19 (by omega))); omega)) (show (n) ≤ 4000 from by first | exact om_af64e361c991 x2 | first | omega | ((try (have i_t19 := Imp.go t19 (by omega))); (try (have i_x3 := Imp.go x3 (by omega))); (try (have i_x3 := Imp.go x3 (by omega))); (try (have i_t19 := Imp.go t19 (by omega))); omega)) (Imp.mk (fun hp => have hp : (V 0 8).toInt = 0 := hp; (show 0 ≤ (V 0 7).toInt ∧ (V 0 7).toInt ≤ (n) from by first | exact om_7a329117c856 ((Imp.go x3 (hp)).1) ((Imp.go t19 (imp_a (rgz16.1) (rgz16.2) (f21))).2.2) | first | omega | ((try (have i_t19 := Imp.go t19 (by omega))); (try (have i_x3 := Imp.go x3 (by omega))); (try (have i_x3 := Imp.go x3 (by omega))); (try (have i_t19 := Imp.go t19 (by omega))); omega))))) w2035 w2037 w86 w172 w2038 rfl rfl hdV_yX12_wrong ⟨Nat.le_of_ble_eq_true rfl, Nat.le_of_ble_eq_true rfl⟩ rfl hl.1 rfl (Nat.le_of_ble_eq_true rfl) dX12_newName_139 ⟨Nat.le_of_ble_eq_true rfl, Nat.le_of_ble_eq_true rfl⟩) hP hD hK hS hA (fun u63 H locs w64 hP hD hK hS => ?_)
            obtain ⟨V66, L67⟩ := u63
            obtain ⟨hMV66, ajV66, axL67, t65⟩ := w64
            have axL67 : L = L67 := Eq.symm axL67
            subst axL67
            replace hP : va_P D vwCl (mw ad kk ks.1 V66 L) H := hP
            replace hD : va_D A (mw ad kk ks.1 V66 L) := hD
            replace hMV66 : rgd bM V66 := hMV66
            replace ajV66 : agr [(0, 8)] [] V V66 := ajV66
            have agV66 : agr [(0, 7), (0, 8)] [] V V66 := agV.tr ajV66 (by decide) (by decide)
            replace t65 : 1 ≤ (V66 0 8).toInt := t65
            have r68 : 0 ≤ ((V66 0 8)).toInt ∧ ((V66 0 8)).toInt ≤ 70000 := hMV66 0 8
            refine lv_aload_n hx hb dX12_newName_142 rfl (lv_at hl 0 rfl) ?_
            refine lv_dup hx hb dX12_newName_143 rfl ?_
            refine va_get (D := D) (ci := 12) (v := .int (V66 0 7)) (C := RX12) (T := TX12) (N := 100) hx hb hg inX12 hown hK hP 0 rfl rfl 7 (by decide) (hg _ w1713) (fun _ h9 => h9) rfl dX12_newName_144 ?_
            refine g_top (v := (V 0 7)) (ajV66 0 7 rfl) ?_
            refine lv_iconst (v := 1) hx hb dX12_newName_147 (by decide) ?_
            refine lv_iadd hx hb dX12_newName_148 ?_
            have r69 := i_full (V 0 7)
            refine lv_topi (fun z70 ez70 => ?_)
            have hz70 : Imp (-2147483648 ≤ ((V 0 7)).toInt + 1 ∧ ((V 0 7)).toInt + 1 ≤ 2147483647) (z70.toInt = ((V 0 7)).toInt + 1) := Imp.mk (fun hp => i_add ez70 rfl (by decide) hp)
            refine va_put (D := D) (ci := 12) (v := .int z70) (ty := tyX12 7) (C := RX12) (T := TX12) (N := 100) hx hb hg inX12 tyX12 tyX12_ok nmX12 hown hK hP hD hS 0 rfl rfl 7 (by decide) (hg _ w1713) (fun _ h9 => h9) rfl (tyX12_ok 7 (by decide)) rfl rfl (Nat.le_of_ble_eq_true rfl) dX12_newName_149 (fun H locs hP hD hS => ?_)
            obtain ⟨V71, hV71⟩ : ∃ z, z = up2 V66 0 7 z70 := ⟨_, rfl⟩
            have hP : va_P D vwCl (mw ad kk ks.1 V71 L) H := by rw [hV71]; exact hP
            have hD : va_D A (mw ad kk ks.1 V71 L) := by rw [hV71]; exact hD
            have hMV71 : rgd bM V71 := hMV66.put hV71 (i_full _)
            have agV71 : agr [(0, 7), (0, 8)] [] V V71 := agV66.up hV71 rfl
            refine lv_aload_n hx hb dX12_newName_152 rfl (lv_at hl 0 rfl) ?_
            refine va_get (D := D) (ci := 12) (v := .ref (ad 6)) (C := RX12) (T := TX12) (N := 100) hx hb hg inX12 hown hK hP 0 rfl rfl 6 (by decide) (hg _ w1712) (fun _ h9 => h9) rfl dX12_newName_153 ?_
            refine lv_aload_n hx hb dX12_newName_156 rfl (lv_at hl 0 rfl) ?_
            refine va_get (D := D) (ci := 12) (v := .int (V71 0 7)) (C := RX12) (T := TX12) (N := 100) hx hb hg inX12 hown hK hP 0 rfl rfl 7 (by decide) (hg _ w1713) (fun _ h9 => h9) rfl dX12_newName_157 ?_
            refine g_top (v := z70) (up2_s hV71) ?_
            refine lv_iconst (v := 1) hx hb dX12_newName_160 (by decide) ?_
            refine lv_isub hx hb dX12_newName_161 ?_
            have r72 := i_full z70
            refine lv_topi (fun z73 ez73 => ?_)
            have hz73 : Imp (-2147483648 ≤ z70.toInt - 1 ∧ z70.toInt - 1 ≤ 2147483647) (z73.toInt = z70.toInt - 1) := Imp.mk (fun hp => i_sub ez73 rfl (by decide) hp)
            refine va_lald (D := D) (i := z73) hx hb hK hP 4 3 rfl rfl (i_in (a := z73.toInt) rfl (by first | exact om_cbafa6542cd5 x2 ((Imp.go x3 (f24)).1) ((Imp.go t19 (imp_a (rgz16.1) (rgz16.2) (f21))).2.2) ((Imp.go hz70 (om_053a02be3074 x2 ((Imp.go x3 (f24)).1) ((Imp.go t19 (imp_a (rgz16.1) (rgz16.2) (f21))).2.2)))) ((Imp.go hz73 (om_759f29c50e0d x2 ((Imp.go x3 (f24)).1) ((Imp.go t19 (imp_a (rgz16.1) (rgz16.2) (f21))).2.2) ((Imp.go hz70 (om_053a02be3074 x2 ((Imp.go x3 (f24)).1) ((Imp.go t19 (imp_a (rgz16.1) (rgz16.2) (f21))).2.2))))))) | first | omega | ((try (have i_t19 := Imp.go t19 (imp_a (rgz16.1) (rgz16.2) (f21)))); (try (have i_x3 := Imp.go x3 (i_t19.1))); omega) | ((try (have i_hz73 := Imp.go hz73 (by omega))); (try (have i_hz70 := Imp.go hz70 (by omega))); (try (have i_t19 := Imp.go t19 (by omega))); (try (have i_x3 := Imp.go x3 (by omega))); first | omega | ((try (have i_x3 := Imp.go x3 (by omega))); (try (have i_t19 := Imp.go t19 (by omega))); (try (have i_hz70 := Imp.go hz70 (by omega))); (try (have i_hz73 := Imp.go hz73 (by omega))); omega)))) dX12_newName_162 ?_
            refine lv_topl (fun w74 ew74 => ?_)
            have pq75 : (V71 0 7).toInt = z70.toInt := congrArg Int32.toInt (up2_s hV71)
            have pq76 : (V71 0 8).toInt = ((V66 0 8)).toInt := congrArg Int32.toInt (up2_k hV71 (by decide))
            exact W.lret (v := w74) hx hb hr (fun t ht hW => ⟨⟨w74, (V71, L), rfl, ⟨hMV71, agV71, rfl, (Imp.mk (fun hp => have hp : (V71 0 8).toInt = 0 := hp; (show 0 ≤ (V71 0 7).toInt ∧ (V71 0 7).toInt ≤ n ∧ (V 0 8).toInt = 0 ∧ (V 0 7).toInt ≤ (V71 0 7).toInt from by first | omega | ((try (have i_t19 := Imp.go t19 (imp_a (rgz16.1) (rgz16.2) (f21)))); (try (have i_x3 := Imp.go x3 (i_t19.1))); omega) | ((try (have i_hz73 := Imp.go hz73 (by omega))); (try (have i_hz70 := Imp.go hz70 (by omega))); (try (have i_t19 := Imp.go t19 (by omega))); (try (have i_x3 := Imp.go x3 (by omega))); first | omega | ((try (have i_x3 := Imp.go x3 (by omega))); (try (have i_t19 := Imp.go t19 (by omega))); (try (have i_hz70 := Imp.go hz70 (by omega))); (try (have i_hz73 := Imp.go hz73 (by omega))); omega))))), (Imp.mk (fun hp => have hp : (V71 0 8).toInt = 0 := hp; (show (V 0 7).toInt + 1 ≤ (V71 0 7).toInt from by first | omega | ((try (have i_t19 := Imp.go t19 (imp_a (rgz16.1) (rgz16.2) (f21)))); (try (have i_x3 := Imp.go x3 (i_t19.1))); omega) | ((try (have i_hz73 := Imp.go hz73 (by omega))); (try (have i_hz70 := Imp.go hz70 (by omega))); (try (have i_t19 := Imp.go t19 (by omega))); (try (have i_x3 := Imp.go x3 (by omega))); first | omega | ((try (have i_x3 := Imp.go x3 (by omega))); (try (have i_t19 := Imp.go t19 (by omega))); (try (have i_hz70 := Imp.go hz70 (by omega))); (try (have i_hz73 := Imp.go hz73 (by omega))); omega)))))⟩, by rw [ht]; exact hP, va_K.moved hW.alike hK, hD⟩, hS.F ht⟩) hS.2.2 dX12_newName_163
          · skip
            have f77 : z55.toInt < 0 := b_nle (by decide) rfl c59
            refine lv_aload_n hx hb dX12_newName_101 rfl (lv_at hl 0 rfl) ?_
            refine lv_aload_n hx hb dX12_newName_102 rfl (lv_at hl 0 rfl) ?_
            refine va_get (D := D) (ci := 12) (v := .ref (ad 20)) (C := RX12) (T := TX12) (N := 100) hx hb hg inX12 hown hK hP 0 rfl rfl 20 (by decide) (hg _ w1726) (fun _ h9 => h9) rfl dX12_newName_103 ?_
            refine lv_bipush (v := 24) hx hb dX12_newName_106 (by decide) ?_
            refine lv_aload_n hx hb dX12_newName_108 rfl (lv_at hl 0 rfl) ?_
            refine va_get (D := D) (ci := 12) (v := .int (V 0 12)) (C := RX12) (T := TX12) (N := 100) hx hb hg inX12 hown hK hP 0 rfl rfl 12 (by decide) (hg _ w1718) (fun _ h9 => h9) rfl dX12_newName_109 ?_
            refine lv_imul hx hb dX12_newName_112 ?_
            refine lv_topi (fun z78 ez78 => ?_)
            have hz78 : z78.toInt = 24 * ((V 0 12)).toInt := i_mul ez78 (by decide) rfl (by (first | exact om_3f8aba7b6ce1 r25.1 r25.2 | omega))
            refine lv_aload_n hx hb dX12_newName_113 rfl (lv_at hl 0 rfl) ?_
            refine va_get (D := D) (ci := 12) (v := .ref (ad 19)) (C := RX12) (T := TX12) (N := 100) hx hb hg inX12 hown hK hP 0 rfl rfl 19 (by decide) (hg _ w1725) (fun _ h9 => h9) rfl dX12_newName_114 ?_
            refine lv_aload_n hx hb dX12_newName_117 rfl (lv_at hl 0 rfl) ?_
            refine va_get (D := D) (ci := 12) (v := .int (V 0 12)) (C := RX12) (T := TX12) (N := 100) hx hb hg inX12 hown hK hP 0 rfl rfl 12 (by decide) (hg _ w1718) (fun _ h9 => h9) rfl dX12_newName_118 ?_
            refine va_iald (D := D) (i := (V 0 12)) hx hb hK hP 12 11 rfl rfl (i_in (a := ((V 0 12)).toInt) rfl (by first | exact om_8367a84723c7 r25.1 r25.2 | first | omega | ((try (have i_t19 := Imp.go t19 (by omega))); (try (have i_x3 := Imp.go x3 (by omega))); (try (have i_x3 := Imp.go x3 (by omega))); (try (have i_t19 := Imp.go t19 (by omega))); omega))) dX12_newName_121 ?_
            have r79 : 0 ≤ ((V 19 (Int32.toNatClampNeg (V 0 12)))).toInt ∧ ((V 19 (Int32.toNatClampNeg (V 0 12)))).toInt ≤ 24 := hMV 19 (Int32.toNatClampNeg (V 0 12))
            refine lv_aload_n hx hb dX12_newName_122 rfl (lv_at hl 0 rfl) ?_
            refine va_get (D := D) (ci := 12) (v := .ref (ad 6)) (C := RX12) (T := TX12) (N := 100) hx hb hg inX12 hown hK hP 0 rfl rfl 6 (by decide) (hg _ w1712) (fun _ h9 => h9) rfl dX12_newName_123 ?_
            refine lv_aload_n hx hb dX12_newName_126 rfl (lv_at hl 0 rfl) ?_
            refine va_get (D := D) (ci := 12) (v := .int (V 0 7)) (C := RX12) (T := TX12) (N := 100) hx hb hg inX12 hown hK hP 0 rfl rfl 7 (by decide) (hg _ w1713) (fun _ h9 => h9) rfl dX12_newName_127 ?_
            refine va_lald (D := D) (i := (V 0 7)) hx hb hK hP 4 3 rfl rfl (i_in (a := ((V 0 7)).toInt) rfl (by first | exact om_4d9bfa19b181 x2 ((Imp.go x3 (f24)).1) ((Imp.go t19 (imp_a (rgz16.1) (rgz16.2) (f21))).2.2) | first | omega | ((try (have i_t19 := Imp.go t19 (by omega))); (try (have i_x3 := Imp.go x3 (by omega))); (try (have i_x3 := Imp.go x3 (by omega))); (try (have i_t19 := Imp.go t19 (by omega))); omega))) dX12_newName_130 ?_
            refine lv_topl (fun w80 ew80 => ?_)
            refine gA_int (gA_runV (As := [.ref (ad 20), .int z78, .int (V 19 (Int32.toNatClampNeg (V 0 12))), .long w80]) (rest := []) (ci := 12) (q0 := 0) hx hb hml hown hg hP hD hK hS hA hnw hgk (s_find_componentName l D ks H.size ad kk V L z78 (V 19 (Int32.toNatClampNeg (V 0 12))) w80 hMV (by first | exact om_c44c09625d4d r25.1 r25.2 hz78 | first | omega | ((try (have i_t19 := Imp.go t19 (by omega))); (try (have i_x3 := Imp.go x3 (by omega))); (try (have i_x3 := Imp.go x3 (by omega))); (try (have i_t19 := Imp.go t19 (by omega))); omega)) (by first | exact om_f82fee59341f r79.1 r79.2 | first | omega | ((try (have i_t19 := Imp.go t19 (by omega))); (try (have i_x3 := Imp.go x3 (by omega))); (try (have i_x3 := Imp.go x3 (by omega))); (try (have i_t19 := Imp.go t19 (by omega))); omega)) (show z78.toInt + ((V 19 (Int32.toNatClampNeg (V 0 12)))).toInt ≤ 48 from by first | exact om_6f18d472129c r25.2 hz78 r79.2 | first | omega | ((try (have i_t19 := Imp.go t19 (by omega))); (try (have i_x3 := Imp.go x3 (by omega))); (try (have i_x3 := Imp.go x3 (by omega))); (try (have i_t19 := Imp.go t19 (by omega))); omega))) w2047 w2049 w89 w172 w2050 rfl rfl hdV_yX12_find ⟨Nat.le_of_ble_eq_true rfl, Nat.le_of_ble_eq_true rfl⟩ rfl hl.1 rfl (Nat.le_of_ble_eq_true rfl) dX12_newName_131 ⟨Nat.le_of_ble_eq_true rfl, Nat.le_of_ble_eq_true rfl⟩) hP hD hK hS hA (fun z81 u82 H locs w83 hP hD hK hS => ?_)
            obtain ⟨rgz81, t84⟩ := w83
            replace rgz81 : (-1) ≤ z81.toInt ∧ z81.toInt ≤ 47 := rgz81
            replace t84 : z81.toInt < ((V 19 (Int32.toNatClampNeg (V 0 12)))).toInt := t84
            refine lv_if_lt (tgt := 142) hx hb dX12_newName_134 (by decide) (fun c85 => ?_) (fun c85 => ?_)
            · skip
              have f86 : z81.toInt < 0 := b_lt rfl (by decide) c85
              refine lv_aload_n hx hb dX12_newName_142 rfl (lv_at hl 0 rfl) ?_
              refine lv_dup hx hb dX12_newName_143 rfl ?_
              refine va_get (D := D) (ci := 12) (v := .int (V 0 7)) (C := RX12) (T := TX12) (N := 100) hx hb hg inX12 hown hK hP 0 rfl rfl 7 (by decide) (hg _ w1713) (fun _ h9 => h9) rfl dX12_newName_144 ?_
              refine lv_iconst (v := 1) hx hb dX12_newName_147 (by decide) ?_
              refine lv_iadd hx hb dX12_newName_148 ?_
              have r87 := i_full (V 0 7)
              refine lv_topi (fun z88 ez88 => ?_)
              have hz88 : Imp (-2147483648 ≤ ((V 0 7)).toInt + 1 ∧ ((V 0 7)).toInt + 1 ≤ 2147483647) (z88.toInt = ((V 0 7)).toInt + 1) := Imp.mk (fun hp => i_add ez88 rfl (by decide) hp)
              refine va_put (D := D) (ci := 12) (v := .int z88) (ty := tyX12 7) (C := RX12) (T := TX12) (N := 100) hx hb hg inX12 tyX12 tyX12_ok nmX12 hown hK hP hD hS 0 rfl rfl 7 (by decide) (hg _ w1713) (fun _ h9 => h9) rfl (tyX12_ok 7 (by decide)) rfl rfl (Nat.le_of_ble_eq_true rfl) dX12_newName_149 (fun H locs hP hD hS => ?_)
              obtain ⟨V89, hV89⟩ : ∃ z, z = up2 V 0 7 z88 := ⟨_, rfl⟩
              have hP : va_P D vwCl (mw ad kk ks.1 V89 L) H := by rw [hV89]; exact hP
              have hD : va_D A (mw ad kk ks.1 V89 L) := by rw [hV89]; exact hD
              have hMV89 : rgd bM V89 := hMV.put hV89 (i_full _)
              have agV89 : agr [(0, 7), (0, 8)] [] V V89 := agV.up hV89 rfl
              refine lv_aload_n hx hb dX12_newName_152 rfl (lv_at hl 0 rfl) ?_
              refine va_get (D := D) (ci := 12) (v := .ref (ad 6)) (C := RX12) (T := TX12) (N := 100) hx hb hg inX12 hown hK hP 0 rfl rfl 6 (by decide) (hg _ w1712) (fun _ h9 => h9) rfl dX12_newName_153 ?_
              refine lv_aload_n hx hb dX12_newName_156 rfl (lv_at hl 0 rfl) ?_
              refine va_get (D := D) (ci := 12) (v := .int (V89 0 7)) (C := RX12) (T := TX12) (N := 100) hx hb hg inX12 hown hK hP 0 rfl rfl 7 (by decide) (hg _ w1713) (fun _ h9 => h9) rfl dX12_newName_157 ?_
              refine g_top (v := z88) (up2_s hV89) ?_
              refine lv_iconst (v := 1) hx hb dX12_newName_160 (by decide) ?_
              refine lv_isub hx hb dX12_newName_161 ?_
              have r90 := i_full z88
              refine lv_topi (fun z91 ez91 => ?_)
              have hz91 : Imp (-2147483648 ≤ z88.toInt - 1 ∧ z88.toInt - 1 ≤ 2147483647) (z91.toInt = z88.toInt - 1) := Imp.mk (fun hp => i_sub ez91 rfl (by decide) hp)
              refine va_lald (D := D) (i := z91) hx hb hK hP 4 3 rfl rfl (i_in (a := z91.toInt) rfl (by first | exact om_cbafa6542cd5 x2 ((Imp.go x3 (f24)).1) ((Imp.go t19 (imp_a (rgz16.1) (rgz16.2) (f21))).2.2) ((Imp.go hz88 (om_053a02be3074 x2 ((Imp.go x3 (f24)).1) ((Imp.go t19 (imp_a (rgz16.1) (rgz16.2) (f21))).2.2)))) ((Imp.go hz91 (om_759f29c50e0d x2 ((Imp.go x3 (f24)).1) ((Imp.go t19 (imp_a (rgz16.1) (rgz16.2) (f21))).2.2) ((Imp.go hz88 (om_053a02be3074 x2 ((Imp.go x3 (f24)).1) ((Imp.go t19 (imp_a (rgz16.1) (rgz16.2) (f21))).2.2))))))) | first | omega | ((try (have i_t19 := Imp.go t19 (imp_a (rgz16.1) (rgz16.2) (f21)))); (try (have i_x3 := Imp.go x3 (i_t19.1))); omega) | ((try (have i_hz91 := Imp.go hz91 (by omega))); (try (have i_hz88 := Imp.go hz88 (by omega))); (try (have i_t19 := Imp.go t19 (by omega))); (try (have i_x3 := Imp.go x3 (by omega))); first | omega | ((try (have i_x3 := Imp.go x3 (by omega))); (try (have i_t19 := Imp.go t19 (by omega))); (try (have i_hz88 := Imp.go hz88 (by omega))); (try (have i_hz91 := Imp.go hz91 (by omega))); omega)))) dX12_newName_162 ?_
              refine lv_topl (fun w92 ew92 => ?_)
              have pq93 : (V89 0 7).toInt = z88.toInt := congrArg Int32.toInt (up2_s hV89)
              have pq94 : (V89 0 8).toInt = ((V 0 8)).toInt := congrArg Int32.toInt (up2_k hV89 (by decide))
              exact W.lret (v := w92) hx hb hr (fun t ht hW => ⟨⟨w92, (V89, L), rfl, ⟨hMV89, agV89, rfl, (Imp.mk (fun hp => have hp : (V89 0 8).toInt = 0 := hp; (show 0 ≤ (V89 0 7).toInt ∧ (V89 0 7).toInt ≤ n ∧ (V 0 8).toInt = 0 ∧ (V 0 7).toInt ≤ (V89 0 7).toInt from by first | exact om_2c78f82442b9 y3 pq93 ((Imp.go x3 (f24)).1) ((Imp.go t19 (imp_a (rgz16.1) (rgz16.2) (f21))).2.2) ((Imp.go hz88 (om_053a02be3074 x2 ((Imp.go x3 (f24)).1) ((Imp.go t19 (imp_a (rgz16.1) (rgz16.2) (f21))).2.2)))) | first | omega | ((try (have i_t19 := Imp.go t19 (imp_a (rgz16.1) (rgz16.2) (f21)))); (try (have i_x3 := Imp.go x3 (i_t19.1))); omega) | ((try (have i_hz91 := Imp.go hz91 (by omega))); (try (have i_hz88 := Imp.go hz88 (by omega))); (try (have i_t19 := Imp.go t19 (by omega))); (try (have i_x3 := Imp.go x3 (by omega))); first | omega | ((try (have i_x3 := Imp.go x3 (by omega))); (try (have i_t19 := Imp.go t19 (by omega))); (try (have i_hz88 := Imp.go hz88 (by omega))); (try (have i_hz91 := Imp.go hz91 (by omega))); omega))))), (Imp.mk (fun hp => have hp : (V89 0 8).toInt = 0 := hp; (show (V 0 7).toInt + 1 ≤ (V89 0 7).toInt from by first | exact om_202eeafe7f37 pq93 ((Imp.go hz88 (om_053a02be3074 x2 ((Imp.go x3 (f24)).1) ((Imp.go t19 (imp_a (rgz16.1) (rgz16.2) (f21))).2.2)))) | first | omega | ((try (have i_t19 := Imp.go t19 (imp_a (rgz16.1) (rgz16.2) (f21)))); (try (have i_x3 := Imp.go x3 (i_t19.1))); omega) | ((try (have i_hz91 := Imp.go hz91 (by omega))); (try (have i_hz88 := Imp.go hz88 (by omega))); (try (have i_t19 := Imp.go t19 (by omega))); (try (have i_x3 := Imp.go x3 (by omega))); first | omega | ((try (have i_x3 := Imp.go x3 (by omega))); (try (have i_t19 := Imp.go t19 (by omega))); (try (have i_hz88 := Imp.go hz88 (by omega))); (try (have i_hz91 := Imp.go hz91 (by omega))); omega)))))⟩, by rw [ht]; exact hP, va_K.moved hW.alike hK, hD⟩, hS.F ht⟩) hS.2.2 dX12_newName_163
            · skip
              have f95 : 0 ≤ z81.toInt := b_nlt rfl (by decide) c85
              refine lv_aload_n hx hb dX12_newName_137 rfl (lv_at hl 0 rfl) ?_
              refine lv_iconst (v := 3) hx hb dX12_newName_138 (by decide) ?_
              have r96 : Int32.toInt 3 = 3 := by decide
              refine gA_void (gA_runV (As := [.int 3]) (rest := []) (ci := 12) (q0 := 0) hx hb hml hown hg hP hD hK hS hA hnw hgk (s_wrong l D ks H.size ad kk V L 3 (n) hMV (by decide) (show (V 4 (n)).toInt = 0 from by first | exact om_b66ba74381d5 x1 | first | omega | ((try (have i_t19 := Imp.go t19 (by omega))); (try (have i_x3 := Imp.go x3 (by omega))); (try (have i_x3 := Imp.go x3 (by omega))); (try (have i_t19 := Imp.go t19 (by omega))); omega)) (show (n) ≤ 4000 from by first | exact om_af64e361c991 x2 | first | omega | ((try (have i_t19 := Imp.go t19 (by omega))); (try (have i_x3 := Imp.go x3 (by omega))); (try (have i_x3 := Imp.go x3 (by omega))); (try (have i_t19 := Imp.go t19 (by omega))); omega)) (Imp.mk (fun hp => have hp : (V 0 8).toInt = 0 := hp; (show 0 ≤ (V 0 7).toInt ∧ (V 0 7).toInt ≤ (n) from by first | exact om_7a329117c856 ((Imp.go x3 (hp)).1) ((Imp.go t19 (imp_a (rgz16.1) (rgz16.2) (f21))).2.2) | first | omega | ((try (have i_t19 := Imp.go t19 (by omega))); (try (have i_x3 := Imp.go x3 (by omega))); (try (have i_x3 := Imp.go x3 (by omega))); (try (have i_t19 := Imp.go t19 (by omega))); omega))))) w2035 w2037 w86 w172 w2038 rfl rfl hdV_yX12_wrong ⟨Nat.le_of_ble_eq_true rfl, Nat.le_of_ble_eq_true rfl⟩ rfl hl.1 rfl (Nat.le_of_ble_eq_true rfl) dX12_newName_139 ⟨Nat.le_of_ble_eq_true rfl, Nat.le_of_ble_eq_true rfl⟩) hP hD hK hS hA (fun u98 H locs w99 hP hD hK hS => ?_)
              obtain ⟨V101, L102⟩ := u98
              obtain ⟨hMV101, ajV101, axL102, t100⟩ := w99
              have axL102 : L = L102 := Eq.symm axL102
              subst axL102
              replace hP : va_P D vwCl (mw ad kk ks.1 V101 L) H := hP
              replace hD : va_D A (mw ad kk ks.1 V101 L) := hD
              replace hMV101 : rgd bM V101 := hMV101
              replace ajV101 : agr [(0, 8)] [] V V101 := ajV101
              have agV101 : agr [(0, 7), (0, 8)] [] V V101 := agV.tr ajV101 (by decide) (by decide)
              replace t100 : 1 ≤ (V101 0 8).toInt := t100
              have r103 : 0 ≤ ((V101 0 8)).toInt ∧ ((V101 0 8)).toInt ≤ 70000 := hMV101 0 8
              refine lv_aload_n hx hb dX12_newName_142 rfl (lv_at hl 0 rfl) ?_
              refine lv_dup hx hb dX12_newName_143 rfl ?_
              refine va_get (D := D) (ci := 12) (v := .int (V101 0 7)) (C := RX12) (T := TX12) (N := 100) hx hb hg inX12 hown hK hP 0 rfl rfl 7 (by decide) (hg _ w1713) (fun _ h9 => h9) rfl dX12_newName_144 ?_
              refine g_top (v := (V 0 7)) (ajV101 0 7 rfl) ?_
              refine lv_iconst (v := 1) hx hb dX12_newName_147 (by decide) ?_
              refine lv_iadd hx hb dX12_newName_148 ?_
              have r104 := i_full (V 0 7)
              refine lv_topi (fun z105 ez105 => ?_)
              have hz105 : Imp (-2147483648 ≤ ((V 0 7)).toInt + 1 ∧ ((V 0 7)).toInt + 1 ≤ 2147483647) (z105.toInt = ((V 0 7)).toInt + 1) := Imp.mk (fun hp => i_add ez105 rfl (by decide) hp)
              refine va_put (D := D) (ci := 12) (v := .int z105) (ty := tyX12 7) (C := RX12) (T := TX12) (N := 100) hx hb hg inX12 tyX12 tyX12_ok nmX12 hown hK hP hD hS 0 rfl rfl 7 (by decide) (hg _ w1713) (fun _ h9 => h9) rfl (tyX12_ok 7 (by decide)) rfl rfl (Nat.le_of_ble_eq_true rfl) dX12_newName_149 (fun H locs hP hD hS => ?_)
              obtain ⟨V106, hV106⟩ : ∃ z, z = up2 V101 0 7 z105 := ⟨_, rfl⟩
              have hP : va_P D vwCl (mw ad kk ks.1 V106 L) H := by rw [hV106]; exact hP
              have hD : va_D A (mw ad kk ks.1 V106 L) := by rw [hV106]; exact hD
              have hMV106 : rgd bM V106 := hMV101.put hV106 (i_full _)
              have agV106 : agr [(0, 7), (0, 8)] [] V V106 := agV101.up hV106 rfl
              refine lv_aload_n hx hb dX12_newName_152 rfl (lv_at hl 0 rfl) ?_
              refine va_get (D := D) (ci := 12) (v := .ref (ad 6)) (C := RX12) (T := TX12) (N := 100) hx hb hg inX12 hown hK hP 0 rfl rfl 6 (by decide) (hg _ w1712) (fun _ h9 => h9) rfl dX12_newName_153 ?_
              refine lv_aload_n hx hb dX12_newName_156 rfl (lv_at hl 0 rfl) ?_
              refine va_get (D := D) (ci := 12) (v := .int (V106 0 7)) (C := RX12) (T := TX12) (N := 100) hx hb hg inX12 hown hK hP 0 rfl rfl 7 (by decide) (hg _ w1713) (fun _ h9 => h9) rfl dX12_newName_157 ?_
              refine g_top (v := z105) (up2_s hV106) ?_
              refine lv_iconst (v := 1) hx hb dX12_newName_160 (by decide) ?_
              refine lv_isub hx hb dX12_newName_161 ?_
              have r107 := i_full z105
              refine lv_topi (fun z108 ez108 => ?_)
              have hz108 : Imp (-2147483648 ≤ z105.toInt - 1 ∧ z105.toInt - 1 ≤ 2147483647) (z108.toInt = z105.toInt - 1) := Imp.mk (fun hp => i_sub ez108 rfl (by decide) hp)
              refine va_lald (D := D) (i := z108) hx hb hK hP 4 3 rfl rfl (i_in (a := z108.toInt) rfl (by first | exact om_cbafa6542cd5 x2 ((Imp.go x3 (f24)).1) ((Imp.go t19 (imp_a (rgz16.1) (rgz16.2) (f21))).2.2) ((Imp.go hz105 (om_053a02be3074 x2 ((Imp.go x3 (f24)).1) ((Imp.go t19 (imp_a (rgz16.1) (rgz16.2) (f21))).2.2)))) ((Imp.go hz108 (om_759f29c50e0d x2 ((Imp.go x3 (f24)).1) ((Imp.go t19 (imp_a (rgz16.1) (rgz16.2) (f21))).2.2) ((Imp.go hz105 (om_053a02be3074 x2 ((Imp.go x3 (f24)).1) ((Imp.go t19 (imp_a (rgz16.1) (rgz16.2) (f21))).2.2))))))) | first | omega | ((try (have i_t19 := Imp.go t19 (imp_a (rgz16.1) (rgz16.2) (f21)))); (try (have i_x3 := Imp.go x3 (i_t19.1))); omega) | ((try (have i_hz108 := Imp.go hz108 (by omega))); (try (have i_hz105 := Imp.go hz105 (by omega))); (try (have i_t19 := Imp.go t19 (by omega))); (try (have i_x3 := Imp.go x3 (by omega))); first | omega | ((try (have i_x3 := Imp.go x3 (by omega))); (try (have i_t19 := Imp.go t19 (by omega))); (try (have i_hz105 := Imp.go hz105 (by omega))); (try (have i_hz108 := Imp.go hz108 (by omega))); omega)))) dX12_newName_162 ?_
              refine lv_topl (fun w109 ew109 => ?_)
              have pq110 : (V106 0 7).toInt = z105.toInt := congrArg Int32.toInt (up2_s hV106)
              have pq111 : (V106 0 8).toInt = ((V101 0 8)).toInt := congrArg Int32.toInt (up2_k hV106 (by decide))
              exact W.lret (v := w109) hx hb hr (fun t ht hW => ⟨⟨w109, (V106, L), rfl, ⟨hMV106, agV106, rfl, (Imp.mk (fun hp => have hp : (V106 0 8).toInt = 0 := hp; (show 0 ≤ (V106 0 7).toInt ∧ (V106 0 7).toInt ≤ n ∧ (V 0 8).toInt = 0 ∧ (V 0 7).toInt ≤ (V106 0 7).toInt from by first | omega | ((try (have i_t19 := Imp.go t19 (imp_a (rgz16.1) (rgz16.2) (f21)))); (try (have i_x3 := Imp.go x3 (i_t19.1))); omega) | ((try (have i_hz108 := Imp.go hz108 (by omega))); (try (have i_hz105 := Imp.go hz105 (by omega))); (try (have i_t19 := Imp.go t19 (by omega))); (try (have i_x3 := Imp.go x3 (by omega))); first | omega | ((try (have i_x3 := Imp.go x3 (by omega))); (try (have i_t19 := Imp.go t19 (by omega))); (try (have i_hz105 := Imp.go hz105 (by omega))); (try (have i_hz108 := Imp.go hz108 (by omega))); omega))))), (Imp.mk (fun hp => have hp : (V106 0 8).toInt = 0 := hp; (show (V 0 7).toInt + 1 ≤ (V106 0 7).toInt from by first | omega | ((try (have i_t19 := Imp.go t19 (imp_a (rgz16.1) (rgz16.2) (f21)))); (try (have i_x3 := Imp.go x3 (i_t19.1))); omega) | ((try (have i_hz108 := Imp.go hz108 (by omega))); (try (have i_hz105 := Imp.go hz105 (by omega))); (try (have i_t19 := Imp.go t19 (by omega))); (try (have i_x3 := Imp.go x3 (by omega))); first | omega | ((try (have i_x3 := Imp.go x3 (by omega))); (try (have i_t19 := Imp.go t19 (by omega))); (try (have i_hz105 := Imp.go hz105 (by omega))); (try (have i_hz108 := Imp.go hz108 (by omega))); omega)))))⟩, by rw [ht]; exact hP, va_K.moved hW.alike hK, hD⟩, hS.F ht⟩) hS.2.2 dX12_newName_163
    · skip
      have f112 : z16.toInt = 0 := b_eq rfl (by decide) c20
      refine lv_aload_n hx hb dX12_newName_14 rfl (lv_at hl 0 rfl) ?_
      refine lv_iconst (v := 1) hx hb dX12_newName_15 (by decide) ?_
      have r113 : Int32.toInt 1 = 1 := by decide
      refine gA_void (gA_runV (As := [.int 1]) (rest := []) (ci := 12) (q0 := 0) hx hb hml hown hg hP hD hK hS hA hnw hgk (s_wrong l D ks H.size ad kk V L 1 (n) hMV (by decide) (show (V 4 (n)).toInt = 0 from by first | exact om_b66ba74381d5 x1 | first | omega | ((try (have i_t19 := Imp.go t19 (by omega))); (try (have i_x3 := Imp.go x3 (by omega))); (try (have i_x3 := Imp.go x3 (by omega))); (try (have i_t19 := Imp.go t19 (by omega))); omega)) (show (n) ≤ 4000 from by first | exact om_af64e361c991 x2 | first | omega | ((try (have i_t19 := Imp.go t19 (by omega))); (try (have i_x3 := Imp.go x3 (by omega))); (try (have i_x3 := Imp.go x3 (by omega))); (try (have i_t19 := Imp.go t19 (by omega))); omega)) (Imp.mk (fun hp => have hp : (V 0 8).toInt = 0 := hp; (show 0 ≤ (V 0 7).toInt ∧ (V 0 7).toInt ≤ (n) from by first | exact om_408b46baf51e ((Imp.go x3 (hp)).1) ((Imp.go x3 (hp)).2) | first | omega | ((try (have i_t19 := Imp.go t19 (by omega))); (try (have i_x3 := Imp.go x3 (by omega))); (try (have i_x3 := Imp.go x3 (by omega))); (try (have i_t19 := Imp.go t19 (by omega))); omega))))) w2035 w2037 w86 w172 w2038 rfl rfl hdV_yX12_wrong ⟨Nat.le_of_ble_eq_true rfl, Nat.le_of_ble_eq_true rfl⟩ rfl hl.1 rfl (Nat.le_of_ble_eq_true rfl) dX12_newName_16 ⟨Nat.le_of_ble_eq_true rfl, Nat.le_of_ble_eq_true rfl⟩) hP hD hK hS hA (fun u115 H locs w116 hP hD hK hS => ?_)
      obtain ⟨V118, L119⟩ := u115
      obtain ⟨hMV118, ajV118, axL119, t117⟩ := w116
      have axL119 : L = L119 := Eq.symm axL119
      subst axL119
      replace hP : va_P D vwCl (mw ad kk ks.1 V118 L) H := hP
      replace hD : va_D A (mw ad kk ks.1 V118 L) := hD
      replace hMV118 : rgd bM V118 := hMV118
      replace ajV118 : agr [(0, 8)] [] V V118 := ajV118
      have agV118 : agr [(0, 7), (0, 8)] [] V V118 := agV.tr ajV118 (by decide) (by decide)
      replace t117 : 1 ≤ (V118 0 8).toInt := t117
      have r120 : 0 ≤ ((V118 0 8)).toInt ∧ ((V118 0 8)).toInt ≤ 70000 := hMV118 0 8
      refine lv_goto (tgt := 142) hx hb dX12_newName_19 (by decide) ?_
      refine lv_aload_n hx hb dX12_newName_142 rfl (lv_at hl 0 rfl) ?_
      refine lv_dup hx hb dX12_newName_143 rfl ?_
      refine va_get (D := D) (ci := 12) (v := .int (V118 0 7)) (C := RX12) (T := TX12) (N := 100) hx hb hg inX12 hown hK hP 0 rfl rfl 7 (by decide) (hg _ w1713) (fun _ h9 => h9) rfl dX12_newName_144 ?_
      refine g_top (v := (V 0 7)) (ajV118 0 7 rfl) ?_
      refine lv_iconst (v := 1) hx hb dX12_newName_147 (by decide) ?_
      refine lv_iadd hx hb dX12_newName_148 ?_
      have r121 := i_full (V 0 7)
      refine lv_topi (fun z122 ez122 => ?_)
      have hz122 : Imp (-2147483648 ≤ ((V 0 7)).toInt + 1 ∧ ((V 0 7)).toInt + 1 ≤ 2147483647) (z122.toInt = ((V 0 7)).toInt + 1) := Imp.mk (fun hp => i_add ez122 rfl (by decide) hp)
      refine va_put (D := D) (ci := 12) (v := .int z122) (ty := tyX12 7) (C := RX12) (T := TX12) (N := 100) hx hb hg inX12 tyX12 tyX12_ok nmX12 hown hK hP hD hS 0 rfl rfl 7 (by decide) (hg _ w1713) (fun _ h9 => h9) rfl (tyX12_ok 7 (by decide)) rfl rfl (Nat.le_of_ble_eq_true rfl) dX12_newName_149 (fun H locs hP hD hS => ?_)
      obtain ⟨V123, hV123⟩ : ∃ z, z = up2 V118 0 7 z122 := ⟨_, rfl⟩
      have hP : va_P D vwCl (mw ad kk ks.1 V123 L) H := by rw [hV123]; exact hP
      have hD : va_D A (mw ad kk ks.1 V123 L) := by rw [hV123]; exact hD
      have hMV123 : rgd bM V123 := hMV118.put hV123 (i_full _)
      have agV123 : agr [(0, 7), (0, 8)] [] V V123 := agV118.up hV123 rfl
      refine lv_aload_n hx hb dX12_newName_152 rfl (lv_at hl 0 rfl) ?_
      refine va_get (D := D) (ci := 12) (v := .ref (ad 6)) (C := RX12) (T := TX12) (N := 100) hx hb hg inX12 hown hK hP 0 rfl rfl 6 (by decide) (hg _ w1712) (fun _ h9 => h9) rfl dX12_newName_153 ?_
      refine lv_aload_n hx hb dX12_newName_156 rfl (lv_at hl 0 rfl) ?_
      refine va_get (D := D) (ci := 12) (v := .int (V123 0 7)) (C := RX12) (T := TX12) (N := 100) hx hb hg inX12 hown hK hP 0 rfl rfl 7 (by decide) (hg _ w1713) (fun _ h9 => h9) rfl dX12_newName_157 ?_
      refine g_top (v := z122) (up2_s hV123) ?_
      refine lv_iconst (v := 1) hx hb dX12_newName_160 (by decide) ?_
      refine lv_isub hx hb dX12_newName_161 ?_
      have r124 := i_full z122
      refine lv_topi (fun z125 ez125 => ?_)
      have hz125 : Imp (-2147483648 ≤ z122.toInt - 1 ∧ z122.toInt - 1 ≤ 2147483647) (z125.toInt = z122.toInt - 1) := Imp.mk (fun hp => i_sub ez125 rfl (by decide) hp)
      refine va_lald (D := D) (i := z125) hx hb hK hP 4 3 rfl rfl (i_in (a := z125.toInt) rfl (by first | exact om_f576774a3891 x2 ((Imp.go x3 (f15)).1) ((Imp.go x3 (f15)).2) ((Imp.go hz122 (om_c1248e7f4c05 x2 ((Imp.go x3 (f15)).1) ((Imp.go x3 (f15)).2)))) ((Imp.go hz125 (om_5a951454ff8f x2 ((Imp.go x3 (f15)).1) ((Imp.go x3 (f15)).2) ((Imp.go hz122 (om_c1248e7f4c05 x2 ((Imp.go x3 (f15)).1) ((Imp.go x3 (f15)).2))))))) | first | omega | ((try (have i_x3 := Imp.go x3 (f15))); omega) | ((try (have i_hz125 := Imp.go hz125 (by omega))); (try (have i_hz122 := Imp.go hz122 (by omega))); (try (have i_t19 := Imp.go t19 (by omega))); (try (have i_x3 := Imp.go x3 (by omega))); first | omega | ((try (have i_x3 := Imp.go x3 (by omega))); (try (have i_t19 := Imp.go t19 (by omega))); (try (have i_hz122 := Imp.go hz122 (by omega))); (try (have i_hz125 := Imp.go hz125 (by omega))); omega)))) dX12_newName_162 ?_
      refine lv_topl (fun w126 ew126 => ?_)
      have pq127 : (V123 0 7).toInt = z122.toInt := congrArg Int32.toInt (up2_s hV123)
      have pq128 : (V123 0 8).toInt = ((V118 0 8)).toInt := congrArg Int32.toInt (up2_k hV123 (by decide))
      exact W.lret (v := w126) hx hb hr (fun t ht hW => ⟨⟨w126, (V123, L), rfl, ⟨hMV123, agV123, rfl, (Imp.mk (fun hp => have hp : (V123 0 8).toInt = 0 := hp; (show 0 ≤ (V123 0 7).toInt ∧ (V123 0 7).toInt ≤ n ∧ (V 0 8).toInt = 0 ∧ (V 0 7).toInt ≤ (V123 0 7).toInt from by first | omega | ((try (have i_x3 := Imp.go x3 (f15))); omega) | ((try (have i_hz125 := Imp.go hz125 (by omega))); (try (have i_hz122 := Imp.go hz122 (by omega))); (try (have i_t19 := Imp.go t19 (by omega))); (try (have i_x3 := Imp.go x3 (by omega))); first | omega | ((try (have i_x3 := Imp.go x3 (by omega))); (try (have i_t19 := Imp.go t19 (by omega))); (try (have i_hz122 := Imp.go hz122 (by omega))); (try (have i_hz125 := Imp.go hz125 (by omega))); omega))))), (Imp.mk (fun hp => have hp : (V123 0 8).toInt = 0 := hp; (show (V 0 7).toInt + 1 ≤ (V123 0 7).toInt from by first | omega | ((try (have i_x3 := Imp.go x3 (f15))); omega) | ((try (have i_hz125 := Imp.go hz125 (by omega))); (try (have i_hz122 := Imp.go hz122 (by omega))); (try (have i_t19 := Imp.go t19 (by omega))); (try (have i_x3 := Imp.go x3 (by omega))); first | omega | ((try (have i_x3 := Imp.go x3 (by omega))); (try (have i_t19 := Imp.go t19 (by omega))); (try (have i_hz122 := Imp.go hz122 (by omega))); (try (have i_hz125 := Imp.go hz125 (by omega))); omega)))))⟩, by rw [ht]; exact hP, va_K.moved hW.alike hK, hD⟩, hS.F ht⟩) hS.2.2 dX12_newName_163
abbrev r_s_named_typeName : Room := { frames := 1, cells := 0, slots := 0, locals := 27 }
abbrev q_s_named_typeName (D : va_G) (ks : KS) (ad : Nat → Nat) (kk : Nat → ClassId) (V : Vf) (L : Lf) (p1 : Int32) (p2 : Int32) (n : Nat) (A : Nat → Prop) : Array Value → State → Outcome → State → Prop := va_Qi (fun (r : Int32) (u : Vf × Lf) => rgd bM u.1 ∧ agr [(0, 7), (0, 8)] [] V u.1 ∧ u.2 = L ∧ ((-1) ≤ r.toInt ∧ r.toInt ≤ 47) ∧ (Imp ((u.1 0 8).toInt = 0) (0 ≤ (u.1 0 7).toInt ∧ (u.1 0 7).toInt ≤ n ∧ (V 0 8).toInt = 0 ∧ (V 0 7).toInt ≤ (u.1 0 7).toInt)) ∧ (r.toInt < p2.toInt) ∧ (Imp ((u.1 0 8).toInt = 0) (0 ≤ r.toInt)) ∧ (Imp ((u.1 0 8).toInt = 0) ((V 0 7).toInt + 1 ≤ (u.1 0 7).toInt))) (fun u t => gq D A (mw ad kk ks.1 u.1 u.2) (mty kk) t) A
set_option maxHeartbeats 4000000 in
set_option maxRecDepth 100000 in
theorem s_named_typeName (l : Launch) (D : va_G) (ks : KS) (sz : Nat) (ad : Nat → Nat) (kk : Nat → ClassId) (V : Vf) (L : Lf) (p1 : Int32) (p2 : Int32) (n : Nat) (hMV : rgd bM V) (rg_p1 : 0 ≤ p1.toInt ∧ p1.toInt ≤ 24) (rg_p2 : 0 ≤ p2.toInt ∧ p2.toInt ≤ 24) (x1 : (V 4 n).toInt = 0) (x2 : n ≤ 4000) (x3 : Imp ((V 0 8).toInt = 0) (0 ≤ (V 0 7).toInt ∧ (V 0 7).toInt ≤ n)) (y1 : p1.toInt + p2.toInt ≤ 48)  : Met l yX12_named (Cond.code yX12_named cX12_named 5 (some .int) :: GW) r_s_named_typeName (va_Pc [.ref (ad 0), .ref (ad 14), .int p1, .int p2] (gp D ks (mw ad kk ks.1 V L) (mty kk) sz)) (q_s_named_typeName D ks ad kk V L p1 p2 n (va_A (mw ad kk ks.1 V L) sz)) 0 0 (va_A (mw ad kk ks.1 V L) sz) := by
  refine g_met (q_s_named_typeName D ks ad kk V L p1 p2 n) (by decide) (Nat.le_of_ble_eq_true rfl) ?_
  intro p e s m below meth c A ls H locs hx hb hr hml hown hg hlocks hin hnw hgk hP hK hD hS hA hl
  replace hown : s.vm.findClass RX12 = some m.cls := hown
  replace hl : lv_has ls 5 [(0, .ref (ad 0)), (1, .ref (ad 14)), (2, .int p1), (3, .int p2)] := hl
  replace hP : va_P D vwCl (mw ad kk ks.1 V L) H := hP
  replace hD : va_D A (mw ad kk ks.1 V L) := hD
  replace hK : va_K D vwCl (mty kk) s := hK
  have agV : agr [(0, 7), (0, 8)] [] V V := agr.rf
  have r1 : 0 ≤ ((V 0 8)).toInt ∧ ((V 0 8)).toInt ≤ 70000 := hMV 0 8
  refine lv_aload_n hx hb dX12_named_0 rfl (lv_at hl 0 rfl) ?_
  refine va_get (D := D) (ci := 12) (v := .int (V 0 8)) (C := RX12) (T := TX12) (N := 100) hx hb hg inX12 hown hK hP 0 rfl rfl 8 (by decide) (hg _ w1714) (fun _ h9 => h9) rfl dX12_named_1 ?_
  refine lv_if_ne (tgt := 19) hx hb dX12_named_4 (by decide) (fun c2 => ?_) (fun c2 => ?_)
  · skip
    have f3 : ((V 0 8)).toInt ≠ 0 := b_neq rfl (by decide) c2
    refine lv_aload_n hx hb dX12_named_19 rfl (lv_at hl 0 rfl) ?_
    refine va_get (D := D) (ci := 12) (v := .int (V 0 8)) (C := RX12) (T := TX12) (N := 100) hx hb hg inX12 hown hK hP 0 rfl rfl 8 (by decide) (hg _ w1714) (fun _ h9 => h9) rfl dX12_named_20 ?_
    refine lv_if_ne (tgt := 45) hx hb dX12_named_23 (by decide) (fun c4 => ?_) (fun c4 => ?_)
    · skip
      have f5 : ((V 0 8)).toInt ≠ 0 := b_neq rfl (by decide) c4
      refine lv_iconst (v := (-1)) hx hb dX12_named_45 (by decide) ?_
      refine lv_istore (lv' := [(4, .int (-1)), (0, .ref (ad 0)), (1, .ref (ad 14)), (2, .int p1), (3, .int p2)]) hx hb dX12_named_46 hl (by decide) rfl (fun ls hl => ?_)
      refine lv_aload_n hx hb dX12_named_48 rfl (lv_at hl 1 rfl) ?_
      refine va_get (D := D) (ci := 12) (v := .int (V 0 8)) (C := RX12) (T := TX12) (N := 100) hx hb hg inX12 hown hK hP 0 rfl rfl 8 (by decide) (hg _ w1714) (fun _ h9 => h9) rfl dX12_named_49 ?_
      refine lv_if_ne (tgt := 65) hx hb dX12_named_52 (by decide) (fun c6 => ?_) (fun c6 => ?_)
      · skip
        have f7 : ((V 0 8)).toInt ≠ 0 := b_neq rfl (by decide) c6
        refine lv_aload_n hx hb dX12_named_65 rfl (lv_at hl 1 rfl) ?_
        refine lv_dup hx hb dX12_named_66 rfl ?_
        refine va_get (D := D) (ci := 12) (v := .int (V 0 7)) (C := RX12) (T := TX12) (N := 100) hx hb hg inX12 hown hK hP 0 rfl rfl 7 (by decide) (hg _ w1713) (fun _ h9 => h9) rfl dX12_named_67 ?_
        refine lv_iconst (v := 1) hx hb dX12_named_70 (by decide) ?_
        refine lv_iadd hx hb dX12_named_71 ?_
        have r8 := i_full (V 0 7)
        refine lv_topi (fun z9 ez9 => ?_)
        have hz9 : Imp (-2147483648 ≤ ((V 0 7)).toInt + 1 ∧ ((V 0 7)).toInt + 1 ≤ 2147483647) (z9.toInt = ((V 0 7)).toInt + 1) := Imp.mk (fun hp => i_add ez9 rfl (by decide) hp)
        refine va_put (D := D) (ci := 12) (v := .int z9) (ty := tyX12 7) (C := RX12) (T := TX12) (N := 100) hx hb hg inX12 tyX12 tyX12_ok nmX12 hown hK hP hD hS 0 rfl rfl 7 (by decide) (hg _ w1713) (fun _ h9 => h9) rfl (tyX12_ok 7 (by decide)) rfl rfl (Nat.le_of_ble_eq_true rfl) dX12_named_72 (fun H locs hP hD hS => ?_)
        obtain ⟨V10, hV10⟩ : ∃ z, z = up2 V 0 7 z9 := ⟨_, rfl⟩
        have hP : va_P D vwCl (mw ad kk ks.1 V10 L) H := by rw [hV10]; exact hP
        have hD : va_D A (mw ad kk ks.1 V10 L) := by rw [hV10]; exact hD
        have hMV10 : rgd bM V10 := hMV.put hV10 (i_full _)
        have agV10 : agr [(0, 7), (0, 8)] [] V V10 := agV.up hV10 rfl
        refine lv_iload hx hb dX12_named_75 (lv_at hl 0 rfl) ?_
        have pq11 : (V10 0 7).toInt = z9.toInt := congrArg Int32.toInt (up2_s hV10)
        have pq12 : (V10 0 8).toInt = ((V 0 8)).toInt := congrArg Int32.toInt (up2_k hV10 (by decide))
        exact W.iret (v := (-1)) hx hb hr (fun t ht hW => ⟨⟨(-1), (V10, L), rfl, ⟨hMV10, agV10, rfl, (by decide), (Imp.mk (fun hp => have hp : (V10 0 8).toInt = 0 := hp; (show 0 ≤ (V10 0 7).toInt ∧ (V10 0 7).toInt ≤ n ∧ (V 0 8).toInt = 0 ∧ (V 0 7).toInt ≤ (V10 0 7).toInt from by first | omega | ((try (have i_hz9 := Imp.go hz9 (by omega))); (try (have i_x3 := Imp.go x3 (by omega))); (try (have i_x3 := Imp.go x3 (by omega))); (try (have i_hz9 := Imp.go hz9 (by omega))); omega)))), (show (-1) < p2.toInt from by first | exact om_550cdc110816 rg_p2.1 | first | omega | ((try (have i_hz9 := Imp.go hz9 (by omega))); (try (have i_x3 := Imp.go x3 (by omega))); (try (have i_x3 := Imp.go x3 (by omega))); (try (have i_hz9 := Imp.go hz9 (by omega))); omega)), (Imp.mk (fun hp => have hp : (V10 0 8).toInt = 0 := hp; (show 0 ≤ (-1) from by first | omega | ((try (have i_hz9 := Imp.go hz9 (by omega))); (try (have i_x3 := Imp.go x3 (by omega))); (try (have i_x3 := Imp.go x3 (by omega))); (try (have i_hz9 := Imp.go hz9 (by omega))); omega)))), (Imp.mk (fun hp => have hp : (V10 0 8).toInt = 0 := hp; (show (V 0 7).toInt + 1 ≤ (V10 0 7).toInt from by first | omega | ((try (have i_hz9 := Imp.go hz9 (by omega))); (try (have i_x3 := Imp.go x3 (by omega))); (try (have i_x3 := Imp.go x3 (by omega))); (try (have i_hz9 := Imp.go hz9 (by omega))); omega))))⟩, by rw [ht]; exact hP, va_K.moved hW.alike hK, hD⟩, hS.F ht⟩) hS.2.2 dX12_named_77
      · skip
        have f13 : ((V 0 8)).toInt = 0 := b_eq rfl (by decide) c6
        exfalso; first | exact om_0abcda13baee r1.1 f3 f13 | first | omega | ((try (have i_x3 := Imp.go x3 (by omega))); omega)
    · skip
      have f14 : ((V 0 8)).toInt = 0 := b_eq rfl (by decide) c4
      exfalso; first | exact om_0abcda13baee r1.1 f3 f14 | first | omega | ((try (have i_x3 := Imp.go x3 (by omega))); omega)
  · skip
    have f15 : ((V 0 8)).toInt = 0 := b_eq rfl (by decide) c2
    refine lv_aload_n hx hb dX12_named_7 rfl (lv_at hl 0 rfl) ?_
    refine gA_int (gA_runV (As := []) (rest := []) (ci := 12) (q0 := 0) hx hb hml hown hg hP hD hK hS hA hnw hgk (s_isName l D ks H.size ad kk V L (n) hMV (show (V 4 (n)).toInt = 0 from by first | exact om_b66ba74381d5 x1 | first | omega | ((try (have i_x3 := Imp.go x3 (by omega))); omega)) (show (n) ≤ 4000 from by first | exact om_af64e361c991 x2 | first | omega | ((try (have i_x3 := Imp.go x3 (by omega))); omega)) (Imp.mk (fun hp => have hp : (V 0 8).toInt = 0 := hp; (show 0 ≤ (V 0 7).toInt ∧ (V 0 7).toInt ≤ (n) from by first | exact om_408b46baf51e ((Imp.go x3 (hp)).1) ((Imp.go x3 (hp)).2) | first | omega | ((try (have i_x3 := Imp.go x3 (by omega))); omega))))) w2043 w2045 w88 w172 w2046 rfl rfl hdV_yX12_isName ⟨Nat.le_of_ble_eq_true rfl, Nat.le_of_ble_eq_true rfl⟩ rfl hl.1 rfl (Nat.le_of_ble_eq_true rfl) dX12_named_8 ⟨Nat.le_of_ble_eq_true rfl, Nat.le_of_ble_eq_true rfl⟩) hP hD hK hS hA (fun z16 u17 H locs w18 hP hD hK hS => ?_)
    obtain ⟨rgz16, t19⟩ := w18
    replace rgz16 : 0 ≤ z16.toInt ∧ z16.toInt ≤ 1 := rgz16
    replace t19 : Imp (z16.toInt = 1) ((V 0 8).toInt = 0 ∧ 0 ≤ (V 0 7).toInt ∧ (V 0 7).toInt < (n)) := t19
    refine lv_if_ne (tgt := 19) hx hb dX12_named_11 (by decide) (fun c20 => ?_) (fun c20 => ?_)
    · skip
      have f21 : z16.toInt ≠ 0 := b_neq rfl (by decide) c20
      refine lv_aload_n hx hb dX12_named_19 rfl (lv_at hl 0 rfl) ?_
      refine va_get (D := D) (ci := 12) (v := .int (V 0 8)) (C := RX12) (T := TX12) (N := 100) hx hb hg inX12 hown hK hP 0 rfl rfl 8 (by decide) (hg _ w1714) (fun _ h9 => h9) rfl dX12_named_20 ?_
      refine lv_if_ne (tgt := 45) hx hb dX12_named_23 (by decide) (fun c22 => ?_) (fun c22 => ?_)
      · skip
        have f23 : ((V 0 8)).toInt ≠ 0 := b_neq rfl (by decide) c22
        exfalso; first | exact om_fb320d7600b7 r1.1 f15 f23 | first | omega | ((try (have i_t19 := Imp.go t19 (by omega))); (try (have i_x3 := Imp.go x3 (by omega))); (try (have i_x3 := Imp.go x3 (by omega))); (try (have i_t19 := Imp.go t19 (by omega))); omega)
      · skip
        have f24 : ((V 0 8)).toInt = 0 := b_eq rfl (by decide) c22
        refine lv_aload_n hx hb dX12_named_26 rfl (lv_at hl 0 rfl) ?_
        refine lv_aload_n hx hb dX12_named_27 rfl (lv_at hl 1 rfl) ?_
        refine lv_iload_n hx hb dX12_named_28 rfl (lv_at hl 2 rfl) ?_
        refine lv_iload_n hx hb dX12_named_29 rfl (lv_at hl 3 rfl) ?_
        refine lv_aload_n hx hb dX12_named_30 rfl (lv_at hl 0 rfl) ?_
        refine va_get (D := D) (ci := 12) (v := .ref (ad 6)) (C := RX12) (T := TX12) (N := 100) hx hb hg inX12 hown hK hP 0 rfl rfl 6 (by decide) (hg _ w1712) (fun _ h9 => h9) rfl dX12_named_31 ?_
        refine lv_aload_n hx hb dX12_named_34 rfl (lv_at hl 0 rfl) ?_
        refine va_get (D := D) (ci := 12) (v := .int (V 0 7)) (C := RX12) (T := TX12) (N := 100) hx hb hg inX12 hown hK hP 0 rfl rfl 7 (by decide) (hg _ w1713) (fun _ h9 => h9) rfl dX12_named_35 ?_
        refine va_lald (D := D) (i := (V 0 7)) hx hb hK hP 4 3 rfl rfl (i_in (a := ((V 0 7)).toInt) rfl (by first | exact om_4d9bfa19b181 x2 ((Imp.go x3 (f24)).1) ((Imp.go t19 (imp_a (rgz16.1) (rgz16.2) (f21))).2.2) | first | omega | ((try (have i_t19 := Imp.go t19 (by omega))); (try (have i_x3 := Imp.go x3 (by omega))); (try (have i_x3 := Imp.go x3 (by omega))); (try (have i_t19 := Imp.go t19 (by omega))); omega))) dX12_named_38 ?_
        refine lv_topl (fun w25 ew25 => ?_)
        refine gA_int (gA_runV (As := [.ref (ad 14), .int p1, .int p2, .long w25]) (rest := []) (ci := 12) (q0 := 0) hx hb hml hown hg hP hD hK hS hA hnw hgk (s_find_typeName l D ks H.size ad kk V L p1 p2 w25 hMV (by first | exact om_f82fee59341f rg_p1.1 rg_p1.2 | first | omega | ((try (have i_t19 := Imp.go t19 (by omega))); (try (have i_x3 := Imp.go x3 (by omega))); (try (have i_x3 := Imp.go x3 (by omega))); (try (have i_t19 := Imp.go t19 (by omega))); omega)) (by first | exact om_f82fee59341f rg_p2.1 rg_p2.2 | first | omega | ((try (have i_t19 := Imp.go t19 (by omega))); (try (have i_x3 := Imp.go x3 (by omega))); (try (have i_x3 := Imp.go x3 (by omega))); (try (have i_t19 := Imp.go t19 (by omega))); omega)) (show p1.toInt + p2.toInt ≤ 48 from by first | exact om_a32fe5cb4247 rg_p1.2 rg_p2.2 | first | omega | ((try (have i_t19 := Imp.go t19 (by omega))); (try (have i_x3 := Imp.go x3 (by omega))); (try (have i_x3 := Imp.go x3 (by omega))); (try (have i_t19 := Imp.go t19 (by omega))); omega))) w2047 w2049 w89 w172 w2050 rfl rfl hdV_yX12_find ⟨Nat.le_of_ble_eq_true rfl, Nat.le_of_ble_eq_true rfl⟩ rfl hl.1 rfl (Nat.le_of_ble_eq_true rfl) dX12_named_39 ⟨Nat.le_of_ble_eq_true rfl, Nat.le_of_ble_eq_true rfl⟩) hP hD hK hS hA (fun z26 u27 H locs w28 hP hD hK hS => ?_)
        obtain ⟨rgz26, t29⟩ := w28
        replace rgz26 : (-1) ≤ z26.toInt ∧ z26.toInt ≤ 47 := rgz26
        replace t29 : z26.toInt < p2.toInt := t29
        refine lv_goto (tgt := 46) hx hb dX12_named_42 (by decide) ?_
        refine lv_istore (lv' := [(4, .int z26), (0, .ref (ad 0)), (1, .ref (ad 14)), (2, .int p1), (3, .int p2)]) hx hb dX12_named_46 hl (by decide) rfl (fun ls hl => ?_)
        refine lv_aload_n hx hb dX12_named_48 rfl (lv_at hl 1 rfl) ?_
        refine va_get (D := D) (ci := 12) (v := .int (V 0 8)) (C := RX12) (T := TX12) (N := 100) hx hb hg inX12 hown hK hP 0 rfl rfl 8 (by decide) (hg _ w1714) (fun _ h9 => h9) rfl dX12_named_49 ?_
        refine lv_if_ne (tgt := 65) hx hb dX12_named_52 (by decide) (fun c30 => ?_) (fun c30 => ?_)
        · skip
          have f31 : ((V 0 8)).toInt ≠ 0 := b_neq rfl (by decide) c30
          exfalso; first | exact om_fb320d7600b7 r1.1 f15 f31 | first | omega | ((try (have i_t19 := Imp.go t19 (by omega))); (try (have i_x3 := Imp.go x3 (by omega))); (try (have i_x3 := Imp.go x3 (by omega))); (try (have i_t19 := Imp.go t19 (by omega))); omega)
        · skip
          have f32 : ((V 0 8)).toInt = 0 := b_eq rfl (by decide) c30
          refine lv_iload hx hb dX12_named_55 (lv_at hl 0 rfl) ?_
          refine lv_if_ge (tgt := 65) hx hb dX12_named_57 (by decide) (fun c33 => ?_) (fun c33 => ?_)
          · skip
            have f34 : 0 ≤ z26.toInt := b_le (by decide) rfl c33
            refine lv_aload_n hx hb dX12_named_65 rfl (lv_at hl 1 rfl) ?_
            refine lv_dup hx hb dX12_named_66 rfl ?_
            refine va_get (D := D) (ci := 12) (v := .int (V 0 7)) (C := RX12) (T := TX12) (N := 100) hx hb hg inX12 hown hK hP 0 rfl rfl 7 (by decide) (hg _ w1713) (fun _ h9 => h9) rfl dX12_named_67 ?_
            refine lv_iconst (v := 1) hx hb dX12_named_70 (by decide) ?_
            refine lv_iadd hx hb dX12_named_71 ?_
            have r35 := i_full (V 0 7)
            refine lv_topi (fun z36 ez36 => ?_)
            have hz36 : Imp (-2147483648 ≤ ((V 0 7)).toInt + 1 ∧ ((V 0 7)).toInt + 1 ≤ 2147483647) (z36.toInt = ((V 0 7)).toInt + 1) := Imp.mk (fun hp => i_add ez36 rfl (by decide) hp)
            refine va_put (D := D) (ci := 12) (v := .int z36) (ty := tyX12 7) (C := RX12) (T := TX12) (N := 100) hx hb hg inX12 tyX12 tyX12_ok nmX12 hown hK hP hD hS 0 rfl rfl 7 (by decide) (hg _ w1713) (fun _ h9 => h9) rfl (tyX12_ok 7 (by decide)) rfl rfl (Nat.le_of_ble_eq_true rfl) dX12_named_72 (fun H locs hP hD hS => ?_)
            obtain ⟨V37, hV37⟩ : ∃ z, z = up2 V 0 7 z36 := ⟨_, rfl⟩
            have hP : va_P D vwCl (mw ad kk ks.1 V37 L) H := by rw [hV37]; exact hP
            have hD : va_D A (mw ad kk ks.1 V37 L) := by rw [hV37]; exact hD
            have hMV37 : rgd bM V37 := hMV.put hV37 (i_full _)
            have agV37 : agr [(0, 7), (0, 8)] [] V V37 := agV.up hV37 rfl
            refine lv_iload hx hb dX12_named_75 (lv_at hl 0 rfl) ?_
            have pq38 : (V37 0 7).toInt = z36.toInt := congrArg Int32.toInt (up2_s hV37)
            have pq39 : (V37 0 8).toInt = ((V 0 8)).toInt := congrArg Int32.toInt (up2_k hV37 (by decide))
            exact W.iret (v := z26) hx hb hr (fun t ht hW => ⟨⟨z26, (V37, L), rfl, ⟨hMV37, agV37, rfl, (show (-1) ≤ z26.toInt ∧ z26.toInt ≤ 47 from by first | exact om_f6f243504409 rg_p2.2 t29 f34 | first | omega | ((try (have i_hz36 := Imp.go hz36 (by omega))); (try (have i_t19 := Imp.go t19 (by omega))); (try (have i_x3 := Imp.go x3 (by omega))); (try (have i_x3 := Imp.go x3 (by omega))); (try (have i_t19 := Imp.go t19 (by omega))); (try (have i_hz36 := Imp.go hz36 (by omega))); omega)), (Imp.mk (fun hp => have hp : (V37 0 8).toInt = 0 := hp; (show 0 ≤ (V37 0 7).toInt ∧ (V37 0 7).toInt ≤ n ∧ (V 0 8).toInt = 0 ∧ (V 0 7).toInt ≤ (V37 0 7).toInt from by first | exact om_b7d372ddba67 r1.1 f15 pq38 ((Imp.go x3 (f32)).1) ((Imp.go t19 (imp_a (rgz16.1) (rgz16.2) (f21))).2.2) ((Imp.go hz36 (om_053a02be3074 x2 ((Imp.go x3 (f32)).1) ((Imp.go t19 (imp_a (rgz16.1) (rgz16.2) (f21))).2.2)))) | first | omega | ((try (have i_hz36 := Imp.go hz36 (by omega))); (try (have i_t19 := Imp.go t19 (by omega))); (try (have i_x3 := Imp.go x3 (by omega))); (try (have i_x3 := Imp.go x3 (by omega))); (try (have i_t19 := Imp.go t19 (by omega))); (try (have i_hz36 := Imp.go hz36 (by omega))); omega)))), (show z26.toInt < p2.toInt from by first | exact om_0e9116797efb t29 | first | omega | ((try (have i_hz36 := Imp.go hz36 (by omega))); (try (have i_t19 := Imp.go t19 (by omega))); (try (have i_x3 := Imp.go x3 (by omega))); (try (have i_x3 := Imp.go x3 (by omega))); (try (have i_t19 := Imp.go t19 (by omega))); (try (have i_hz36 := Imp.go hz36 (by omega))); omega)), (Imp.mk (fun hp => have hp : (V37 0 8).toInt = 0 := hp; (show 0 ≤ z26.toInt from by first | exact om_eafa9039069c f34 | first | omega | ((try (have i_hz36 := Imp.go hz36 (by omega))); (try (have i_t19 := Imp.go t19 (by omega))); (try (have i_x3 := Imp.go x3 (by omega))); (try (have i_x3 := Imp.go x3 (by omega))); (try (have i_t19 := Imp.go t19 (by omega))); (try (have i_hz36 := Imp.go hz36 (by omega))); omega)))), (Imp.mk (fun hp => have hp : (V37 0 8).toInt = 0 := hp; (show (V 0 7).toInt + 1 ≤ (V37 0 7).toInt from by first | exact om_202eeafe7f37 pq38 ((Imp.go hz36 (om_053a02be3074 x2 ((Imp.go x3 (f32)).1) ((Imp.go t19 (imp_a (rgz16.1) (rgz16.2) (f21))).2.2)))) | first | omega | ((try (have i_hz36 := Imp.go hz36 (by omega))); (try (have i_t19 := Imp.go t19 (by omega))); (try (have i_x3 := Imp.go x3 (by omega))); (try (have i_x3 := Imp.go x3 (by omega))); (try (have i_t19 := Imp.go t19 (by omega))); (try (have i_hz36 := Imp.go hz36 (by omega))); omega))))⟩, by rw [ht]; exact hP, va_K.moved hW.alike hK, hD⟩, hS.F ht⟩) hS.2.2 dX12_named_77
          · skip
            have f40 : z26.toInt < 0 := b_nle (by decide) rfl c33
            refine lv_aload_n hx hb dX12_named_60 rfl (lv_at hl 1 rfl) ?_
            refine lv_iconst (v := 2) hx hb dX12_named_61 (by decide) ?_
            have r41 : Int32.toInt 2 = 2 := by decide
            refine gA_void (gA_runV (As := [.int 2]) (rest := []) (ci := 12) (q0 := 0) hx hb hml hown hg hP hD hK hS hA hnw hgk (s_wrong l D ks H.size ad kk V L 2 (n) hMV (by decide) (show (V 4 (n)).toInt = 0 from by first | exact om_b66ba74381d5 x1 | first | omega | ((try (have i_t19 := Imp.go t19 (by omega))); (try (have i_x3 := Imp.go x3 (by omega))); (try (have i_x3 := Imp.go x3 (by omega))); (try (have i_t19 := Imp.go t19 (by omega))); omega)) (show (n) ≤ 4000 from by first | exact om_af64e361c991 x2 | first | omega | ((try (have i_t19 := Imp.go t19 (by omega))); (try (have i_x3 := Imp.go x3 (by omega))); (try (have i_x3 := Imp.go x3 (by omega))); (try (have i_t19 := Imp.go t19 (by omega))); omega)) (Imp.mk (fun hp => have hp : (V 0 8).toInt = 0 := hp; (show 0 ≤ (V 0 7).toInt ∧ (V 0 7).toInt ≤ (n) from by first | exact om_7a329117c856 ((Imp.go x3 (hp)).1) ((Imp.go t19 (imp_a (rgz16.1) (rgz16.2) (f21))).2.2) | first | omega | ((try (have i_t19 := Imp.go t19 (by omega))); (try (have i_x3 := Imp.go x3 (by omega))); (try (have i_x3 := Imp.go x3 (by omega))); (try (have i_t19 := Imp.go t19 (by omega))); omega))))) w2035 w2037 w86 w172 w2038 rfl rfl hdV_yX12_wrong ⟨Nat.le_of_ble_eq_true rfl, Nat.le_of_ble_eq_true rfl⟩ rfl hl.1 rfl (Nat.le_of_ble_eq_true rfl) dX12_named_62 ⟨Nat.le_of_ble_eq_true rfl, Nat.le_of_ble_eq_true rfl⟩) hP hD hK hS hA (fun u43 H locs w44 hP hD hK hS => ?_)
            obtain ⟨V46, L47⟩ := u43
            obtain ⟨hMV46, ajV46, axL47, t45⟩ := w44
            have axL47 : L = L47 := Eq.symm axL47
            subst axL47
            replace hP : va_P D vwCl (mw ad kk ks.1 V46 L) H := hP
            replace hD : va_D A (mw ad kk ks.1 V46 L) := hD
            replace hMV46 : rgd bM V46 := hMV46
            replace ajV46 : agr [(0, 8)] [] V V46 := ajV46
            have agV46 : agr [(0, 7), (0, 8)] [] V V46 := agV.tr ajV46 (by decide) (by decide)
            replace t45 : 1 ≤ (V46 0 8).toInt := t45
            have r48 : 0 ≤ ((V46 0 8)).toInt ∧ ((V46 0 8)).toInt ≤ 70000 := hMV46 0 8
            refine lv_aload_n hx hb dX12_named_65 rfl (lv_at hl 1 rfl) ?_
            refine lv_dup hx hb dX12_named_66 rfl ?_
            refine va_get (D := D) (ci := 12) (v := .int (V46 0 7)) (C := RX12) (T := TX12) (N := 100) hx hb hg inX12 hown hK hP 0 rfl rfl 7 (by decide) (hg _ w1713) (fun _ h9 => h9) rfl dX12_named_67 ?_
            refine g_top (v := (V 0 7)) (ajV46 0 7 rfl) ?_
            refine lv_iconst (v := 1) hx hb dX12_named_70 (by decide) ?_
            refine lv_iadd hx hb dX12_named_71 ?_
            have r49 := i_full (V 0 7)
            refine lv_topi (fun z50 ez50 => ?_)
            have hz50 : Imp (-2147483648 ≤ ((V 0 7)).toInt + 1 ∧ ((V 0 7)).toInt + 1 ≤ 2147483647) (z50.toInt = ((V 0 7)).toInt + 1) := Imp.mk (fun hp => i_add ez50 rfl (by decide) hp)
            refine va_put (D := D) (ci := 12) (v := .int z50) (ty := tyX12 7) (C := RX12) (T := TX12) (N := 100) hx hb hg inX12 tyX12 tyX12_ok nmX12 hown hK hP hD hS 0 rfl rfl 7 (by decide) (hg _ w1713) (fun _ h9 => h9) rfl (tyX12_ok 7 (by decide)) rfl rfl (Nat.le_of_ble_eq_true rfl) dX12_named_72 (fun H locs hP hD hS => ?_)
            obtain ⟨V51, hV51⟩ : ∃ z, z = up2 V46 0 7 z50 := ⟨_, rfl⟩
            have hP : va_P D vwCl (mw ad kk ks.1 V51 L) H := by rw [hV51]; exact hP
            have hD : va_D A (mw ad kk ks.1 V51 L) := by rw [hV51]; exact hD
            have hMV51 : rgd bM V51 := hMV46.put hV51 (i_full _)
            have agV51 : agr [(0, 7), (0, 8)] [] V V51 := agV46.up hV51 rfl
            refine lv_iload hx hb dX12_named_75 (lv_at hl 0 rfl) ?_
            have pq52 : (V51 0 7).toInt = z50.toInt := congrArg Int32.toInt (up2_s hV51)
            have pq53 : (V51 0 8).toInt = ((V46 0 8)).toInt := congrArg Int32.toInt (up2_k hV51 (by decide))
            exact W.iret (v := z26) hx hb hr (fun t ht hW => ⟨⟨z26, (V51, L), rfl, ⟨hMV51, agV51, rfl, (show (-1) ≤ z26.toInt ∧ z26.toInt ≤ 47 from by first | exact om_ad2789741d59 rgz26.1 f40 | first | omega | ((try (have i_hz50 := Imp.go hz50 (by omega))); (try (have i_t19 := Imp.go t19 (by omega))); (try (have i_x3 := Imp.go x3 (by omega))); (try (have i_x3 := Imp.go x3 (by omega))); (try (have i_t19 := Imp.go t19 (by omega))); (try (have i_hz50 := Imp.go hz50 (by omega))); omega)), (Imp.mk (fun hp => have hp : (V51 0 8).toInt = 0 := hp; (show 0 ≤ (V51 0 7).toInt ∧ (V51 0 7).toInt ≤ n ∧ (V 0 8).toInt = 0 ∧ (V 0 7).toInt ≤ (V51 0 7).toInt from by first | omega | ((try (have i_hz50 := Imp.go hz50 (by omega))); (try (have i_t19 := Imp.go t19 (by omega))); (try (have i_x3 := Imp.go x3 (by omega))); (try (have i_x3 := Imp.go x3 (by omega))); (try (have i_t19 := Imp.go t19 (by omega))); (try (have i_hz50 := Imp.go hz50 (by omega))); omega)))), (show z26.toInt < p2.toInt from by first | exact om_8ee6a8695b20 rg_p2.1 f40 | first | omega | ((try (have i_hz50 := Imp.go hz50 (by omega))); (try (have i_t19 := Imp.go t19 (by omega))); (try (have i_x3 := Imp.go x3 (by omega))); (try (have i_x3 := Imp.go x3 (by omega))); (try (have i_t19 := Imp.go t19 (by omega))); (try (have i_hz50 := Imp.go hz50 (by omega))); omega)), (Imp.mk (fun hp => have hp : (V51 0 8).toInt = 0 := hp; (show 0 ≤ z26.toInt from by first | omega | ((try (have i_hz50 := Imp.go hz50 (by omega))); (try (have i_t19 := Imp.go t19 (by omega))); (try (have i_x3 := Imp.go x3 (by omega))); (try (have i_x3 := Imp.go x3 (by omega))); (try (have i_t19 := Imp.go t19 (by omega))); (try (have i_hz50 := Imp.go hz50 (by omega))); omega)))), (Imp.mk (fun hp => have hp : (V51 0 8).toInt = 0 := hp; (show (V 0 7).toInt + 1 ≤ (V51 0 7).toInt from by first | omega | ((try (have i_hz50 := Imp.go hz50 (by omega))); (try (have i_t19 := Imp.go t19 (by omega))); (try (have i_x3 := Imp.go x3 (by omega))); (try (have i_x3 := Imp.go x3 (by omega))); (try (have i_t19 := Imp.go t19 (by omega))); (try (have i_hz50 := Imp.go hz50 (by omega))); omega))))⟩, by rw [ht]; exact hP, va_K.moved hW.alike hK, hD⟩, hS.F ht⟩) hS.2.2 dX12_named_77
    · skip
      have f54 : z16.toInt = 0 := b_eq rfl (by decide) c20
      refine lv_aload_n hx hb dX12_named_14 rfl (lv_at hl 0 rfl) ?_
      refine lv_iconst (v := 1) hx hb dX12_named_15 (by decide) ?_
      have r55 : Int32.toInt 1 = 1 := by decide
      refine gA_void (gA_runV (As := [.int 1]) (rest := []) (ci := 12) (q0 := 0) hx hb hml hown hg hP hD hK hS hA hnw hgk (s_wrong l D ks H.size ad kk V L 1 (n) hMV (by decide) (show (V 4 (n)).toInt = 0 from by first | exact om_b66ba74381d5 x1 | first | omega | ((try (have i_t19 := Imp.go t19 (by omega))); (try (have i_x3 := Imp.go x3 (by omega))); (try (have i_x3 := Imp.go x3 (by omega))); (try (have i_t19 := Imp.go t19 (by omega))); omega)) (show (n) ≤ 4000 from by first | exact om_af64e361c991 x2 | first | omega | ((try (have i_t19 := Imp.go t19 (by omega))); (try (have i_x3 := Imp.go x3 (by omega))); (try (have i_x3 := Imp.go x3 (by omega))); (try (have i_t19 := Imp.go t19 (by omega))); omega)) (Imp.mk (fun hp => have hp : (V 0 8).toInt = 0 := hp; (show 0 ≤ (V 0 7).toInt ∧ (V 0 7).toInt ≤ (n) from by first | exact om_408b46baf51e ((Imp.go x3 (hp)).1) ((Imp.go x3 (hp)).2) | first | omega | ((try (have i_t19 := Imp.go t19 (by omega))); (try (have i_x3 := Imp.go x3 (by omega))); (try (have i_x3 := Imp.go x3 (by omega))); (try (have i_t19 := Imp.go t19 (by omega))); omega))))) w2035 w2037 w86 w172 w2038 rfl rfl hdV_yX12_wrong ⟨Nat.le_of_ble_eq_true rfl, Nat.le_of_ble_eq_true rfl⟩ rfl hl.1 rfl (Nat.le_of_ble_eq_true rfl) dX12_named_16 ⟨Nat.le_of_ble_eq_true rfl, Nat.le_of_ble_eq_true rfl⟩) hP hD hK hS hA (fun u57 H locs w58 hP hD hK hS => ?_)
      obtain ⟨V60, L61⟩ := u57
      obtain ⟨hMV60, ajV60, axL61, t59⟩ := w58
      have axL61 : L = L61 := Eq.symm axL61
      subst axL61
      replace hP : va_P D vwCl (mw ad kk ks.1 V60 L) H := hP
      replace hD : va_D A (mw ad kk ks.1 V60 L) := hD
      replace hMV60 : rgd bM V60 := hMV60
      replace ajV60 : agr [(0, 8)] [] V V60 := ajV60
      have agV60 : agr [(0, 7), (0, 8)] [] V V60 := agV.tr ajV60 (by decide) (by decide)
      replace t59 : 1 ≤ (V60 0 8).toInt := t59
      have r62 : 0 ≤ ((V60 0 8)).toInt ∧ ((V60 0 8)).toInt ≤ 70000 := hMV60 0 8
      refine lv_aload_n hx hb dX12_named_19 rfl (lv_at hl 0 rfl) ?_
      refine va_get (D := D) (ci := 12) (v := .int (V60 0 8)) (C := RX12) (T := TX12) (N := 100) hx hb hg inX12 hown hK hP 0 rfl rfl 8 (by decide) (hg _ w1714) (fun _ h9 => h9) rfl dX12_named_20 ?_
      refine lv_if_ne (tgt := 45) hx hb dX12_named_23 (by decide) (fun c63 => ?_) (fun c63 => ?_)
      · skip
        have f64 : ((V60 0 8)).toInt ≠ 0 := b_neq rfl (by decide) c63
        refine lv_iconst (v := (-1)) hx hb dX12_named_45 (by decide) ?_
        refine lv_istore (lv' := [(4, .int (-1)), (0, .ref (ad 0)), (1, .ref (ad 14)), (2, .int p1), (3, .int p2)]) hx hb dX12_named_46 hl (by decide) rfl (fun ls hl => ?_)
        refine lv_aload_n hx hb dX12_named_48 rfl (lv_at hl 1 rfl) ?_
        refine va_get (D := D) (ci := 12) (v := .int (V60 0 8)) (C := RX12) (T := TX12) (N := 100) hx hb hg inX12 hown hK hP 0 rfl rfl 8 (by decide) (hg _ w1714) (fun _ h9 => h9) rfl dX12_named_49 ?_
        refine lv_if_ne (tgt := 65) hx hb dX12_named_52 (by decide) (fun c65 => ?_) (fun c65 => ?_)
        · skip
          have f66 : ((V60 0 8)).toInt ≠ 0 := b_neq rfl (by decide) c65
          refine lv_aload_n hx hb dX12_named_65 rfl (lv_at hl 1 rfl) ?_
          refine lv_dup hx hb dX12_named_66 rfl ?_
          refine va_get (D := D) (ci := 12) (v := .int (V60 0 7)) (C := RX12) (T := TX12) (N := 100) hx hb hg inX12 hown hK hP 0 rfl rfl 7 (by decide) (hg _ w1713) (fun _ h9 => h9) rfl dX12_named_67 ?_
          refine g_top (v := (V 0 7)) (ajV60 0 7 rfl) ?_
          refine lv_iconst (v := 1) hx hb dX12_named_70 (by decide) ?_
          refine lv_iadd hx hb dX12_named_71 ?_
          have r67 := i_full (V 0 7)
          refine lv_topi (fun z68 ez68 => ?_)
          have hz68 : Imp (-2147483648 ≤ ((V 0 7)).toInt + 1 ∧ ((V 0 7)).toInt + 1 ≤ 2147483647) (z68.toInt = ((V 0 7)).toInt + 1) := Imp.mk (fun hp => i_add ez68 rfl (by decide) hp)
          refine va_put (D := D) (ci := 12) (v := .int z68) (ty := tyX12 7) (C := RX12) (T := TX12) (N := 100) hx hb hg inX12 tyX12 tyX12_ok nmX12 hown hK hP hD hS 0 rfl rfl 7 (by decide) (hg _ w1713) (fun _ h9 => h9) rfl (tyX12_ok 7 (by decide)) rfl rfl (Nat.le_of_ble_eq_true rfl) dX12_named_72 (fun H locs hP hD hS => ?_)
          obtain ⟨V69, hV69⟩ : ∃ z, z = up2 V60 0 7 z68 := ⟨_, rfl⟩
          have hP : va_P D vwCl (mw ad kk ks.1 V69 L) H := by rw [hV69]; exact hP
          have hD : va_D A (mw ad kk ks.1 V69 L) := by rw [hV69]; exact hD
          have hMV69 : rgd bM V69 := hMV60.put hV69 (i_full _)
          have agV69 : agr [(0, 7), (0, 8)] [] V V69 := agV60.up hV69 rfl
          refine lv_iload hx hb dX12_named_75 (lv_at hl 0 rfl) ?_
          have pq70 : (V69 0 7).toInt = z68.toInt := congrArg Int32.toInt (up2_s hV69)
          have pq71 : (V69 0 8).toInt = ((V60 0 8)).toInt := congrArg Int32.toInt (up2_k hV69 (by decide))
          exact W.iret (v := (-1)) hx hb hr (fun t ht hW => ⟨⟨(-1), (V69, L), rfl, ⟨hMV69, agV69, rfl, (by decide), (Imp.mk (fun hp => have hp : (V69 0 8).toInt = 0 := hp; (show 0 ≤ (V69 0 7).toInt ∧ (V69 0 7).toInt ≤ n ∧ (V 0 8).toInt = 0 ∧ (V 0 7).toInt ≤ (V69 0 7).toInt from by first | omega | ((try (have i_hz68 := Imp.go hz68 (by omega))); (try (have i_t19 := Imp.go t19 (by omega))); (try (have i_x3 := Imp.go x3 (by omega))); (try (have i_x3 := Imp.go x3 (by omega))); (try (have i_t19 := Imp.go t19 (by omega))); (try (have i_hz68 := Imp.go hz68 (by omega))); omega)))), (show (-1) < p2.toInt from by first | exact om_550cdc110816 rg_p2.1 | first | omega | ((try (have i_hz68 := Imp.go hz68 (by omega))); (try (have i_t19 := Imp.go t19 (by omega))); (try (have i_x3 := Imp.go x3 (by omega))); (try (have i_x3 := Imp.go x3 (by omega))); (try (have i_t19 := Imp.go t19 (by omega))); (try (have i_hz68 := Imp.go hz68 (by omega))); omega)), (Imp.mk (fun hp => have hp : (V69 0 8).toInt = 0 := hp; (show 0 ≤ (-1) from by first | omega | ((try (have i_hz68 := Imp.go hz68 (by omega))); (try (have i_t19 := Imp.go t19 (by omega))); (try (have i_x3 := Imp.go x3 (by omega))); (try (have i_x3 := Imp.go x3 (by omega))); (try (have i_t19 := Imp.go t19 (by omega))); (try (have i_hz68 := Imp.go hz68 (by omega))); omega)))), (Imp.mk (fun hp => have hp : (V69 0 8).toInt = 0 := hp; (show (V 0 7).toInt + 1 ≤ (V69 0 7).toInt from by first | omega | ((try (have i_hz68 := Imp.go hz68 (by omega))); (try (have i_t19 := Imp.go t19 (by omega))); (try (have i_x3 := Imp.go x3 (by omega))); (try (have i_x3 := Imp.go x3 (by omega))); (try (have i_t19 := Imp.go t19 (by omega))); (try (have i_hz68 := Imp.go hz68 (by omega))); omega))))⟩, by rw [ht]; exact hP, va_K.moved hW.alike hK, hD⟩, hS.F ht⟩) hS.2.2 dX12_named_77
        · skip
          have f72 : ((V60 0 8)).toInt = 0 := b_eq rfl (by decide) c65
          exfalso; first | exact om_b02ddf2a5870 t59 f64 f72 | first | omega | ((try (have i_t19 := Imp.go t19 (by omega))); (try (have i_x3 := Imp.go x3 (by omega))); (try (have i_x3 := Imp.go x3 (by omega))); (try (have i_t19 := Imp.go t19 (by omega))); omega)
      · skip
        have f73 : ((V60 0 8)).toInt = 0 := b_eq rfl (by decide) c63
        exfalso; first | exact om_09885ab343b9 t59 f73 | first | omega | ((try (have i_t19 := Imp.go t19 (by omega))); (try (have i_x3 := Imp.go x3 (by omega))); (try (have i_x3 := Imp.go x3 (by omega))); (try (have i_t19 := Imp.go t19 (by omega))); omega)
abbrev r_s_named_settingName : Room := { frames := 1, cells := 0, slots := 0, locals := 27 }
abbrev q_s_named_settingName (D : va_G) (ks : KS) (ad : Nat → Nat) (kk : Nat → ClassId) (V : Vf) (L : Lf) (p1 : Int32) (p2 : Int32) (n : Nat) (A : Nat → Prop) : Array Value → State → Outcome → State → Prop := va_Qi (fun (r : Int32) (u : Vf × Lf) => rgd bM u.1 ∧ agr [(0, 7), (0, 8)] [] V u.1 ∧ u.2 = L ∧ ((-1) ≤ r.toInt ∧ r.toInt ≤ 47) ∧ (Imp ((u.1 0 8).toInt = 0) (0 ≤ (u.1 0 7).toInt ∧ (u.1 0 7).toInt ≤ n ∧ (V 0 8).toInt = 0 ∧ (V 0 7).toInt ≤ (u.1 0 7).toInt)) ∧ (r.toInt < p2.toInt) ∧ (Imp ((u.1 0 8).toInt = 0) (0 ≤ r.toInt)) ∧ (Imp ((u.1 0 8).toInt = 0) ((V 0 7).toInt + 1 ≤ (u.1 0 7).toInt))) (fun u t => gq D A (mw ad kk ks.1 u.1 u.2) (mty kk) t) A
set_option maxHeartbeats 4000000 in
set_option maxRecDepth 100000 in
theorem s_named_settingName (l : Launch) (D : va_G) (ks : KS) (sz : Nat) (ad : Nat → Nat) (kk : Nat → ClassId) (V : Vf) (L : Lf) (p1 : Int32) (p2 : Int32) (n : Nat) (hMV : rgd bM V) (rg_p1 : 0 ≤ p1.toInt ∧ p1.toInt ≤ 24) (rg_p2 : 0 ≤ p2.toInt ∧ p2.toInt ≤ 24) (x1 : (V 4 n).toInt = 0) (x2 : n ≤ 4000) (x3 : Imp ((V 0 8).toInt = 0) (0 ≤ (V 0 7).toInt ∧ (V 0 7).toInt ≤ n)) (y1 : p1.toInt + p2.toInt ≤ 24)  : Met l yX12_named (Cond.code yX12_named cX12_named 5 (some .int) :: GW) r_s_named_settingName (va_Pc [.ref (ad 0), .ref (ad 17), .int p1, .int p2] (gp D ks (mw ad kk ks.1 V L) (mty kk) sz)) (q_s_named_settingName D ks ad kk V L p1 p2 n (va_A (mw ad kk ks.1 V L) sz)) 0 0 (va_A (mw ad kk ks.1 V L) sz) := by
  refine g_met (q_s_named_settingName D ks ad kk V L p1 p2 n) (by decide) (Nat.le_of_ble_eq_true rfl) ?_
  intro p e s m below meth c A ls H locs hx hb hr hml hown hg hlocks hin hnw hgk hP hK hD hS hA hl
  replace hown : s.vm.findClass RX12 = some m.cls := hown
  replace hl : lv_has ls 5 [(0, .ref (ad 0)), (1, .ref (ad 17)), (2, .int p1), (3, .int p2)] := hl
  replace hP : va_P D vwCl (mw ad kk ks.1 V L) H := hP
  replace hD : va_D A (mw ad kk ks.1 V L) := hD
  replace hK : va_K D vwCl (mty kk) s := hK
  have agV : agr [(0, 7), (0, 8)] [] V V := agr.rf
  have r1 : 0 ≤ ((V 0 8)).toInt ∧ ((V 0 8)).toInt ≤ 70000 := hMV 0 8
  refine lv_aload_n hx hb dX12_named_0 rfl (lv_at hl 0 rfl) ?_
  refine va_get (D := D) (ci := 12) (v := .int (V 0 8)) (C := RX12) (T := TX12) (N := 100) hx hb hg inX12 hown hK hP 0 rfl rfl 8 (by decide) (hg _ w1714) (fun _ h9 => h9) rfl dX12_named_1 ?_
  refine lv_if_ne (tgt := 19) hx hb dX12_named_4 (by decide) (fun c2 => ?_) (fun c2 => ?_)
  · skip
    have f3 : ((V 0 8)).toInt ≠ 0 := b_neq rfl (by decide) c2
    refine lv_aload_n hx hb dX12_named_19 rfl (lv_at hl 0 rfl) ?_
    refine va_get (D := D) (ci := 12) (v := .int (V 0 8)) (C := RX12) (T := TX12) (N := 100) hx hb hg inX12 hown hK hP 0 rfl rfl 8 (by decide) (hg _ w1714) (fun _ h9 => h9) rfl dX12_named_20 ?_
    refine lv_if_ne (tgt := 45) hx hb dX12_named_23 (by decide) (fun c4 => ?_) (fun c4 => ?_)
    · skip
      have f5 : ((V 0 8)).toInt ≠ 0 := b_neq rfl (by decide) c4
      refine lv_iconst (v := (-1)) hx hb dX12_named_45 (by decide) ?_
      refine lv_istore (lv' := [(4, .int (-1)), (0, .ref (ad 0)), (1, .ref (ad 17)), (2, .int p1), (3, .int p2)]) hx hb dX12_named_46 hl (by decide) rfl (fun ls hl => ?_)
      refine lv_aload_n hx hb dX12_named_48 rfl (lv_at hl 1 rfl) ?_
      refine va_get (D := D) (ci := 12) (v := .int (V 0 8)) (C := RX12) (T := TX12) (N := 100) hx hb hg inX12 hown hK hP 0 rfl rfl 8 (by decide) (hg _ w1714) (fun _ h9 => h9) rfl dX12_named_49 ?_
      refine lv_if_ne (tgt := 65) hx hb dX12_named_52 (by decide) (fun c6 => ?_) (fun c6 => ?_)
      · skip
        have f7 : ((V 0 8)).toInt ≠ 0 := b_neq rfl (by decide) c6
        refine lv_aload_n hx hb dX12_named_65 rfl (lv_at hl 1 rfl) ?_
        refine lv_dup hx hb dX12_named_66 rfl ?_
        refine va_get (D := D) (ci := 12) (v := .int (V 0 7)) (C := RX12) (T := TX12) (N := 100) hx hb hg inX12 hown hK hP 0 rfl rfl 7 (by decide) (hg _ w1713) (fun _ h9 => h9) rfl dX12_named_67 ?_
        refine lv_iconst (v := 1) hx hb dX12_named_70 (by decide) ?_
        refine lv_iadd hx hb dX12_named_71 ?_
        have r8 := i_full (V 0 7)
        refine lv_topi (fun z9 ez9 => ?_)
        have hz9 : Imp (-2147483648 ≤ ((V 0 7)).toInt + 1 ∧ ((V 0 7)).toInt + 1 ≤ 2147483647) (z9.toInt = ((V 0 7)).toInt + 1) := Imp.mk (fun hp => i_add ez9 rfl (by decide) hp)
        refine va_put (D := D) (ci := 12) (v := .int z9) (ty := tyX12 7) (C := RX12) (T := TX12) (N := 100) hx hb hg inX12 tyX12 tyX12_ok nmX12 hown hK hP hD hS 0 rfl rfl 7 (by decide) (hg _ w1713) (fun _ h9 => h9) rfl (tyX12_ok 7 (by decide)) rfl rfl (Nat.le_of_ble_eq_true rfl) dX12_named_72 (fun H locs hP hD hS => ?_)
        obtain ⟨V10, hV10⟩ : ∃ z, z = up2 V 0 7 z9 := ⟨_, rfl⟩
        have hP : va_P D vwCl (mw ad kk ks.1 V10 L) H := by rw [hV10]; exact hP
        have hD : va_D A (mw ad kk ks.1 V10 L) := by rw [hV10]; exact hD
        have hMV10 : rgd bM V10 := hMV.put hV10 (i_full _)
        have agV10 : agr [(0, 7), (0, 8)] [] V V10 := agV.up hV10 rfl
        refine lv_iload hx hb dX12_named_75 (lv_at hl 0 rfl) ?_
        have pq11 : (V10 0 7).toInt = z9.toInt := congrArg Int32.toInt (up2_s hV10)
        have pq12 : (V10 0 8).toInt = ((V 0 8)).toInt := congrArg Int32.toInt (up2_k hV10 (by decide))
        exact W.iret (v := (-1)) hx hb hr (fun t ht hW => ⟨⟨(-1), (V10, L), rfl, ⟨hMV10, agV10, rfl, (by decide), (Imp.mk (fun hp => have hp : (V10 0 8).toInt = 0 := hp; (show 0 ≤ (V10 0 7).toInt ∧ (V10 0 7).toInt ≤ n ∧ (V 0 8).toInt = 0 ∧ (V 0 7).toInt ≤ (V10 0 7).toInt from by first | omega | ((try (have i_hz9 := Imp.go hz9 (by omega))); (try (have i_x3 := Imp.go x3 (by omega))); (try (have i_x3 := Imp.go x3 (by omega))); (try (have i_hz9 := Imp.go hz9 (by omega))); omega)))), (show (-1) < p2.toInt from by first | exact om_550cdc110816 rg_p2.1 | first | omega | ((try (have i_hz9 := Imp.go hz9 (by omega))); (try (have i_x3 := Imp.go x3 (by omega))); (try (have i_x3 := Imp.go x3 (by omega))); (try (have i_hz9 := Imp.go hz9 (by omega))); omega)), (Imp.mk (fun hp => have hp : (V10 0 8).toInt = 0 := hp; (show 0 ≤ (-1) from by first | omega | ((try (have i_hz9 := Imp.go hz9 (by omega))); (try (have i_x3 := Imp.go x3 (by omega))); (try (have i_x3 := Imp.go x3 (by omega))); (try (have i_hz9 := Imp.go hz9 (by omega))); omega)))), (Imp.mk (fun hp => have hp : (V10 0 8).toInt = 0 := hp; (show (V 0 7).toInt + 1 ≤ (V10 0 7).toInt from by first | omega | ((try (have i_hz9 := Imp.go hz9 (by omega))); (try (have i_x3 := Imp.go x3 (by omega))); (try (have i_x3 := Imp.go x3 (by omega))); (try (have i_hz9 := Imp.go hz9 (by omega))); omega))))⟩, by rw [ht]; exact hP, va_K.moved hW.alike hK, hD⟩, hS.F ht⟩) hS.2.2 dX12_named_77
      · skip
        have f13 : ((V 0 8)).toInt = 0 := b_eq rfl (by decide) c6
        exfalso; first | exact om_0abcda13baee r1.1 f3 f13 | first | omega | ((try (have i_x3 := Imp.go x3 (by omega))); omega)
    · skip
      have f14 : ((V 0 8)).toInt = 0 := b_eq rfl (by decide) c4
      exfalso; first | exact om_0abcda13baee r1.1 f3 f14 | first | omega | ((try (have i_x3 := Imp.go x3 (by omega))); omega)
  · skip
    have f15 : ((V 0 8)).toInt = 0 := b_eq rfl (by decide) c2
    refine lv_aload_n hx hb dX12_named_7 rfl (lv_at hl 0 rfl) ?_
    refine gA_int (gA_runV (As := []) (rest := []) (ci := 12) (q0 := 0) hx hb hml hown hg hP hD hK hS hA hnw hgk (s_isName l D ks H.size ad kk V L (n) hMV (show (V 4 (n)).toInt = 0 from by first | exact om_b66ba74381d5 x1 | first | omega | ((try (have i_x3 := Imp.go x3 (by omega))); omega)) (show (n) ≤ 4000 from by first | exact om_af64e361c991 x2 | first | omega | ((try (have i_x3 := Imp.go x3 (by omega))); omega)) (Imp.mk (fun hp => have hp : (V 0 8).toInt = 0 := hp; (show 0 ≤ (V 0 7).toInt ∧ (V 0 7).toInt ≤ (n) from by first | exact om_408b46baf51e ((Imp.go x3 (hp)).1) ((Imp.go x3 (hp)).2) | first | omega | ((try (have i_x3 := Imp.go x3 (by omega))); omega))))) w2043 w2045 w88 w172 w2046 rfl rfl hdV_yX12_isName ⟨Nat.le_of_ble_eq_true rfl, Nat.le_of_ble_eq_true rfl⟩ rfl hl.1 rfl (Nat.le_of_ble_eq_true rfl) dX12_named_8 ⟨Nat.le_of_ble_eq_true rfl, Nat.le_of_ble_eq_true rfl⟩) hP hD hK hS hA (fun z16 u17 H locs w18 hP hD hK hS => ?_)
    obtain ⟨rgz16, t19⟩ := w18
    replace rgz16 : 0 ≤ z16.toInt ∧ z16.toInt ≤ 1 := rgz16
    replace t19 : Imp (z16.toInt = 1) ((V 0 8).toInt = 0 ∧ 0 ≤ (V 0 7).toInt ∧ (V 0 7).toInt < (n)) := t19
    refine lv_if_ne (tgt := 19) hx hb dX12_named_11 (by decide) (fun c20 => ?_) (fun c20 => ?_)
    · skip
      have f21 : z16.toInt ≠ 0 := b_neq rfl (by decide) c20
      refine lv_aload_n hx hb dX12_named_19 rfl (lv_at hl 0 rfl) ?_
      refine va_get (D := D) (ci := 12) (v := .int (V 0 8)) (C := RX12) (T := TX12) (N := 100) hx hb hg inX12 hown hK hP 0 rfl rfl 8 (by decide) (hg _ w1714) (fun _ h9 => h9) rfl dX12_named_20 ?_
      refine lv_if_ne (tgt := 45) hx hb dX12_named_23 (by decide) (fun c22 => ?_) (fun c22 => ?_)
      · skip
        have f23 : ((V 0 8)).toInt ≠ 0 := b_neq rfl (by decide) c22
        exfalso; first | exact om_fb320d7600b7 r1.1 f15 f23 | first | omega | ((try (have i_t19 := Imp.go t19 (by omega))); (try (have i_x3 := Imp.go x3 (by omega))); (try (have i_x3 := Imp.go x3 (by omega))); (try (have i_t19 := Imp.go t19 (by omega))); omega)
      · skip
        have f24 : ((V 0 8)).toInt = 0 := b_eq rfl (by decide) c22
        refine lv_aload_n hx hb dX12_named_26 rfl (lv_at hl 0 rfl) ?_
        refine lv_aload_n hx hb dX12_named_27 rfl (lv_at hl 1 rfl) ?_
        refine lv_iload_n hx hb dX12_named_28 rfl (lv_at hl 2 rfl) ?_
        refine lv_iload_n hx hb dX12_named_29 rfl (lv_at hl 3 rfl) ?_
        refine lv_aload_n hx hb dX12_named_30 rfl (lv_at hl 0 rfl) ?_
        refine va_get (D := D) (ci := 12) (v := .ref (ad 6)) (C := RX12) (T := TX12) (N := 100) hx hb hg inX12 hown hK hP 0 rfl rfl 6 (by decide) (hg _ w1712) (fun _ h9 => h9) rfl dX12_named_31 ?_
        refine lv_aload_n hx hb dX12_named_34 rfl (lv_at hl 0 rfl) ?_
        refine va_get (D := D) (ci := 12) (v := .int (V 0 7)) (C := RX12) (T := TX12) (N := 100) hx hb hg inX12 hown hK hP 0 rfl rfl 7 (by decide) (hg _ w1713) (fun _ h9 => h9) rfl dX12_named_35 ?_
        refine va_lald (D := D) (i := (V 0 7)) hx hb hK hP 4 3 rfl rfl (i_in (a := ((V 0 7)).toInt) rfl (by first | exact om_4d9bfa19b181 x2 ((Imp.go x3 (f24)).1) ((Imp.go t19 (imp_a (rgz16.1) (rgz16.2) (f21))).2.2) | first | omega | ((try (have i_t19 := Imp.go t19 (by omega))); (try (have i_x3 := Imp.go x3 (by omega))); (try (have i_x3 := Imp.go x3 (by omega))); (try (have i_t19 := Imp.go t19 (by omega))); omega))) dX12_named_38 ?_
        refine lv_topl (fun w25 ew25 => ?_)
        refine gA_int (gA_runV (As := [.ref (ad 17), .int p1, .int p2, .long w25]) (rest := []) (ci := 12) (q0 := 0) hx hb hml hown hg hP hD hK hS hA hnw hgk (s_find_settingName l D ks H.size ad kk V L p1 p2 w25 hMV (by first | exact om_f82fee59341f rg_p1.1 rg_p1.2 | first | omega | ((try (have i_t19 := Imp.go t19 (by omega))); (try (have i_x3 := Imp.go x3 (by omega))); (try (have i_x3 := Imp.go x3 (by omega))); (try (have i_t19 := Imp.go t19 (by omega))); omega)) (by first | exact om_f82fee59341f rg_p2.1 rg_p2.2 | first | omega | ((try (have i_t19 := Imp.go t19 (by omega))); (try (have i_x3 := Imp.go x3 (by omega))); (try (have i_x3 := Imp.go x3 (by omega))); (try (have i_t19 := Imp.go t19 (by omega))); omega)) (show p1.toInt + p2.toInt ≤ 24 from by first | exact om_1b338cad169f y1 | first | omega | ((try (have i_t19 := Imp.go t19 (by omega))); (try (have i_x3 := Imp.go x3 (by omega))); (try (have i_x3 := Imp.go x3 (by omega))); (try (have i_t19 := Imp.go t19 (by omega))); omega))) w2047 w2049 w89 w172 w2050 rfl rfl hdV_yX12_find ⟨Nat.le_of_ble_eq_true rfl, Nat.le_of_ble_eq_true rfl⟩ rfl hl.1 rfl (Nat.le_of_ble_eq_true rfl) dX12_named_39 ⟨Nat.le_of_ble_eq_true rfl, Nat.le_of_ble_eq_true rfl⟩) hP hD hK hS hA (fun z26 u27 H locs w28 hP hD hK hS => ?_)
        obtain ⟨rgz26, t29⟩ := w28
        replace rgz26 : (-1) ≤ z26.toInt ∧ z26.toInt ≤ 47 := rgz26
        replace t29 : z26.toInt < p2.toInt := t29
        refine lv_goto (tgt := 46) hx hb dX12_named_42 (by decide) ?_
        refine lv_istore (lv' := [(4, .int z26), (0, .ref (ad 0)), (1, .ref (ad 17)), (2, .int p1), (3, .int p2)]) hx hb dX12_named_46 hl (by decide) rfl (fun ls hl => ?_)
        refine lv_aload_n hx hb dX12_named_48 rfl (lv_at hl 1 rfl) ?_
        refine va_get (D := D) (ci := 12) (v := .int (V 0 8)) (C := RX12) (T := TX12) (N := 100) hx hb hg inX12 hown hK hP 0 rfl rfl 8 (by decide) (hg _ w1714) (fun _ h9 => h9) rfl dX12_named_49 ?_
        refine lv_if_ne (tgt := 65) hx hb dX12_named_52 (by decide) (fun c30 => ?_) (fun c30 => ?_)
        · skip
          have f31 : ((V 0 8)).toInt ≠ 0 := b_neq rfl (by decide) c30
          exfalso; first | exact om_fb320d7600b7 r1.1 f15 f31 | first | omega | ((try (have i_t19 := Imp.go t19 (by omega))); (try (have i_x3 := Imp.go x3 (by omega))); (try (have i_x3 := Imp.go x3 (by omega))); (try (have i_t19 := Imp.go t19 (by omega))); omega)
        · skip
          have f32 : ((V 0 8)).toInt = 0 := b_eq rfl (by decide) c30
          refine lv_iload hx hb dX12_named_55 (lv_at hl 0 rfl) ?_
          refine lv_if_ge (tgt := 65) hx hb dX12_named_57 (by decide) (fun c33 => ?_) (fun c33 => ?_)
          · skip
            have f34 : 0 ≤ z26.toInt := b_le (by decide) rfl c33
            refine lv_aload_n hx hb dX12_named_65 rfl (lv_at hl 1 rfl) ?_
            refine lv_dup hx hb dX12_named_66 rfl ?_
            refine va_get (D := D) (ci := 12) (v := .int (V 0 7)) (C := RX12) (T := TX12) (N := 100) hx hb hg inX12 hown hK hP 0 rfl rfl 7 (by decide) (hg _ w1713) (fun _ h9 => h9) rfl dX12_named_67 ?_
            refine lv_iconst (v := 1) hx hb dX12_named_70 (by decide) ?_
            refine lv_iadd hx hb dX12_named_71 ?_
            have r35 := i_full (V 0 7)
            refine lv_topi (fun z36 ez36 => ?_)
            have hz36 : Imp (-2147483648 ≤ ((V 0 7)).toInt + 1 ∧ ((V 0 7)).toInt + 1 ≤ 2147483647) (z36.toInt = ((V 0 7)).toInt + 1) := Imp.mk (fun hp => i_add ez36 rfl (by decide) hp)
            refine va_put (D := D) (ci := 12) (v := .int z36) (ty := tyX12 7) (C := RX12) (T := TX12) (N := 100) hx hb hg inX12 tyX12 tyX12_ok nmX12 hown hK hP hD hS 0 rfl rfl 7 (by decide) (hg _ w1713) (fun _ h9 => h9) rfl (tyX12_ok 7 (by decide)) rfl rfl (Nat.le_of_ble_eq_true rfl) dX12_named_72 (fun H locs hP hD hS => ?_)
            obtain ⟨V37, hV37⟩ : ∃ z, z = up2 V 0 7 z36 := ⟨_, rfl⟩
            have hP : va_P D vwCl (mw ad kk ks.1 V37 L) H := by rw [hV37]; exact hP
            have hD : va_D A (mw ad kk ks.1 V37 L) := by rw [hV37]; exact hD
            have hMV37 : rgd bM V37 := hMV.put hV37 (i_full _)
            have agV37 : agr [(0, 7), (0, 8)] [] V V37 := agV.up hV37 rfl
            refine lv_iload hx hb dX12_named_75 (lv_at hl 0 rfl) ?_
            have pq38 : (V37 0 7).toInt = z36.toInt := congrArg Int32.toInt (up2_s hV37)
            have pq39 : (V37 0 8).toInt = ((V 0 8)).toInt := congrArg Int32.toInt (up2_k hV37 (by decide))
            exact W.iret (v := z26) hx hb hr (fun t ht hW => ⟨⟨z26, (V37, L), rfl, ⟨hMV37, agV37, rfl, (show (-1) ≤ z26.toInt ∧ z26.toInt ≤ 47 from by first | exact om_f6f243504409 rg_p2.2 t29 f34 | first | omega | ((try (have i_hz36 := Imp.go hz36 (by omega))); (try (have i_t19 := Imp.go t19 (by omega))); (try (have i_x3 := Imp.go x3 (by omega))); (try (have i_x3 := Imp.go x3 (by omega))); (try (have i_t19 := Imp.go t19 (by omega))); (try (have i_hz36 := Imp.go hz36 (by omega))); omega)), (Imp.mk (fun hp => have hp : (V37 0 8).toInt = 0 := hp; (show 0 ≤ (V37 0 7).toInt ∧ (V37 0 7).toInt ≤ n ∧ (V 0 8).toInt = 0 ∧ (V 0 7).toInt ≤ (V37 0 7).toInt from by first | exact om_b7d372ddba67 r1.1 f15 pq38 ((Imp.go x3 (f32)).1) ((Imp.go t19 (imp_a (rgz16.1) (rgz16.2) (f21))).2.2) ((Imp.go hz36 (om_053a02be3074 x2 ((Imp.go x3 (f32)).1) ((Imp.go t19 (imp_a (rgz16.1) (rgz16.2) (f21))).2.2)))) | first | omega | ((try (have i_hz36 := Imp.go hz36 (by omega))); (try (have i_t19 := Imp.go t19 (by omega))); (try (have i_x3 := Imp.go x3 (by omega))); (try (have i_x3 := Imp.go x3 (by omega))); (try (have i_t19 := Imp.go t19 (by omega))); (try (have i_hz36 := Imp.go hz36 (by omega))); omega)))), (show z26.toInt < p2.toInt from by first | exact om_0e9116797efb t29 | first | omega | ((try (have i_hz36 := Imp.go hz36 (by omega))); (try (have i_t19 := Imp.go t19 (by omega))); (try (have i_x3 := Imp.go x3 (by omega))); (try (have i_x3 := Imp.go x3 (by omega))); (try (have i_t19 := Imp.go t19 (by omega))); (try (have i_hz36 := Imp.go hz36 (by omega))); omega)), (Imp.mk (fun hp => have hp : (V37 0 8).toInt = 0 := hp; (show 0 ≤ z26.toInt from by first | exact om_eafa9039069c f34 | first | omega | ((try (have i_hz36 := Imp.go hz36 (by omega))); (try (have i_t19 := Imp.go t19 (by omega))); (try (have i_x3 := Imp.go x3 (by omega))); (try (have i_x3 := Imp.go x3 (by omega))); (try (have i_t19 := Imp.go t19 (by omega))); (try (have i_hz36 := Imp.go hz36 (by omega))); omega)))), (Imp.mk (fun hp => have hp : (V37 0 8).toInt = 0 := hp; (show (V 0 7).toInt + 1 ≤ (V37 0 7).toInt from by first | exact om_202eeafe7f37 pq38 ((Imp.go hz36 (om_053a02be3074 x2 ((Imp.go x3 (f32)).1) ((Imp.go t19 (imp_a (rgz16.1) (rgz16.2) (f21))).2.2)))) | first | omega | ((try (have i_hz36 := Imp.go hz36 (by omega))); (try (have i_t19 := Imp.go t19 (by omega))); (try (have i_x3 := Imp.go x3 (by omega))); (try (have i_x3 := Imp.go x3 (by omega))); (try (have i_t19 := Imp.go t19 (by omega))); (try (have i_hz36 := Imp.go hz36 (by omega))); omega))))⟩, by rw [ht]; exact hP, va_K.moved hW.alike hK, hD⟩, hS.F ht⟩) hS.2.2 dX12_named_77
          · skip
            have f40 : z26.toInt < 0 := b_nle (by decide) rfl c33
            refine lv_aload_n hx hb dX12_named_60 rfl (lv_at hl 1 rfl) ?_
            refine lv_iconst (v := 2) hx hb dX12_named_61 (by decide) ?_
            have r41 : Int32.toInt 2 = 2 := by decide
            refine gA_void (gA_runV (As := [.int 2]) (rest := []) (ci := 12) (q0 := 0) hx hb hml hown hg hP hD hK hS hA hnw hgk (s_wrong l D ks H.size ad kk V L 2 (n) hMV (by decide) (show (V 4 (n)).toInt = 0 from by first | exact om_b66ba74381d5 x1 | first | omega | ((try (have i_t19 := Imp.go t19 (by omega))); (try (have i_x3 := Imp.go x3 (by omega))); (try (have i_x3 := Imp.go x3 (by omega))); (try (have i_t19 := Imp.go t19 (by omega))); omega)) (show (n) ≤ 4000 from by first | exact om_af64e361c991 x2 | first | omega | ((try (have i_t19 := Imp.go t19 (by omega))); (try (have i_x3 := Imp.go x3 (by omega))); (try (have i_x3 := Imp.go x3 (by omega))); (try (have i_t19 := Imp.go t19 (by omega))); omega)) (Imp.mk (fun hp => have hp : (V 0 8).toInt = 0 := hp; (show 0 ≤ (V 0 7).toInt ∧ (V 0 7).toInt ≤ (n) from by first | exact om_7a329117c856 ((Imp.go x3 (hp)).1) ((Imp.go t19 (imp_a (rgz16.1) (rgz16.2) (f21))).2.2) | first | omega | ((try (have i_t19 := Imp.go t19 (by omega))); (try (have i_x3 := Imp.go x3 (by omega))); (try (have i_x3 := Imp.go x3 (by omega))); (try (have i_t19 := Imp.go t19 (by omega))); omega))))) w2035 w2037 w86 w172 w2038 rfl rfl hdV_yX12_wrong ⟨Nat.le_of_ble_eq_true rfl, Nat.le_of_ble_eq_true rfl⟩ rfl hl.1 rfl (Nat.le_of_ble_eq_true rfl) dX12_named_62 ⟨Nat.le_of_ble_eq_true rfl, Nat.le_of_ble_eq_true rfl⟩) hP hD hK hS hA (fun u43 H locs w44 hP hD hK hS => ?_)
            obtain ⟨V46, L47⟩ := u43
            obtain ⟨hMV46, ajV46, axL47, t45⟩ := w44
            have axL47 : L = L47 := Eq.symm axL47
            subst axL47
            replace hP : va_P D vwCl (mw ad kk ks.1 V46 L) H := hP
            replace hD : va_D A (mw ad kk ks.1 V46 L) := hD
            replace hMV46 : rgd bM V46 := hMV46
            replace ajV46 : agr [(0, 8)] [] V V46 := ajV46
            have agV46 : agr [(0, 7), (0, 8)] [] V V46 := agV.tr ajV46 (by decide) (by decide)
            replace t45 : 1 ≤ (V46 0 8).toInt := t45
            have r48 : 0 ≤ ((V46 0 8)).toInt ∧ ((V46 0 8)).toInt ≤ 70000 := hMV46 0 8
            refine lv_aload_n hx hb dX12_named_65 rfl (lv_at hl 1 rfl) ?_
            refine lv_dup hx hb dX12_named_66 rfl ?_
            refine va_get (D := D) (ci := 12) (v := .int (V46 0 7)) (C := RX12) (T := TX12) (N := 100) hx hb hg inX12 hown hK hP 0 rfl rfl 7 (by decide) (hg _ w1713) (fun _ h9 => h9) rfl dX12_named_67 ?_
            refine g_top (v := (V 0 7)) (ajV46 0 7 rfl) ?_
            refine lv_iconst (v := 1) hx hb dX12_named_70 (by decide) ?_
            refine lv_iadd hx hb dX12_named_71 ?_
            have r49 := i_full (V 0 7)
            refine lv_topi (fun z50 ez50 => ?_)
            have hz50 : Imp (-2147483648 ≤ ((V 0 7)).toInt + 1 ∧ ((V 0 7)).toInt + 1 ≤ 2147483647) (z50.toInt = ((V 0 7)).toInt + 1) := Imp.mk (fun hp => i_add ez50 rfl (by decide) hp)
            refine va_put (D := D) (ci := 12) (v := .int z50) (ty := tyX12 7) (C := RX12) (T := TX12) (N := 100) hx hb hg inX12 tyX12 tyX12_ok nmX12 hown hK hP hD hS 0 rfl rfl 7 (by decide) (hg _ w1713) (fun _ h9 => h9) rfl (tyX12_ok 7 (by decide)) rfl rfl (Nat.le_of_ble_eq_true rfl) dX12_named_72 (fun H locs hP hD hS => ?_)
            obtain ⟨V51, hV51⟩ : ∃ z, z = up2 V46 0 7 z50 := ⟨_, rfl⟩
            have hP : va_P D vwCl (mw ad kk ks.1 V51 L) H := by rw [hV51]; exact hP
            have hD : va_D A (mw ad kk ks.1 V51 L) := by rw [hV51]; exact hD
            have hMV51 : rgd bM V51 := hMV46.put hV51 (i_full _)
            have agV51 : agr [(0, 7), (0, 8)] [] V V51 := agV46.up hV51 rfl
            refine lv_iload hx hb dX12_named_75 (lv_at hl 0 rfl) ?_
            have pq52 : (V51 0 7).toInt = z50.toInt := congrArg Int32.toInt (up2_s hV51)
            have pq53 : (V51 0 8).toInt = ((V46 0 8)).toInt := congrArg Int32.toInt (up2_k hV51 (by decide))
            exact W.iret (v := z26) hx hb hr (fun t ht hW => ⟨⟨z26, (V51, L), rfl, ⟨hMV51, agV51, rfl, (show (-1) ≤ z26.toInt ∧ z26.toInt ≤ 47 from by first | exact om_ad2789741d59 rgz26.1 f40 | first | omega | ((try (have i_hz50 := Imp.go hz50 (by omega))); (try (have i_t19 := Imp.go t19 (by omega))); (try (have i_x3 := Imp.go x3 (by omega))); (try (have i_x3 := Imp.go x3 (by omega))); (try (have i_t19 := Imp.go t19 (by omega))); (try (have i_hz50 := Imp.go hz50 (by omega))); omega)), (Imp.mk (fun hp => have hp : (V51 0 8).toInt = 0 := hp; (show 0 ≤ (V51 0 7).toInt ∧ (V51 0 7).toInt ≤ n ∧ (V 0 8).toInt = 0 ∧ (V 0 7).toInt ≤ (V51 0 7).toInt from by first | omega | ((try (have i_hz50 := Imp.go hz50 (by omega))); (try (have i_t19 := Imp.go t19 (by omega))); (try (have i_x3 := Imp.go x3 (by omega))); (try (have i_x3 := Imp.go x3 (by omega))); (try (have i_t19 := Imp.go t19 (by omega))); (try (have i_hz50 := Imp.go hz50 (by omega))); omega)))), (show z26.toInt < p2.toInt from by first | exact om_8ee6a8695b20 rg_p2.1 f40 | first | omega | ((try (have i_hz50 := Imp.go hz50 (by omega))); (try (have i_t19 := Imp.go t19 (by omega))); (try (have i_x3 := Imp.go x3 (by omega))); (try (have i_x3 := Imp.go x3 (by omega))); (try (have i_t19 := Imp.go t19 (by omega))); (try (have i_hz50 := Imp.go hz50 (by omega))); omega)), (Imp.mk (fun hp => have hp : (V51 0 8).toInt = 0 := hp; (show 0 ≤ z26.toInt from by first | omega | ((try (have i_hz50 := Imp.go hz50 (by omega))); (try (have i_t19 := Imp.go t19 (by omega))); (try (have i_x3 := Imp.go x3 (by omega))); (try (have i_x3 := Imp.go x3 (by omega))); (try (have i_t19 := Imp.go t19 (by omega))); (try (have i_hz50 := Imp.go hz50 (by omega))); omega)))), (Imp.mk (fun hp => have hp : (V51 0 8).toInt = 0 := hp; (show (V 0 7).toInt + 1 ≤ (V51 0 7).toInt from by first | omega | ((try (have i_hz50 := Imp.go hz50 (by omega))); (try (have i_t19 := Imp.go t19 (by omega))); (try (have i_x3 := Imp.go x3 (by omega))); (try (have i_x3 := Imp.go x3 (by omega))); (try (have i_t19 := Imp.go t19 (by omega))); (try (have i_hz50 := Imp.go hz50 (by omega))); omega))))⟩, by rw [ht]; exact hP, va_K.moved hW.alike hK, hD⟩, hS.F ht⟩) hS.2.2 dX12_named_77
    · skip
      have f54 : z16.toInt = 0 := b_eq rfl (by decide) c20
      refine lv_aload_n hx hb dX12_named_14 rfl (lv_at hl 0 rfl) ?_
      refine lv_iconst (v := 1) hx hb dX12_named_15 (by decide) ?_
      have r55 : Int32.toInt 1 = 1 := by decide
      refine gA_void (gA_runV (As := [.int 1]) (rest := []) (ci := 12) (q0 := 0) hx hb hml hown hg hP hD hK hS hA hnw hgk (s_wrong l D ks H.size ad kk V L 1 (n) hMV (by decide) (show (V 4 (n)).toInt = 0 from by first | exact om_b66ba74381d5 x1 | first | omega | ((try (have i_t19 := Imp.go t19 (by omega))); (try (have i_x3 := Imp.go x3 (by omega))); (try (have i_x3 := Imp.go x3 (by omega))); (try (have i_t19 := Imp.go t19 (by omega))); omega)) (show (n) ≤ 4000 from by first | exact om_af64e361c991 x2 | first | omega | ((try (have i_t19 := Imp.go t19 (by omega))); (try (have i_x3 := Imp.go x3 (by omega))); (try (have i_x3 := Imp.go x3 (by omega))); (try (have i_t19 := Imp.go t19 (by omega))); omega)) (Imp.mk (fun hp => have hp : (V 0 8).toInt = 0 := hp; (show 0 ≤ (V 0 7).toInt ∧ (V 0 7).toInt ≤ (n) from by first | exact om_408b46baf51e ((Imp.go x3 (hp)).1) ((Imp.go x3 (hp)).2) | first | omega | ((try (have i_t19 := Imp.go t19 (by omega))); (try (have i_x3 := Imp.go x3 (by omega))); (try (have i_x3 := Imp.go x3 (by omega))); (try (have i_t19 := Imp.go t19 (by omega))); omega))))) w2035 w2037 w86 w172 w2038 rfl rfl hdV_yX12_wrong ⟨Nat.le_of_ble_eq_true rfl, Nat.le_of_ble_eq_true rfl⟩ rfl hl.1 rfl (Nat.le_of_ble_eq_true rfl) dX12_named_16 ⟨Nat.le_of_ble_eq_true rfl, Nat.le_of_ble_eq_true rfl⟩) hP hD hK hS hA (fun u57 H locs w58 hP hD hK hS => ?_)
      obtain ⟨V60, L61⟩ := u57
      obtain ⟨hMV60, ajV60, axL61, t59⟩ := w58
      have axL61 : L = L61 := Eq.symm axL61
      subst axL61
      replace hP : va_P D vwCl (mw ad kk ks.1 V60 L) H := hP
      replace hD : va_D A (mw ad kk ks.1 V60 L) := hD
      replace hMV60 : rgd bM V60 := hMV60
      replace ajV60 : agr [(0, 8)] [] V V60 := ajV60
      have agV60 : agr [(0, 7), (0, 8)] [] V V60 := agV.tr ajV60 (by decide) (by decide)
      replace t59 : 1 ≤ (V60 0 8).toInt := t59
      have r62 : 0 ≤ ((V60 0 8)).toInt ∧ ((V60 0 8)).toInt ≤ 70000 := hMV60 0 8
      refine lv_aload_n hx hb dX12_named_19 rfl (lv_at hl 0 rfl) ?_
      refine va_get (D := D) (ci := 12) (v := .int (V60 0 8)) (C := RX12) (T := TX12) (N := 100) hx hb hg inX12 hown hK hP 0 rfl rfl 8 (by decide) (hg _ w1714) (fun _ h9 => h9) rfl dX12_named_20 ?_
      refine lv_if_ne (tgt := 45) hx hb dX12_named_23 (by decide) (fun c63 => ?_) (fun c63 => ?_)
      · skip
        have f64 : ((V60 0 8)).toInt ≠ 0 := b_neq rfl (by decide) c63
        refine lv_iconst (v := (-1)) hx hb dX12_named_45 (by decide) ?_
        refine lv_istore (lv' := [(4, .int (-1)), (0, .ref (ad 0)), (1, .ref (ad 17)), (2, .int p1), (3, .int p2)]) hx hb dX12_named_46 hl (by decide) rfl (fun ls hl => ?_)
        refine lv_aload_n hx hb dX12_named_48 rfl (lv_at hl 1 rfl) ?_
        refine va_get (D := D) (ci := 12) (v := .int (V60 0 8)) (C := RX12) (T := TX12) (N := 100) hx hb hg inX12 hown hK hP 0 rfl rfl 8 (by decide) (hg _ w1714) (fun _ h9 => h9) rfl dX12_named_49 ?_
        refine lv_if_ne (tgt := 65) hx hb dX12_named_52 (by decide) (fun c65 => ?_) (fun c65 => ?_)
        · skip
          have f66 : ((V60 0 8)).toInt ≠ 0 := b_neq rfl (by decide) c65
          refine lv_aload_n hx hb dX12_named_65 rfl (lv_at hl 1 rfl) ?_
          refine lv_dup hx hb dX12_named_66 rfl ?_
          refine va_get (D := D) (ci := 12) (v := .int (V60 0 7)) (C := RX12) (T := TX12) (N := 100) hx hb hg inX12 hown hK hP 0 rfl rfl 7 (by decide) (hg _ w1713) (fun _ h9 => h9) rfl dX12_named_67 ?_
          refine g_top (v := (V 0 7)) (ajV60 0 7 rfl) ?_
          refine lv_iconst (v := 1) hx hb dX12_named_70 (by decide) ?_
          refine lv_iadd hx hb dX12_named_71 ?_
          have r67 := i_full (V 0 7)
          refine lv_topi (fun z68 ez68 => ?_)
          have hz68 : Imp (-2147483648 ≤ ((V 0 7)).toInt + 1 ∧ ((V 0 7)).toInt + 1 ≤ 2147483647) (z68.toInt = ((V 0 7)).toInt + 1) := Imp.mk (fun hp => i_add ez68 rfl (by decide) hp)
          refine va_put (D := D) (ci := 12) (v := .int z68) (ty := tyX12 7) (C := RX12) (T := TX12) (N := 100) hx hb hg inX12 tyX12 tyX12_ok nmX12 hown hK hP hD hS 0 rfl rfl 7 (by decide) (hg _ w1713) (fun _ h9 => h9) rfl (tyX12_ok 7 (by decide)) rfl rfl (Nat.le_of_ble_eq_true rfl) dX12_named_72 (fun H locs hP hD hS => ?_)
          obtain ⟨V69, hV69⟩ : ∃ z, z = up2 V60 0 7 z68 := ⟨_, rfl⟩
          have hP : va_P D vwCl (mw ad kk ks.1 V69 L) H := by rw [hV69]; exact hP
          have hD : va_D A (mw ad kk ks.1 V69 L) := by rw [hV69]; exact hD
          have hMV69 : rgd bM V69 := hMV60.put hV69 (i_full _)
          have agV69 : agr [(0, 7), (0, 8)] [] V V69 := agV60.up hV69 rfl
          refine lv_iload hx hb dX12_named_75 (lv_at hl 0 rfl) ?_
          have pq70 : (V69 0 7).toInt = z68.toInt := congrArg Int32.toInt (up2_s hV69)
          have pq71 : (V69 0 8).toInt = ((V60 0 8)).toInt := congrArg Int32.toInt (up2_k hV69 (by decide))
          exact W.iret (v := (-1)) hx hb hr (fun t ht hW => ⟨⟨(-1), (V69, L), rfl, ⟨hMV69, agV69, rfl, (by decide), (Imp.mk (fun hp => have hp : (V69 0 8).toInt = 0 := hp; (show 0 ≤ (V69 0 7).toInt ∧ (V69 0 7).toInt ≤ n ∧ (V 0 8).toInt = 0 ∧ (V 0 7).toInt ≤ (V69 0 7).toInt from by first | omega | ((try (have i_hz68 := Imp.go hz68 (by omega))); (try (have i_t19 := Imp.go t19 (by omega))); (try (have i_x3 := Imp.go x3 (by omega))); (try (have i_x3 := Imp.go x3 (by omega))); (try (have i_t19 := Imp.go t19 (by omega))); (try (have i_hz68 := Imp.go hz68 (by omega))); omega)))), (show (-1) < p2.toInt from by first | exact om_550cdc110816 rg_p2.1 | first | omega | ((try (have i_hz68 := Imp.go hz68 (by omega))); (try (have i_t19 := Imp.go t19 (by omega))); (try (have i_x3 := Imp.go x3 (by omega))); (try (have i_x3 := Imp.go x3 (by omega))); (try (have i_t19 := Imp.go t19 (by omega))); (try (have i_hz68 := Imp.go hz68 (by omega))); omega)), (Imp.mk (fun hp => have hp : (V69 0 8).toInt = 0 := hp; (show 0 ≤ (-1) from by first | omega | ((try (have i_hz68 := Imp.go hz68 (by omega))); (try (have i_t19 := Imp.go t19 (by omega))); (try (have i_x3 := Imp.go x3 (by omega))); (try (have i_x3 := Imp.go x3 (by omega))); (try (have i_t19 := Imp.go t19 (by omega))); (try (have i_hz68 := Imp.go hz68 (by omega))); omega)))), (Imp.mk (fun hp => have hp : (V69 0 8).toInt = 0 := hp; (show (V 0 7).toInt + 1 ≤ (V69 0 7).toInt from by first | omega | ((try (have i_hz68 := Imp.go hz68 (by omega))); (try (have i_t19 := Imp.go t19 (by omega))); (try (have i_x3 := Imp.go x3 (by omega))); (try (have i_x3 := Imp.go x3 (by omega))); (try (have i_t19 := Imp.go t19 (by omega))); (try (have i_hz68 := Imp.go hz68 (by omega))); omega))))⟩, by rw [ht]; exact hP, va_K.moved hW.alike hK, hD⟩, hS.F ht⟩) hS.2.2 dX12_named_77
        · skip
          have f72 : ((V60 0 8)).toInt = 0 := b_eq rfl (by decide) c65
          exfalso; first | exact om_b02ddf2a5870 t59 f64 f72 | first | omega | ((try (have i_t19 := Imp.go t19 (by omega))); (try (have i_x3 := Imp.go x3 (by omega))); (try (have i_x3 := Imp.go x3 (by omega))); (try (have i_t19 := Imp.go t19 (by omega))); omega)
      · skip
        have f73 : ((V60 0 8)).toInt = 0 := b_eq rfl (by decide) c63
        exfalso; first | exact om_09885ab343b9 t59 f73 | first | omega | ((try (have i_t19 := Imp.go t19 (by omega))); (try (have i_x3 := Imp.go x3 (by omega))); (try (have i_x3 := Imp.go x3 (by omega))); (try (have i_t19 := Imp.go t19 (by omega))); omega)
abbrev r_s_takeType : Room := { frames := 2, cells := 0, slots := 0, locals := 51 }
abbrev q_s_takeType (D : va_G) (ks : KS) (ad : Nat → Nat) (kk : Nat → ClassId) (V : Vf) (L : Lf) (n : Nat) (A : Nat → Prop) : Array Value → State → Outcome → State → Prop := va_Qi (fun (r : Int32) (u : Vf × Lf) => rgd bM u.1 ∧ agr [(0, 7), (0, 8)] [] V u.1 ∧ u.2 = L ∧ ((-1) ≤ r.toInt ∧ r.toInt ≤ 23) ∧ (Imp ((u.1 0 8).toInt = 0) (0 ≤ (u.1 0 7).toInt ∧ (u.1 0 7).toInt ≤ n ∧ (V 0 8).toInt = 0 ∧ (V 0 7).toInt ≤ (u.1 0 7).toInt)) ∧ (Imp ((u.1 0 8).toInt = 0) (0 ≤ r.toInt)) ∧ (Imp ((u.1 0 8).toInt = 0) ((V 0 7).toInt + 1 ≤ (u.1 0 7).toInt))) (fun u t => gq D A (mw ad kk ks.1 u.1 u.2) (mty kk) t) A
set_option maxHeartbeats 4000000 in
set_option maxRecDepth 100000 in
theorem s_takeType (l : Launch) (D : va_G) (ks : KS) (sz : Nat) (ad : Nat → Nat) (kk : Nat → ClassId) (V : Vf) (L : Lf) (n : Nat) (hMV : rgd bM V) (x1 : (V 4 n).toInt = 0) (x2 : n ≤ 4000) (x3 : Imp ((V 0 8).toInt = 0) (0 ≤ (V 0 7).toInt ∧ (V 0 7).toInt ≤ n))  : Met l yX12_takeType (Cond.code yX12_takeType cX12_takeType 1 (some .int) :: GW) r_s_takeType (va_Pc [.ref (ad 0)] (gp D ks (mw ad kk ks.1 V L) (mty kk) sz)) (q_s_takeType D ks ad kk V L  n (va_A (mw ad kk ks.1 V L) sz)) 0 0 (va_A (mw ad kk ks.1 V L) sz) := by
  refine g_met (q_s_takeType D ks ad kk V L  n) (by decide) (Nat.le_of_ble_eq_true rfl) ?_
  intro p e s m below meth c A ls H locs hx hb hr hml hown hg hlocks hin hnw hgk hP hK hD hS hA hl
  replace hown : s.vm.findClass RX12 = some m.cls := hown
  replace hl : lv_has ls 1 [(0, .ref (ad 0))] := hl
  replace hP : va_P D vwCl (mw ad kk ks.1 V L) H := hP
  replace hD : va_D A (mw ad kk ks.1 V L) := hD
  replace hK : va_K D vwCl (mty kk) s := hK
  have agV : agr [(0, 7), (0, 8)] [] V V := agr.rf
  have r1 : 0 ≤ ((V 0 8)).toInt ∧ ((V 0 8)).toInt ≤ 70000 := hMV 0 8
  refine lv_aload_n hx hb dX12_takeType_0 rfl (lv_at hl 0 rfl) ?_
  refine lv_aload_n hx hb dX12_takeType_1 rfl (lv_at hl 0 rfl) ?_
  refine va_get (D := D) (ci := 12) (v := .ref (ad 14)) (C := RX12) (T := TX12) (N := 100) hx hb hg inX12 hown hK hP 0 rfl rfl 14 (by decide) (hg _ w1720) (fun _ h9 => h9) rfl dX12_takeType_2 ?_
  refine lv_bipush (v := 24) hx hb dX12_takeType_5 (by decide) ?_
  refine lv_aload_n hx hb dX12_takeType_7 rfl (lv_at hl 0 rfl) ?_
  refine va_get (D := D) (ci := 12) (v := .int (V 0 12)) (C := RX12) (T := TX12) (N := 100) hx hb hg inX12 hown hK hP 0 rfl rfl 12 (by decide) (hg _ w1718) (fun _ h9 => h9) rfl dX12_takeType_8 ?_
  have r2 : 0 ≤ ((V 0 12)).toInt ∧ ((V 0 12)).toInt ≤ 1 := hMV 0 12
  refine lv_imul hx hb dX12_takeType_11 ?_
  refine lv_topi (fun z3 ez3 => ?_)
  have hz3 : z3.toInt = 24 * ((V 0 12)).toInt := i_mul ez3 (by decide) rfl (by (first | exact om_3f8aba7b6ce1 r2.1 r2.2 | omega))
  refine lv_aload_n hx hb dX12_takeType_12 rfl (lv_at hl 0 rfl) ?_
  refine va_get (D := D) (ci := 12) (v := .ref (ad 13)) (C := RX12) (T := TX12) (N := 100) hx hb hg inX12 hown hK hP 0 rfl rfl 13 (by decide) (hg _ w1719) (fun _ h9 => h9) rfl dX12_takeType_13 ?_
  refine lv_aload_n hx hb dX12_takeType_16 rfl (lv_at hl 0 rfl) ?_
  refine va_get (D := D) (ci := 12) (v := .int (V 0 12)) (C := RX12) (T := TX12) (N := 100) hx hb hg inX12 hown hK hP 0 rfl rfl 12 (by decide) (hg _ w1718) (fun _ h9 => h9) rfl dX12_takeType_17 ?_
  refine va_iald (D := D) (i := (V 0 12)) hx hb hK hP 6 5 rfl rfl (i_in (a := ((V 0 12)).toInt) rfl (by first | exact om_8367a84723c7 r2.1 r2.2 | first | omega | ((try (have i_x3 := Imp.go x3 (by omega))); omega))) dX12_takeType_20 ?_
  have r4 : 0 ≤ ((V 13 (Int32.toNatClampNeg (V 0 12)))).toInt ∧ ((V 13 (Int32.toNatClampNeg (V 0 12)))).toInt ≤ 24 := hMV 13 (Int32.toNatClampNeg (V 0 12))
  refine gA_int (gA_runV (As := [.ref (ad 14), .int z3, .int (V 13 (Int32.toNatClampNeg (V 0 12)))]) (rest := []) (ci := 12) (q0 := 0) hx hb hml hown hg hP hD hK hS hA hnw hgk (s_named_typeName l D ks H.size ad kk V L z3 (V 13 (Int32.toNatClampNeg (V 0 12))) (n) hMV (by first | exact om_c44c09625d4d r2.1 r2.2 hz3 | first | omega | ((try (have i_x3 := Imp.go x3 (by omega))); omega)) (by first | exact om_f82fee59341f r4.1 r4.2 | first | omega | ((try (have i_x3 := Imp.go x3 (by omega))); omega)) (show (V 4 (n)).toInt = 0 from by first | exact om_b66ba74381d5 x1 | first | omega | ((try (have i_x3 := Imp.go x3 (by omega))); omega)) (show (n) ≤ 4000 from by first | exact om_af64e361c991 x2 | first | omega | ((try (have i_x3 := Imp.go x3 (by omega))); omega)) (Imp.mk (fun hp => have hp : (V 0 8).toInt = 0 := hp; (show 0 ≤ (V 0 7).toInt ∧ (V 0 7).toInt ≤ (n) from by first | exact om_408b46baf51e ((Imp.go x3 (hp)).1) ((Imp.go x3 (hp)).2) | first | omega | ((try (have i_x3 := Imp.go x3 (by omega))); omega)))) (show z3.toInt + ((V 13 (Int32.toNatClampNeg (V 0 12)))).toInt ≤ 48 from by first | exact om_6f18d472129c r2.2 hz3 r4.2 | first | omega | ((try (have i_x3 := Imp.go x3 (by omega))); omega))) w2063 w2065 w93 w172 w2066 rfl rfl hdV_yX12_named ⟨Nat.le_of_ble_eq_true rfl, Nat.le_of_ble_eq_true rfl⟩ rfl hl.1 rfl (Nat.le_of_ble_eq_true rfl) dX12_takeType_21 ⟨Nat.le_of_ble_eq_true rfl, Nat.le_of_ble_eq_true rfl⟩) hP hD hK hS hA (fun z5 u6 H locs w7 hP hD hK hS => ?_)
  obtain ⟨V12, L13⟩ := u6
  obtain ⟨hMV12, ajV12, axL13, rgz5, t8, t9, t10, t11⟩ := w7
  have axL13 : L = L13 := Eq.symm axL13
  subst axL13
  replace hP : va_P D vwCl (mw ad kk ks.1 V12 L) H := hP
  replace hD : va_D A (mw ad kk ks.1 V12 L) := hD
  replace hMV12 : rgd bM V12 := hMV12
  replace ajV12 : agr [(0, 7), (0, 8)] [] V V12 := ajV12
  have agV12 : agr [(0, 7), (0, 8)] [] V V12 := agV.tr ajV12 (by decide) (by decide)
  replace rgz5 : (-1) ≤ z5.toInt ∧ z5.toInt ≤ 47 := rgz5
  replace t8 : Imp ((V12 0 8).toInt = 0) (0 ≤ (V12 0 7).toInt ∧ (V12 0 7).toInt ≤ (n) ∧ (V 0 8).toInt = 0 ∧ (V 0 7).toInt ≤ (V12 0 7).toInt) := t8
  replace t9 : z5.toInt < ((V 13 (Int32.toNatClampNeg (V 0 12)))).toInt := t9
  replace t10 : Imp ((V12 0 8).toInt = 0) (0 ≤ z5.toInt) := t10
  replace t11 : Imp ((V12 0 8).toInt = 0) ((V 0 7).toInt + 1 ≤ (V12 0 7).toInt) := t11
  have r14 : 0 ≤ ((V12 0 8)).toInt ∧ ((V12 0 8)).toInt ≤ 70000 := hMV12 0 8
  exact W.iret (v := z5) hx hb hr (fun t ht hW => ⟨⟨z5, (V12, L), rfl, ⟨hMV12, agV12, rfl, (show (-1) ≤ z5.toInt ∧ z5.toInt ≤ 23 from by first | exact om_e7d21c7dc115 r4.2 rgz5.1 t9 | first | omega | ((try (have i_t11 := Imp.go t11 (by omega))); (try (have i_t10 := Imp.go t10 (by omega))); (try (have i_t8 := Imp.go t8 (by omega))); (try (have i_x3 := Imp.go x3 (by omega))); first | omega | ((try (have i_x3 := Imp.go x3 (by omega))); (try (have i_t8 := Imp.go t8 (by omega))); (try (have i_t10 := Imp.go t10 (by omega))); (try (have i_t11 := Imp.go t11 (by omega))); omega))), (Imp.mk (fun hp => have hp : (V12 0 8).toInt = 0 := hp; (show 0 ≤ (V12 0 7).toInt ∧ (V12 0 7).toInt ≤ n ∧ (V 0 8).toInt = 0 ∧ (V 0 7).toInt ≤ (V12 0 7).toInt from by first | exact om_904d3583bf2f r1.1 ((Imp.go t8 (hp)).2.1) ((Imp.go t8 (hp)).2.2.1) ((Imp.go t11 (hp))) ((Imp.go x3 ((Imp.go t8 (hp)).2.2.1)).1) | first | omega | ((try (have i_t11 := Imp.go t11 (hp))); (try (have i_t10 := Imp.go t10 (hp))); (try (have i_t8 := Imp.go t8 (hp))); (try (have i_x3 := Imp.go x3 (i_t8.2.2.1))); omega) | ((try (have i_t11 := Imp.go t11 (by omega))); (try (have i_t10 := Imp.go t10 (by omega))); (try (have i_t8 := Imp.go t8 (by omega))); (try (have i_x3 := Imp.go x3 (by omega))); first | omega | ((try (have i_x3 := Imp.go x3 (by omega))); (try (have i_t8 := Imp.go t8 (by omega))); (try (have i_t10 := Imp.go t10 (by omega))); (try (have i_t11 := Imp.go t11 (by omega))); omega))))), (Imp.mk (fun hp => have hp : (V12 0 8).toInt = 0 := hp; (show 0 ≤ z5.toInt from by first | exact om_eafa9039069c ((Imp.go t10 (hp))) | first | omega | ((try (have i_t11 := Imp.go t11 (hp))); (try (have i_t10 := Imp.go t10 (hp))); (try (have i_t8 := Imp.go t8 (hp))); (try (have i_x3 := Imp.go x3 (i_t8.2.2.1))); omega) | ((try (have i_t11 := Imp.go t11 (by omega))); (try (have i_t10 := Imp.go t10 (by omega))); (try (have i_t8 := Imp.go t8 (by omega))); (try (have i_x3 := Imp.go x3 (by omega))); first | omega | ((try (have i_x3 := Imp.go x3 (by omega))); (try (have i_t8 := Imp.go t8 (by omega))); (try (have i_t10 := Imp.go t10 (by omega))); (try (have i_t11 := Imp.go t11 (by omega))); omega))))), (Imp.mk (fun hp => have hp : (V12 0 8).toInt = 0 := hp; (show (V 0 7).toInt + 1 ≤ (V12 0 7).toInt from by first | exact om_e79a1b254bd1 ((Imp.go t11 (hp))) | first | omega | ((try (have i_t11 := Imp.go t11 (hp))); (try (have i_t10 := Imp.go t10 (hp))); (try (have i_t8 := Imp.go t8 (hp))); (try (have i_x3 := Imp.go x3 (i_t8.2.2.1))); omega) | ((try (have i_t11 := Imp.go t11 (by omega))); (try (have i_t10 := Imp.go t10 (by omega))); (try (have i_t8 := Imp.go t8 (by omega))); (try (have i_x3 := Imp.go x3 (by omega))); first | omega | ((try (have i_x3 := Imp.go x3 (by omega))); (try (have i_t8 := Imp.go t8 (by omega))); (try (have i_t10 := Imp.go t10 (by omega))); (try (have i_t11 := Imp.go t11 (by omega))); omega)))))⟩, by rw [ht]; exact hP, va_K.moved hW.alike hK, hD⟩, hS.F ht⟩) hS.2.2 dX12_takeType_24
abbrev r_s_takeWordOf_methods : Room := { frames := 1, cells := 0, slots := 0, locals := 27 }
abbrev q_s_takeWordOf_methods (D : va_G) (ks : KS) (ad : Nat → Nat) (kk : Nat → ClassId) (V : Vf) (L : Lf) (n : Nat) (A : Nat → Prop) : Array Value → State → Outcome → State → Prop := va_Qi (fun (r : Int32) (u : Vf × Lf) => rgd bM u.1 ∧ agr [(0, 7), (0, 8)] [35, 36, 37, 38] V u.1 ∧ agL [35, 36, 37, 38] L u.2 ∧ ((-1) ≤ r.toInt ∧ r.toInt ≤ 19) ∧ (Imp ((u.1 0 8).toInt = 0) (0 ≤ (u.1 0 7).toInt ∧ (u.1 0 7).toInt ≤ n ∧ (V 0 8).toInt = 0 ∧ (V 0 7).toInt ≤ (u.1 0 7).toInt)) ∧ (Imp ((u.1 0 8).toInt = 0) (0 ≤ r.toInt)) ∧ (Imp ((u.1 0 8).toInt = 0) ((V 0 7).toInt + 1 ≤ (u.1 0 7).toInt))) (fun u t => gq D A (mw ad kk ks.1 u.1 u.2) (mty kk) t) A
set_option maxHeartbeats 4000000 in
set_option maxRecDepth 100000 in
theorem s_takeWordOf_methods (l : Launch) (D : va_G) (ks : KS) (sz : Nat) (ad : Nat → Nat) (kk : Nat → ClassId) (V : Vf) (L : Lf) (n : Nat) (hMV : rgd bM V) (x1 : (V 4 n).toInt = 0) (x2 : n ≤ 4000) (x3 : Imp ((V 0 8).toInt = 0) (0 ≤ (V 0 7).toInt ∧ (V 0 7).toInt ≤ n))  : Met l yX12_takeWordOf (Cond.code yX12_takeWordOf cX12_takeWordOf 4 (some .int) :: GW) r_s_takeWordOf_methods (va_Pc [.ref (ad 0), .ref (ad 36), .ref (ad 35)] (gp D ks (mw ad kk ks.1 V L) (mty kk) sz)) (q_s_takeWordOf_methods D ks ad kk V L  n (va_A (mw ad kk ks.1 V L) sz)) 0 0 (va_A (mw ad kk ks.1 V L) sz) := by
  refine g_met (q_s_takeWordOf_methods D ks ad kk V L  n) (by decide) (Nat.le_of_ble_eq_true rfl) ?_
  intro p e s m below meth c A ls H locs hx hb hr hml hown hg hlocks hin hnw hgk hP hK hD hS hA hl
  replace hown : s.vm.findClass RX12 = some m.cls := hown
  replace hl : lv_has ls 4 [(0, .ref (ad 0)), (1, .ref (ad 36)), (2, .ref (ad 35))] := hl
  replace hP : va_P D vwCl (mw ad kk ks.1 V L) H := hP
  replace hD : va_D A (mw ad kk ks.1 V L) := hD
  replace hK : va_K D vwCl (mty kk) s := hK
  have agV : agr [(0, 7), (0, 8)] [35, 36, 37, 38] V V := agr.rf
  have alL : agL [35, 36, 37, 38] L L := agL.rf
  have r1 : 0 ≤ ((V 0 8)).toInt ∧ ((V 0 8)).toInt ≤ 70000 := hMV 0 8
  refine lv_aload_n hx hb dX12_takeWordOf_0 rfl (lv_at hl 0 rfl) ?_
  refine va_get (D := D) (ci := 12) (v := .int (V 0 8)) (C := RX12) (T := TX12) (N := 100) hx hb hg inX12 hown hK hP 0 rfl rfl 8 (by decide) (hg _ w1714) (fun _ h9 => h9) rfl dX12_takeWordOf_1 ?_
  refine lv_if_ne (tgt := 19) hx hb dX12_takeWordOf_4 (by decide) (fun c2 => ?_) (fun c2 => ?_)
  · skip
    have f3 : ((V 0 8)).toInt ≠ 0 := b_neq rfl (by decide) c2
    refine lv_aload_n hx hb dX12_takeWordOf_19 rfl (lv_at hl 0 rfl) ?_
    refine va_get (D := D) (ci := 12) (v := .int (V 0 8)) (C := RX12) (T := TX12) (N := 100) hx hb hg inX12 hown hK hP 0 rfl rfl 8 (by decide) (hg _ w1714) (fun _ h9 => h9) rfl dX12_takeWordOf_20 ?_
    refine lv_if_ne (tgt := 56) hx hb dX12_takeWordOf_23 (by decide) (fun c4 => ?_) (fun c4 => ?_)
    · skip
      have f5 : ((V 0 8)).toInt ≠ 0 := b_neq rfl (by decide) c4
      refine lv_iconst (v := (-1)) hx hb dX12_takeWordOf_56 (by decide) ?_
      refine lv_istore_n (lv' := [(3, .int (-1)), (0, .ref (ad 0)), (1, .ref (ad 36)), (2, .ref (ad 35))]) hx hb dX12_takeWordOf_57 rfl hl (by decide) rfl (fun ls hl => ?_)
      refine lv_aload_n hx hb dX12_takeWordOf_58 rfl (lv_at hl 1 rfl) ?_
      refine va_get (D := D) (ci := 12) (v := .int (V 0 8)) (C := RX12) (T := TX12) (N := 100) hx hb hg inX12 hown hK hP 0 rfl rfl 8 (by decide) (hg _ w1714) (fun _ h9 => h9) rfl dX12_takeWordOf_59 ?_
      refine lv_if_ne (tgt := 85) hx hb dX12_takeWordOf_62 (by decide) (fun c6 => ?_) (fun c6 => ?_)
      · skip
        have f7 : ((V 0 8)).toInt ≠ 0 := b_neq rfl (by decide) c6
        refine lv_aload_n hx hb dX12_takeWordOf_85 rfl (lv_at hl 1 rfl) ?_
        refine va_get (D := D) (ci := 12) (v := .int (V 0 8)) (C := RX12) (T := TX12) (N := 100) hx hb hg inX12 hown hK hP 0 rfl rfl 8 (by decide) (hg _ w1714) (fun _ h9 => h9) rfl dX12_takeWordOf_86 ?_
        refine lv_if_ne (tgt := 133) hx hb dX12_takeWordOf_89 (by decide) (fun c8 => ?_) (fun c8 => ?_)
        · skip
          have f9 : ((V 0 8)).toInt ≠ 0 := b_neq rfl (by decide) c8
          refine lv_aload_n hx hb dX12_takeWordOf_133 rfl (lv_at hl 1 rfl) ?_
          refine lv_dup hx hb dX12_takeWordOf_134 rfl ?_
          refine va_get (D := D) (ci := 12) (v := .int (V 0 7)) (C := RX12) (T := TX12) (N := 100) hx hb hg inX12 hown hK hP 0 rfl rfl 7 (by decide) (hg _ w1713) (fun _ h9 => h9) rfl dX12_takeWordOf_135 ?_
          refine lv_iconst (v := 1) hx hb dX12_takeWordOf_138 (by decide) ?_
          refine lv_iadd hx hb dX12_takeWordOf_139 ?_
          have r10 := i_full (V 0 7)
          refine lv_topi (fun z11 ez11 => ?_)
          have hz11 : Imp (-2147483648 ≤ ((V 0 7)).toInt + 1 ∧ ((V 0 7)).toInt + 1 ≤ 2147483647) (z11.toInt = ((V 0 7)).toInt + 1) := Imp.mk (fun hp => i_add ez11 rfl (by decide) hp)
          refine va_put (D := D) (ci := 12) (v := .int z11) (ty := tyX12 7) (C := RX12) (T := TX12) (N := 100) hx hb hg inX12 tyX12 tyX12_ok nmX12 hown hK hP hD hS 0 rfl rfl 7 (by decide) (hg _ w1713) (fun _ h9 => h9) rfl (tyX12_ok 7 (by decide)) rfl rfl (Nat.le_of_ble_eq_true rfl) dX12_takeWordOf_140 (fun H locs hP hD hS => ?_)
          obtain ⟨V12, hV12⟩ : ∃ z, z = up2 V 0 7 z11 := ⟨_, rfl⟩
          have hP : va_P D vwCl (mw ad kk ks.1 V12 L) H := by rw [hV12]; exact hP
          have hD : va_D A (mw ad kk ks.1 V12 L) := by rw [hV12]; exact hD
          have hMV12 : rgd bM V12 := hMV.put hV12 (i_full _)
          have agV12 : agr [(0, 7), (0, 8)] [35, 36, 37, 38] V V12 := agV.up hV12 rfl
          refine lv_iload_n hx hb dX12_takeWordOf_143 rfl (lv_at hl 0 rfl) ?_
          have pq13 : (V12 0 7).toInt = z11.toInt := congrArg Int32.toInt (up2_s hV12)
          have pq14 : (V12 0 8).toInt = ((V 0 8)).toInt := congrArg Int32.toInt (up2_k hV12 (by decide))
          exact W.iret (v := (-1)) hx hb hr (fun t ht hW => ⟨⟨(-1), (V12, L), rfl, ⟨hMV12, agV12, alL, (by decide), (Imp.mk (fun hp => have hp : (V12 0 8).toInt = 0 := hp; (show 0 ≤ (V12 0 7).toInt ∧ (V12 0 7).toInt ≤ n ∧ (V 0 8).toInt = 0 ∧ (V 0 7).toInt ≤ (V12 0 7).toInt from by first | omega | ((try (have i_hz11 := Imp.go hz11 (by omega))); (try (have i_x3 := Imp.go x3 (by omega))); (try (have i_x3 := Imp.go x3 (by omega))); (try (have i_hz11 := Imp.go hz11 (by omega))); omega)))), (Imp.mk (fun hp => have hp : (V12 0 8).toInt = 0 := hp; (show 0 ≤ (-1) from by first | omega | ((try (have i_hz11 := Imp.go hz11 (by omega))); (try (have i_x3 := Imp.go x3 (by omega))); (try (have i_x3 := Imp.go x3 (by omega))); (try (have i_hz11 := Imp.go hz11 (by omega))); omega)))), (Imp.mk (fun hp => have hp : (V12 0 8).toInt = 0 := hp; (show (V 0 7).toInt + 1 ≤ (V12 0 7).toInt from by first | omega | ((try (have i_hz11 := Imp.go hz11 (by omega))); (try (have i_x3 := Imp.go x3 (by omega))); (try (have i_x3 := Imp.go x3 (by omega))); (try (have i_hz11 := Imp.go hz11 (by omega))); omega))))⟩, by rw [ht]; exact hP, va_K.moved hW.alike hK, hD⟩, hS.F ht⟩) hS.2.2 dX12_takeWordOf_144
        · skip
          have f15 : ((V 0 8)).toInt = 0 := b_eq rfl (by decide) c8
          exfalso; first | exact om_0abcda13baee r1.1 f3 f15 | first | omega | ((try (have i_x3 := Imp.go x3 (by omega))); omega)
      · skip
        have f16 : ((V 0 8)).toInt = 0 := b_eq rfl (by decide) c6
        exfalso; first | exact om_0abcda13baee r1.1 f3 f16 | first | omega | ((try (have i_x3 := Imp.go x3 (by omega))); omega)
    · skip
      have f17 : ((V 0 8)).toInt = 0 := b_eq rfl (by decide) c4
      exfalso; first | exact om_0abcda13baee r1.1 f3 f17 | first | omega | ((try (have i_x3 := Imp.go x3 (by omega))); omega)
  · skip
    have f18 : ((V 0 8)).toInt = 0 := b_eq rfl (by decide) c2
    refine lv_aload_n hx hb dX12_takeWordOf_7 rfl (lv_at hl 0 rfl) ?_
    refine gA_int (gA_runV (As := []) (rest := []) (ci := 12) (q0 := 0) hx hb hml hown hg hP hD hK hS hA hnw hgk (s_isName l D ks H.size ad kk V L (n) hMV (show (V 4 (n)).toInt = 0 from by first | exact om_b66ba74381d5 x1 | first | omega | ((try (have i_x3 := Imp.go x3 (by omega))); omega)) (show (n) ≤ 4000 from by first | exact om_af64e361c991 x2 | first | omega | ((try (have i_x3 := Imp.go x3 (by omega))); omega)) (Imp.mk (fun hp => have hp : (V 0 8).toInt = 0 := hp; (show 0 ≤ (V 0 7).toInt ∧ (V 0 7).toInt ≤ (n) from by first | exact om_408b46baf51e ((Imp.go x3 (hp)).1) ((Imp.go x3 (hp)).2) | first | omega | ((try (have i_x3 := Imp.go x3 (by omega))); omega))))) w2043 w2045 w88 w172 w2046 rfl rfl hdV_yX12_isName ⟨Nat.le_of_ble_eq_true rfl, Nat.le_of_ble_eq_true rfl⟩ rfl hl.1 rfl (Nat.le_of_ble_eq_true rfl) dX12_takeWordOf_8 ⟨Nat.le_of_ble_eq_true rfl, Nat.le_of_ble_eq_true rfl⟩) hP hD hK hS hA (fun z19 u20 H locs w21 hP hD hK hS => ?_)
    obtain ⟨rgz19, t22⟩ := w21
    replace rgz19 : 0 ≤ z19.toInt ∧ z19.toInt ≤ 1 := rgz19
    replace t22 : Imp (z19.toInt = 1) ((V 0 8).toInt = 0 ∧ 0 ≤ (V 0 7).toInt ∧ (V 0 7).toInt < (n)) := t22
    refine lv_if_ne (tgt := 19) hx hb dX12_takeWordOf_11 (by decide) (fun c23 => ?_) (fun c23 => ?_)
    · skip
      have f24 : z19.toInt ≠ 0 := b_neq rfl (by decide) c23
      refine lv_aload_n hx hb dX12_takeWordOf_19 rfl (lv_at hl 0 rfl) ?_
      refine va_get (D := D) (ci := 12) (v := .int (V 0 8)) (C := RX12) (T := TX12) (N := 100) hx hb hg inX12 hown hK hP 0 rfl rfl 8 (by decide) (hg _ w1714) (fun _ h9 => h9) rfl dX12_takeWordOf_20 ?_
      refine lv_if_ne (tgt := 56) hx hb dX12_takeWordOf_23 (by decide) (fun c25 => ?_) (fun c25 => ?_)
      · skip
        have f26 : ((V 0 8)).toInt ≠ 0 := b_neq rfl (by decide) c25
        exfalso; first | exact om_fb320d7600b7 r1.1 f18 f26 | first | omega | ((try (have i_t22 := Imp.go t22 (by omega))); (try (have i_x3 := Imp.go x3 (by omega))); (try (have i_x3 := Imp.go x3 (by omega))); (try (have i_t22 := Imp.go t22 (by omega))); omega)
      · skip
        have f27 : ((V 0 8)).toInt = 0 := b_eq rfl (by decide) c25
        refine lv_aload_n hx hb dX12_takeWordOf_26 rfl (lv_at hl 0 rfl) ?_
        refine lv_aload_n hx hb dX12_takeWordOf_27 rfl (lv_at hl 1 rfl) ?_
        refine lv_bipush (v := 20) hx hb dX12_takeWordOf_28 (by decide) ?_
        refine lv_aload_n hx hb dX12_takeWordOf_30 rfl (lv_at hl 0 rfl) ?_
        refine va_get (D := D) (ci := 12) (v := .int (V 0 12)) (C := RX12) (T := TX12) (N := 100) hx hb hg inX12 hown hK hP 0 rfl rfl 12 (by decide) (hg _ w1718) (fun _ h9 => h9) rfl dX12_takeWordOf_31 ?_
        have r28 : 0 ≤ ((V 0 12)).toInt ∧ ((V 0 12)).toInt ≤ 1 := hMV 0 12
        refine lv_imul hx hb dX12_takeWordOf_34 ?_
        refine lv_topi (fun z29 ez29 => ?_)
        have hz29 : z29.toInt = 20 * ((V 0 12)).toInt := i_mul ez29 (by decide) rfl (by (first | exact om_1c36e316c123 r28.1 r28.2 | omega))
        refine lv_aload_n hx hb dX12_takeWordOf_35 rfl (lv_at hl 2 rfl) ?_
        refine lv_aload_n hx hb dX12_takeWordOf_36 rfl (lv_at hl 0 rfl) ?_
        refine va_get (D := D) (ci := 12) (v := .int (V 0 12)) (C := RX12) (T := TX12) (N := 100) hx hb hg inX12 hown hK hP 0 rfl rfl 12 (by decide) (hg _ w1718) (fun _ h9 => h9) rfl dX12_takeWordOf_37 ?_
        refine va_iald (D := D) (i := (V 0 12)) hx hb hK hP 28 27 rfl rfl (i_in (a := ((V 0 12)).toInt) rfl (by first | exact om_8367a84723c7 r28.1 r28.2 | first | omega | ((try (have i_t22 := Imp.go t22 (by omega))); (try (have i_x3 := Imp.go x3 (by omega))); (try (have i_x3 := Imp.go x3 (by omega))); (try (have i_t22 := Imp.go t22 (by omega))); omega))) dX12_takeWordOf_40 ?_
        have r30 : 0 ≤ ((V 35 (Int32.toNatClampNeg (V 0 12)))).toInt ∧ ((V 35 (Int32.toNatClampNeg (V 0 12)))).toInt ≤ 20 := hMV 35 (Int32.toNatClampNeg (V 0 12))
        refine lv_aload_n hx hb dX12_takeWordOf_41 rfl (lv_at hl 0 rfl) ?_
        refine va_get (D := D) (ci := 12) (v := .ref (ad 6)) (C := RX12) (T := TX12) (N := 100) hx hb hg inX12 hown hK hP 0 rfl rfl 6 (by decide) (hg _ w1712) (fun _ h9 => h9) rfl dX12_takeWordOf_42 ?_
        refine lv_aload_n hx hb dX12_takeWordOf_45 rfl (lv_at hl 0 rfl) ?_
        refine va_get (D := D) (ci := 12) (v := .int (V 0 7)) (C := RX12) (T := TX12) (N := 100) hx hb hg inX12 hown hK hP 0 rfl rfl 7 (by decide) (hg _ w1713) (fun _ h9 => h9) rfl dX12_takeWordOf_46 ?_
        refine va_lald (D := D) (i := (V 0 7)) hx hb hK hP 4 3 rfl rfl (i_in (a := ((V 0 7)).toInt) rfl (by first | exact om_4d9bfa19b181 x2 ((Imp.go x3 (f27)).1) ((Imp.go t22 (imp_a (rgz19.1) (rgz19.2) (f24))).2.2) | first | omega | ((try (have i_t22 := Imp.go t22 (by omega))); (try (have i_x3 := Imp.go x3 (by omega))); (try (have i_x3 := Imp.go x3 (by omega))); (try (have i_t22 := Imp.go t22 (by omega))); omega))) dX12_takeWordOf_49 ?_
        refine lv_topl (fun w31 ew31 => ?_)
        refine gA_int (gA_runV (As := [.ref (ad 36), .int z29, .int (V 35 (Int32.toNatClampNeg (V 0 12))), .long w31]) (rest := []) (ci := 12) (q0 := 0) hx hb hml hown hg hP hD hK hS hA hnw hgk (s_find_methodName l D ks H.size ad kk V L z29 (V 35 (Int32.toNatClampNeg (V 0 12))) w31 hMV (by first | exact om_c7296700d4dd r28.1 r28.2 hz29 | first | omega | ((try (have i_t22 := Imp.go t22 (by omega))); (try (have i_x3 := Imp.go x3 (by omega))); (try (have i_x3 := Imp.go x3 (by omega))); (try (have i_t22 := Imp.go t22 (by omega))); omega)) (by first | exact om_ad40d0ac5b52 r30.1 r30.2 | first | omega | ((try (have i_t22 := Imp.go t22 (by omega))); (try (have i_x3 := Imp.go x3 (by omega))); (try (have i_x3 := Imp.go x3 (by omega))); (try (have i_t22 := Imp.go t22 (by omega))); omega)) (show z29.toInt + ((V 35 (Int32.toNatClampNeg (V 0 12)))).toInt ≤ 40 from by first | exact om_03a4a2dc5d03 r28.2 hz29 r30.2 | first | omega | ((try (have i_t22 := Imp.go t22 (by omega))); (try (have i_x3 := Imp.go x3 (by omega))); (try (have i_x3 := Imp.go x3 (by omega))); (try (have i_t22 := Imp.go t22 (by omega))); omega))) w2047 w2049 w89 w172 w2050 rfl rfl hdV_yX12_find ⟨Nat.le_of_ble_eq_true rfl, Nat.le_of_ble_eq_true rfl⟩ rfl hl.1 rfl (Nat.le_of_ble_eq_true rfl) dX12_takeWordOf_50 ⟨Nat.le_of_ble_eq_true rfl, Nat.le_of_ble_eq_true rfl⟩) hP hD hK hS hA (fun z32 u33 H locs w34 hP hD hK hS => ?_)
        obtain ⟨rgz32, t35⟩ := w34
        replace rgz32 : (-1) ≤ z32.toInt ∧ z32.toInt ≤ 47 := rgz32
        replace t35 : z32.toInt < ((V 35 (Int32.toNatClampNeg (V 0 12)))).toInt := t35
        refine lv_goto (tgt := 57) hx hb dX12_takeWordOf_53 (by decide) ?_
        refine lv_istore_n (lv' := [(3, .int z32), (0, .ref (ad 0)), (1, .ref (ad 36)), (2, .ref (ad 35))]) hx hb dX12_takeWordOf_57 rfl hl (by decide) rfl (fun ls hl => ?_)
        refine lv_aload_n hx hb dX12_takeWordOf_58 rfl (lv_at hl 1 rfl) ?_
        refine va_get (D := D) (ci := 12) (v := .int (V 0 8)) (C := RX12) (T := TX12) (N := 100) hx hb hg inX12 hown hK hP 0 rfl rfl 8 (by decide) (hg _ w1714) (fun _ h9 => h9) rfl dX12_takeWordOf_59 ?_
        refine lv_if_ne (tgt := 85) hx hb dX12_takeWordOf_62 (by decide) (fun c36 => ?_) (fun c36 => ?_)
        · skip
          have f37 : ((V 0 8)).toInt ≠ 0 := b_neq rfl (by decide) c36
          exfalso; first | exact om_fb320d7600b7 r1.1 f18 f37 | first | omega | ((try (have i_t22 := Imp.go t22 (by omega))); (try (have i_x3 := Imp.go x3 (by omega))); (try (have i_x3 := Imp.go x3 (by omega))); (try (have i_t22 := Imp.go t22 (by omega))); omega)
        · skip
          have f38 : ((V 0 8)).toInt = 0 := b_eq rfl (by decide) c36
          refine lv_iload_n hx hb dX12_takeWordOf_65 rfl (lv_at hl 0 rfl) ?_
          refine lv_if_ge (tgt := 85) hx hb dX12_takeWordOf_66 (by decide) (fun c39 => ?_) (fun c39 => ?_)
          · skip
            have f40 : 0 ≤ z32.toInt := b_le (by decide) rfl c39
            refine lv_aload_n hx hb dX12_takeWordOf_85 rfl (lv_at hl 1 rfl) ?_
            refine va_get (D := D) (ci := 12) (v := .int (V 0 8)) (C := RX12) (T := TX12) (N := 100) hx hb hg inX12 hown hK hP 0 rfl rfl 8 (by decide) (hg _ w1714) (fun _ h9 => h9) rfl dX12_takeWordOf_86 ?_
            refine lv_if_ne (tgt := 133) hx hb dX12_takeWordOf_89 (by decide) (fun c41 => ?_) (fun c41 => ?_)
            · skip
              have f42 : ((V 0 8)).toInt ≠ 0 := b_neq rfl (by decide) c41
              exfalso; first | exact om_fb320d7600b7 r1.1 f18 f42 | first | omega | ((try (have i_t22 := Imp.go t22 (by omega))); (try (have i_x3 := Imp.go x3 (by omega))); (try (have i_x3 := Imp.go x3 (by omega))); (try (have i_t22 := Imp.go t22 (by omega))); omega)
            · skip
              have f43 : ((V 0 8)).toInt = 0 := b_eq rfl (by decide) c41
              refine lv_iload_n hx hb dX12_takeWordOf_92 rfl (lv_at hl 0 rfl) ?_
              refine lv_if_ge (tgt := 133) hx hb dX12_takeWordOf_93 (by decide) (fun c44 => ?_) (fun c44 => ?_)
              · skip
                have f45 : 0 ≤ z32.toInt := b_le (by decide) rfl c44
                refine lv_aload_n hx hb dX12_takeWordOf_133 rfl (lv_at hl 1 rfl) ?_
                refine lv_dup hx hb dX12_takeWordOf_134 rfl ?_
                refine va_get (D := D) (ci := 12) (v := .int (V 0 7)) (C := RX12) (T := TX12) (N := 100) hx hb hg inX12 hown hK hP 0 rfl rfl 7 (by decide) (hg _ w1713) (fun _ h9 => h9) rfl dX12_takeWordOf_135 ?_
                refine lv_iconst (v := 1) hx hb dX12_takeWordOf_138 (by decide) ?_
                refine lv_iadd hx hb dX12_takeWordOf_139 ?_
                have r46 := i_full (V 0 7)
                refine lv_topi (fun z47 ez47 => ?_)
                have hz47 : Imp (-2147483648 ≤ ((V 0 7)).toInt + 1 ∧ ((V 0 7)).toInt + 1 ≤ 2147483647) (z47.toInt = ((V 0 7)).toInt + 1) := Imp.mk (fun hp => i_add ez47 rfl (by decide) hp)
                refine va_put (D := D) (ci := 12) (v := .int z47) (ty := tyX12 7) (C := RX12) (T := TX12) (N := 100) hx hb hg inX12 tyX12 tyX12_ok nmX12 hown hK hP hD hS 0 rfl rfl 7 (by decide) (hg _ w1713) (fun _ h9 => h9) rfl (tyX12_ok 7 (by decide)) rfl rfl (Nat.le_of_ble_eq_true rfl) dX12_takeWordOf_140 (fun H locs hP hD hS => ?_)
                obtain ⟨V48, hV48⟩ : ∃ z, z = up2 V 0 7 z47 := ⟨_, rfl⟩
                have hP : va_P D vwCl (mw ad kk ks.1 V48 L) H := by rw [hV48]; exact hP
                have hD : va_D A (mw ad kk ks.1 V48 L) := by rw [hV48]; exact hD
                have hMV48 : rgd bM V48 := hMV.put hV48 (i_full _)
                have agV48 : agr [(0, 7), (0, 8)] [35, 36, 37, 38] V V48 := agV.up hV48 rfl
                refine lv_iload_n hx hb dX12_takeWordOf_143 rfl (lv_at hl 0 rfl) ?_
                have pq49 : (V48 0 7).toInt = z47.toInt := congrArg Int32.toInt (up2_s hV48)
                have pq50 : (V48 0 8).toInt = ((V 0 8)).toInt := congrArg Int32.toInt (up2_k hV48 (by decide))
                exact W.iret (v := z32) hx hb hr (fun t ht hW => ⟨⟨z32, (V48, L), rfl, ⟨hMV48, agV48, alL, (show (-1) ≤ z32.toInt ∧ z32.toInt ≤ 19 from by first | exact om_3625e73a4d19 r30.2 t35 f40 | first | omega | ((try (have i_hz47 := Imp.go hz47 (by omega))); (try (have i_t22 := Imp.go t22 (by omega))); (try (have i_x3 := Imp.go x3 (by omega))); (try (have i_x3 := Imp.go x3 (by omega))); (try (have i_t22 := Imp.go t22 (by omega))); (try (have i_hz47 := Imp.go hz47 (by omega))); omega)), (Imp.mk (fun hp => have hp : (V48 0 8).toInt = 0 := hp; (show 0 ≤ (V48 0 7).toInt ∧ (V48 0 7).toInt ≤ n ∧ (V 0 8).toInt = 0 ∧ (V 0 7).toInt ≤ (V48 0 7).toInt from by first | exact om_b7d372ddba67 r1.1 f18 pq49 ((Imp.go x3 (f43)).1) ((Imp.go t22 (imp_a (rgz19.1) (rgz19.2) (f24))).2.2) ((Imp.go hz47 (om_053a02be3074 x2 ((Imp.go x3 (f43)).1) ((Imp.go t22 (imp_a (rgz19.1) (rgz19.2) (f24))).2.2)))) | first | omega | ((try (have i_hz47 := Imp.go hz47 (by omega))); (try (have i_t22 := Imp.go t22 (by omega))); (try (have i_x3 := Imp.go x3 (by omega))); (try (have i_x3 := Imp.go x3 (by omega))); (try (have i_t22 := Imp.go t22 (by omega))); (try (have i_hz47 := Imp.go hz47 (by omega))); omega)))), (Imp.mk (fun hp => have hp : (V48 0 8).toInt = 0 := hp; (show 0 ≤ z32.toInt from by first | exact om_eafa9039069c f40 | first | omega | ((try (have i_hz47 := Imp.go hz47 (by omega))); (try (have i_t22 := Imp.go t22 (by omega))); (try (have i_x3 := Imp.go x3 (by omega))); (try (have i_x3 := Imp.go x3 (by omega))); (try (have i_t22 := Imp.go t22 (by omega))); (try (have i_hz47 := Imp.go hz47 (by omega))); omega)))), (Imp.mk (fun hp => have hp : (V48 0 8).toInt = 0 := hp; (show (V 0 7).toInt + 1 ≤ (V48 0 7).toInt from by first | exact om_202eeafe7f37 pq49 ((Imp.go hz47 (om_053a02be3074 x2 ((Imp.go x3 (f43)).1) ((Imp.go t22 (imp_a (rgz19.1) (rgz19.2) (f24))).2.2)))) | first | omega | ((try (have i_hz47 := Imp.go hz47 (by omega))); (try (have i_t22 := Imp.go t22 (by omega))); (try (have i_x3 := Imp.go x3 (by omega))); (try (have i_x3 := Imp.go x3 (by omega))); (try (have i_t22 := Imp.go t22 (by omega))); (try (have i_hz47 := Imp.go hz47 (by omega))); omega))))⟩, by rw [ht]; exact hP, va_K.moved hW.alike hK, hD⟩, hS.F ht⟩) hS.2.2 dX12_takeWordOf_144
              · skip
                have f51 : z32.toInt < 0 := b_nle (by decide) rfl c44
                exfalso; first | exact om_1b10ca75f5f0 f40 f51 | first | omega | ((try (have i_t22 := Imp.go t22 (by omega))); (try (have i_x3 := Imp.go x3 (by omega))); (try (have i_x3 := Imp.go x3 (by omega))); (try (have i_t22 := Imp.go t22 (by omega))); omega)
          · skip
            have f52 : z32.toInt < 0 := b_nle (by decide) rfl c39
            refine lv_aload_n hx hb dX12_takeWordOf_69 rfl (lv_at hl 3 rfl) ?_
            refine lv_aload_n hx hb dX12_takeWordOf_70 rfl (lv_at hl 1 rfl) ?_
            refine va_get (D := D) (ci := 12) (v := .int (V 0 12)) (C := RX12) (T := TX12) (N := 100) hx hb hg inX12 hown hK hP 0 rfl rfl 12 (by decide) (hg _ w1718) (fun _ h9 => h9) rfl dX12_takeWordOf_71 ?_
            refine va_iald (D := D) (i := (V 0 12)) hx hb hK hP 28 27 rfl rfl (i_in (a := ((V 0 12)).toInt) rfl (by first | exact om_8367a84723c7 r28.1 r28.2 | first | omega | ((try (have i_t22 := Imp.go t22 (by omega))); (try (have i_x3 := Imp.go x3 (by omega))); (try (have i_x3 := Imp.go x3 (by omega))); (try (have i_t22 := Imp.go t22 (by omega))); omega))) dX12_takeWordOf_74 ?_
            refine lv_bipush (v := 20) hx hb dX12_takeWordOf_75 (by decide) ?_
            refine lv_icmp_ne (tgt := 85) hx hb dX12_takeWordOf_77 (by decide) (fun c53 => ?_) (fun c53 => ?_)
            · skip
              have f54 : ((V 35 (Int32.toNatClampNeg (V 0 12)))).toInt ≠ 20 := b_neq rfl (by decide) c53
              refine lv_aload_n hx hb dX12_takeWordOf_85 rfl (lv_at hl 1 rfl) ?_
              refine va_get (D := D) (ci := 12) (v := .int (V 0 8)) (C := RX12) (T := TX12) (N := 100) hx hb hg inX12 hown hK hP 0 rfl rfl 8 (by decide) (hg _ w1714) (fun _ h9 => h9) rfl dX12_takeWordOf_86 ?_
              refine lv_if_ne (tgt := 133) hx hb dX12_takeWordOf_89 (by decide) (fun c55 => ?_) (fun c55 => ?_)
              · skip
                have f56 : ((V 0 8)).toInt ≠ 0 := b_neq rfl (by decide) c55
                exfalso; first | exact om_fb320d7600b7 r1.1 f18 f56 | first | omega | ((try (have i_t22 := Imp.go t22 (by omega))); (try (have i_x3 := Imp.go x3 (by omega))); (try (have i_x3 := Imp.go x3 (by omega))); (try (have i_t22 := Imp.go t22 (by omega))); omega)
              · skip
                have f57 : ((V 0 8)).toInt = 0 := b_eq rfl (by decide) c55
                refine lv_iload_n hx hb dX12_takeWordOf_92 rfl (lv_at hl 0 rfl) ?_
                refine lv_if_ge (tgt := 133) hx hb dX12_takeWordOf_93 (by decide) (fun c58 => ?_) (fun c58 => ?_)
                · skip
                  have f59 : 0 ≤ z32.toInt := b_le (by decide) rfl c58
                  exfalso; first | exact om_54ab17f89714 f52 f59 | first | omega | ((try (have i_t22 := Imp.go t22 (by omega))); (try (have i_x3 := Imp.go x3 (by omega))); (try (have i_x3 := Imp.go x3 (by omega))); (try (have i_t22 := Imp.go t22 (by omega))); omega)
                · skip
                  have f60 : z32.toInt < 0 := b_nle (by decide) rfl c58
                  refine lv_aload_n hx hb dX12_takeWordOf_96 rfl (lv_at hl 3 rfl) ?_
                  refine lv_aload_n hx hb dX12_takeWordOf_97 rfl (lv_at hl 1 rfl) ?_
                  refine va_get (D := D) (ci := 12) (v := .int (V 0 12)) (C := RX12) (T := TX12) (N := 100) hx hb hg inX12 hown hK hP 0 rfl rfl 12 (by decide) (hg _ w1718) (fun _ h9 => h9) rfl dX12_takeWordOf_98 ?_
                  refine va_iald (D := D) (i := (V 0 12)) hx hb hK hP 28 27 rfl rfl (i_in (a := ((V 0 12)).toInt) rfl (by first | exact om_8367a84723c7 r28.1 r28.2 | first | omega | ((try (have i_t22 := Imp.go t22 (by omega))); (try (have i_x3 := Imp.go x3 (by omega))); (try (have i_x3 := Imp.go x3 (by omega))); (try (have i_t22 := Imp.go t22 (by omega))); omega))) dX12_takeWordOf_101 ?_
                  refine lv_istore_n (lv' := [(3, .int (V 35 (Int32.toNatClampNeg (V 0 12)))), (0, .ref (ad 0)), (1, .ref (ad 36)), (2, .ref (ad 35))]) hx hb dX12_takeWordOf_102 rfl hl (by decide) rfl (fun ls hl => ?_)
                  refine lv_aload_n hx hb dX12_takeWordOf_103 rfl (lv_at hl 2 rfl) ?_
                  refine lv_bipush (v := 20) hx hb dX12_takeWordOf_104 (by decide) ?_
                  refine lv_aload_n hx hb dX12_takeWordOf_106 rfl (lv_at hl 1 rfl) ?_
                  refine va_get (D := D) (ci := 12) (v := .int (V 0 12)) (C := RX12) (T := TX12) (N := 100) hx hb hg inX12 hown hK hP 0 rfl rfl 12 (by decide) (hg _ w1718) (fun _ h9 => h9) rfl dX12_takeWordOf_107 ?_
                  refine lv_imul hx hb dX12_takeWordOf_110 ?_
                  refine lv_topi (fun z61 ez61 => ?_)
                  have hz61 : z61.toInt = 20 * ((V 0 12)).toInt := i_mul ez61 (by decide) rfl (by (first | exact om_1c36e316c123 r28.1 r28.2 | omega))
                  refine lv_iload_n hx hb dX12_takeWordOf_111 rfl (lv_at hl 0 rfl) ?_
                  refine lv_iadd hx hb dX12_takeWordOf_112 ?_
                  refine lv_topi (fun z62 ez62 => ?_)
                  have hz62 : z62.toInt = z61.toInt + ((V 35 (Int32.toNatClampNeg (V 0 12)))).toInt := i_add ez62 rfl rfl (by (first | exact om_17e47abb59b2 r28.1 r28.2 r30.1 r30.2 f54 hz61 | omega))
                  refine lv_aload_n hx hb dX12_takeWordOf_113 rfl (lv_at hl 1 rfl) ?_
                  refine va_get (D := D) (ci := 12) (v := .ref (ad 6)) (C := RX12) (T := TX12) (N := 100) hx hb hg inX12 hown hK hP 0 rfl rfl 6 (by decide) (hg _ w1712) (fun _ h9 => h9) rfl dX12_takeWordOf_114 ?_
                  refine lv_aload_n hx hb dX12_takeWordOf_117 rfl (lv_at hl 1 rfl) ?_
                  refine va_get (D := D) (ci := 12) (v := .int (V 0 7)) (C := RX12) (T := TX12) (N := 100) hx hb hg inX12 hown hK hP 0 rfl rfl 7 (by decide) (hg _ w1713) (fun _ h9 => h9) rfl dX12_takeWordOf_118 ?_
                  refine va_lald (D := D) (i := (V 0 7)) hx hb hK hP 4 3 rfl rfl (i_in (a := ((V 0 7)).toInt) rfl (by first | exact om_4d9bfa19b181 x2 ((Imp.go x3 (f57)).1) ((Imp.go t22 (imp_a (rgz19.1) (rgz19.2) (f24))).2.2) | first | omega | ((try (have i_t22 := Imp.go t22 (by omega))); (try (have i_x3 := Imp.go x3 (by omega))); (try (have i_x3 := Imp.go x3 (by omega))); (try (have i_t22 := Imp.go t22 (by omega))); omega))) dX12_takeWordOf_121 ?_
                  refine lv_topl (fun w63 ew63 => ?_)
                  refine va_last (D := D) (i := z62) (x := w63) hx hb hK hP hD hS 29 28 rfl rfl (i_in (a := z62.toInt) rfl (by first | exact om_ce5636e369f7 r28.1 r28.2 r30.1 r30.2 f54 hz61 hz62 | first | omega | ((try (have i_t22 := Imp.go t22 (by omega))); (try (have i_x3 := Imp.go x3 (by omega))); (try (have i_x3 := Imp.go x3 (by omega))); (try (have i_t22 := Imp.go t22 (by omega))); omega))) dX12_takeWordOf_122 (fun H locs hP hD hS => ?_)
                  obtain ⟨L64, hL64⟩ : ∃ z, z = upL L 36 (Int32.toNatClampNeg z62) w63 := ⟨_, rfl⟩
                  have hP : va_P D vwCl (mw ad kk ks.1 V L64) H := by rw [hL64]; exact hP
                  have hD : va_D A (mw ad kk ks.1 V L64) := by rw [hL64]; exact hD
                  have alL64 : agL [35, 36, 37, 38] L L64 := agL.up alL hL64 rfl
                  refine lv_aload_n hx hb dX12_takeWordOf_123 rfl (lv_at hl 3 rfl) ?_
                  refine lv_aload_n hx hb dX12_takeWordOf_124 rfl (lv_at hl 1 rfl) ?_
                  refine va_get (D := D) (ci := 12) (v := .int (V 0 12)) (C := RX12) (T := TX12) (N := 100) hx hb hg inX12 hown hK hP 0 rfl rfl 12 (by decide) (hg _ w1718) (fun _ h9 => h9) rfl dX12_takeWordOf_125 ?_
                  refine lv_dup2_11 hx hb dX12_takeWordOf_128 rfl rfl ?_
                  refine va_iald (D := D) (i := (V 0 12)) hx hb hK hP 28 27 rfl rfl (i_in (a := ((V 0 12)).toInt) rfl (by first | exact om_8367a84723c7 r28.1 r28.2 | first | omega | ((try (have i_t22 := Imp.go t22 (by omega))); (try (have i_x3 := Imp.go x3 (by omega))); (try (have i_x3 := Imp.go x3 (by omega))); (try (have i_t22 := Imp.go t22 (by omega))); omega))) dX12_takeWordOf_129 ?_
                  refine lv_iconst (v := 1) hx hb dX12_takeWordOf_130 (by decide) ?_
                  refine lv_iadd hx hb dX12_takeWordOf_131 ?_
                  refine lv_topi (fun z65 ez65 => ?_)
                  have hz65 : z65.toInt = ((V 35 (Int32.toNatClampNeg (V 0 12)))).toInt + 1 := i_add ez65 rfl (by decide) (by (first | exact om_27c928885e36 r30.1 r30.2 f54 | omega))
                  refine va_iast (D := D) (i := (V 0 12)) (x := z65) hx hb hK hP hD hS 28 27 rfl rfl (i_in (a := ((V 0 12)).toInt) rfl (by first | exact om_8367a84723c7 r28.1 r28.2 | first | omega | ((try (have i_t22 := Imp.go t22 (by omega))); (try (have i_x3 := Imp.go x3 (by omega))); (try (have i_x3 := Imp.go x3 (by omega))); (try (have i_t22 := Imp.go t22 (by omega))); omega))) dX12_takeWordOf_132 (fun H locs hP hD hS => ?_)
                  obtain ⟨V66, hV66⟩ : ∃ z, z = up2 V 35 (Int32.toNatClampNeg (V 0 12)) z65 := ⟨_, rfl⟩
                  have hP : va_P D vwCl (mw ad kk ks.1 V66 L64) H := by rw [hV66]; exact hP
                  have hD : va_D A (mw ad kk ks.1 V66 L64) := by rw [hV66]; exact hD
                  have hMV66 : rgd bM V66 := hMV.put hV66 (show 0 ≤ z65.toInt ∧ z65.toInt ≤ 20 from by first | exact om_f4eeecdf3ac8 r30.1 r30.2 f54 hz65 | first | omega | ((try (have i_t22 := Imp.go t22 (by omega))); (try (have i_x3 := Imp.go x3 (by omega))); (try (have i_x3 := Imp.go x3 (by omega))); (try (have i_t22 := Imp.go t22 (by omega))); omega))
                  have agV66 : agr [(0, 7), (0, 8)] [35, 36, 37, 38] V V66 := agV.up hV66 rfl
                  refine lv_aload_n hx hb dX12_takeWordOf_133 rfl (lv_at hl 1 rfl) ?_
                  refine lv_dup hx hb dX12_takeWordOf_134 rfl ?_
                  refine va_get (D := D) (ci := 12) (v := .int (V66 0 7)) (C := RX12) (T := TX12) (N := 100) hx hb hg inX12 hown hK hP 0 rfl rfl 7 (by decide) (hg _ w1713) (fun _ h9 => h9) rfl dX12_takeWordOf_135 ?_
                  refine g_top (v := (V 0 7)) (up2_o hV66 (by decide)) ?_
                  refine lv_iconst (v := 1) hx hb dX12_takeWordOf_138 (by decide) ?_
                  refine lv_iadd hx hb dX12_takeWordOf_139 ?_
                  have r67 := i_full (V 0 7)
                  refine lv_topi (fun z68 ez68 => ?_)
                  have hz68 : Imp (-2147483648 ≤ ((V 0 7)).toInt + 1 ∧ ((V 0 7)).toInt + 1 ≤ 2147483647) (z68.toInt = ((V 0 7)).toInt + 1) := Imp.mk (fun hp => i_add ez68 rfl (by decide) hp)
                  refine va_put (D := D) (ci := 12) (v := .int z68) (ty := tyX12 7) (C := RX12) (T := TX12) (N := 100) hx hb hg inX12 tyX12 tyX12_ok nmX12 hown hK hP hD hS 0 rfl rfl 7 (by decide) (hg _ w1713) (fun _ h9 => h9) rfl (tyX12_ok 7 (by decide)) rfl rfl (Nat.le_of_ble_eq_true rfl) dX12_takeWordOf_140 (fun H locs hP hD hS => ?_)
                  obtain ⟨V69, hV69⟩ : ∃ z, z = up2 V66 0 7 z68 := ⟨_, rfl⟩
                  have hP : va_P D vwCl (mw ad kk ks.1 V69 L64) H := by rw [hV69]; exact hP
                  have hD : va_D A (mw ad kk ks.1 V69 L64) := by rw [hV69]; exact hD
                  have hMV69 : rgd bM V69 := hMV66.put hV69 (i_full _)
                  have agV69 : agr [(0, 7), (0, 8)] [35, 36, 37, 38] V V69 := agV66.up hV69 rfl
                  refine lv_iload_n hx hb dX12_takeWordOf_143 rfl (lv_at hl 0 rfl) ?_
                  have pq70 : (V69 0 7).toInt = z68.toInt := congrArg Int32.toInt (up2_s hV69)
                  have pq71 : (V69 0 8).toInt = ((V 0 8)).toInt := congrArg Int32.toInt ((up2_k hV69 (by decide)).trans (up2_o hV66 (by decide)))
                  exact W.iret (v := (V 35 (Int32.toNatClampNeg (V 0 12)))) hx hb hr (fun t ht hW => ⟨⟨(V 35 (Int32.toNatClampNeg (V 0 12))), (V69, L64), rfl, ⟨hMV69, agV69, alL64, (show (-1) ≤ ((V 35 (Int32.toNatClampNeg (V 0 12)))).toInt ∧ ((V 35 (Int32.toNatClampNeg (V 0 12)))).toInt ≤ 19 from by first | exact om_f725c6527e42 r30.1 r30.2 f54 | first | omega | ((try (have i_hz68 := Imp.go hz68 (by omega))); (try (have i_t22 := Imp.go t22 (by omega))); (try (have i_x3 := Imp.go x3 (by omega))); (try (have i_x3 := Imp.go x3 (by omega))); (try (have i_t22 := Imp.go t22 (by omega))); (try (have i_hz68 := Imp.go hz68 (by omega))); omega)), (Imp.mk (fun hp => have hp : (V69 0 8).toInt = 0 := hp; (show 0 ≤ (V69 0 7).toInt ∧ (V69 0 7).toInt ≤ n ∧ (V 0 8).toInt = 0 ∧ (V 0 7).toInt ≤ (V69 0 7).toInt from by first | exact om_b7d372ddba67 r1.1 f18 pq70 ((Imp.go x3 (f57)).1) ((Imp.go t22 (imp_a (rgz19.1) (rgz19.2) (f24))).2.2) ((Imp.go hz68 (om_053a02be3074 x2 ((Imp.go x3 (f57)).1) ((Imp.go t22 (imp_a (rgz19.1) (rgz19.2) (f24))).2.2)))) | first | omega | ((try (have i_hz68 := Imp.go hz68 (by omega))); (try (have i_t22 := Imp.go t22 (by omega))); (try (have i_x3 := Imp.go x3 (by omega))); (try (have i_x3 := Imp.go x3 (by omega))); (try (have i_t22 := Imp.go t22 (by omega))); (try (have i_hz68 := Imp.go hz68 (by omega))); omega)))), (Imp.mk (fun hp => have hp : (V69 0 8).toInt = 0 := hp; (show 0 ≤ ((V 35 (Int32.toNatClampNeg (V 0 12)))).toInt from by first | exact om_eafa9039069c r30.1 | first | omega | ((try (have i_hz68 := Imp.go hz68 (by omega))); (try (have i_t22 := Imp.go t22 (by omega))); (try (have i_x3 := Imp.go x3 (by omega))); (try (have i_x3 := Imp.go x3 (by omega))); (try (have i_t22 := Imp.go t22 (by omega))); (try (have i_hz68 := Imp.go hz68 (by omega))); omega)))), (Imp.mk (fun hp => have hp : (V69 0 8).toInt = 0 := hp; (show (V 0 7).toInt + 1 ≤ (V69 0 7).toInt from by first | exact om_202eeafe7f37 pq70 ((Imp.go hz68 (om_053a02be3074 x2 ((Imp.go x3 (f57)).1) ((Imp.go t22 (imp_a (rgz19.1) (rgz19.2) (f24))).2.2)))) | first | omega | ((try (have i_hz68 := Imp.go hz68 (by omega))); (try (have i_t22 := Imp.go t22 (by omega))); (try (have i_x3 := Imp.go x3 (by omega))); (try (have i_x3 := Imp.go x3 (by omega))); (try (have i_t22 := Imp.go t22 (by omega))); (try (have i_hz68 := Imp.go hz68 (by omega))); omega))))⟩, by rw [ht]; exact hP, va_K.moved hW.alike hK, hD⟩, hS.F ht⟩) hS.2.2 dX12_takeWordOf_144
            · skip
              have f72 : ((V 35 (Int32.toNatClampNeg (V 0 12)))).toInt = 20 := b_eq rfl (by decide) c53
              refine lv_aload_n hx hb dX12_takeWordOf_80 rfl (lv_at hl 1 rfl) ?_
              refine lv_iconst (v := 5) hx hb dX12_takeWordOf_81 (by decide) ?_
              have r73 : Int32.toInt 5 = 5 := by decide
              refine gA_void (gA_runV (As := [.int 5]) (rest := []) (ci := 12) (q0 := 0) hx hb hml hown hg hP hD hK hS hA hnw hgk (s_wrong l D ks H.size ad kk V L 5 (n) hMV (by decide) (show (V 4 (n)).toInt = 0 from by first | exact om_b66ba74381d5 x1 | first | omega | ((try (have i_t22 := Imp.go t22 (by omega))); (try (have i_x3 := Imp.go x3 (by omega))); (try (have i_x3 := Imp.go x3 (by omega))); (try (have i_t22 := Imp.go t22 (by omega))); omega)) (show (n) ≤ 4000 from by first | exact om_af64e361c991 x2 | first | omega | ((try (have i_t22 := Imp.go t22 (by omega))); (try (have i_x3 := Imp.go x3 (by omega))); (try (have i_x3 := Imp.go x3 (by omega))); (try (have i_t22 := Imp.go t22 (by omega))); omega)) (Imp.mk (fun hp => have hp : (V 0 8).toInt = 0 := hp; (show 0 ≤ (V 0 7).toInt ∧ (V 0 7).toInt ≤ (n) from by first | exact om_7a329117c856 ((Imp.go x3 (hp)).1) ((Imp.go t22 (imp_a (rgz19.1) (rgz19.2) (f24))).2.2) | first | omega | ((try (have i_t22 := Imp.go t22 (by omega))); (try (have i_x3 := Imp.go x3 (by omega))); (try (have i_x3 := Imp.go x3 (by omega))); (try (have i_t22 := Imp.go t22 (by omega))); omega))))) w2035 w2037 w86 w172 w2038 rfl rfl hdV_yX12_wrong ⟨Nat.le_of_ble_eq_true rfl, Nat.le_of_ble_eq_true rfl⟩ rfl hl.1 rfl (Nat.le_of_ble_eq_true rfl) dX12_takeWordOf_82 ⟨Nat.le_of_ble_eq_true rfl, Nat.le_of_ble_eq_true rfl⟩) hP hD hK hS hA (fun u75 H locs w76 hP hD hK hS => ?_)
              obtain ⟨V78, L79⟩ := u75
              obtain ⟨hMV78, ajV78, axL79, t77⟩ := w76
              have axL79 : L = L79 := Eq.symm axL79
              subst axL79
              replace hP : va_P D vwCl (mw ad kk ks.1 V78 L) H := hP
              replace hD : va_D A (mw ad kk ks.1 V78 L) := hD
              replace hMV78 : rgd bM V78 := hMV78
              replace ajV78 : agr [(0, 8)] [] V V78 := ajV78
              have agV78 : agr [(0, 7), (0, 8)] [35, 36, 37, 38] V V78 := agV.tr ajV78 (by decide) (by decide)
              replace t77 : 1 ≤ (V78 0 8).toInt := t77
              have r80 : 0 ≤ ((V78 0 8)).toInt ∧ ((V78 0 8)).toInt ≤ 70000 := hMV78 0 8
              refine lv_aload_n hx hb dX12_takeWordOf_85 rfl (lv_at hl 1 rfl) ?_
              refine va_get (D := D) (ci := 12) (v := .int (V78 0 8)) (C := RX12) (T := TX12) (N := 100) hx hb hg inX12 hown hK hP 0 rfl rfl 8 (by decide) (hg _ w1714) (fun _ h9 => h9) rfl dX12_takeWordOf_86 ?_
              refine lv_if_ne (tgt := 133) hx hb dX12_takeWordOf_89 (by decide) (fun c81 => ?_) (fun c81 => ?_)
              · skip
                have f82 : ((V78 0 8)).toInt ≠ 0 := b_neq rfl (by decide) c81
                refine lv_aload_n hx hb dX12_takeWordOf_133 rfl (lv_at hl 1 rfl) ?_
                refine lv_dup hx hb dX12_takeWordOf_134 rfl ?_
                refine va_get (D := D) (ci := 12) (v := .int (V78 0 7)) (C := RX12) (T := TX12) (N := 100) hx hb hg inX12 hown hK hP 0 rfl rfl 7 (by decide) (hg _ w1713) (fun _ h9 => h9) rfl dX12_takeWordOf_135 ?_
                refine g_top (v := (V 0 7)) (ajV78 0 7 rfl) ?_
                refine lv_iconst (v := 1) hx hb dX12_takeWordOf_138 (by decide) ?_
                refine lv_iadd hx hb dX12_takeWordOf_139 ?_
                have r83 := i_full (V 0 7)
                refine lv_topi (fun z84 ez84 => ?_)
                have hz84 : Imp (-2147483648 ≤ ((V 0 7)).toInt + 1 ∧ ((V 0 7)).toInt + 1 ≤ 2147483647) (z84.toInt = ((V 0 7)).toInt + 1) := Imp.mk (fun hp => i_add ez84 rfl (by decide) hp)
                refine va_put (D := D) (ci := 12) (v := .int z84) (ty := tyX12 7) (C := RX12) (T := TX12) (N := 100) hx hb hg inX12 tyX12 tyX12_ok nmX12 hown hK hP hD hS 0 rfl rfl 7 (by decide) (hg _ w1713) (fun _ h9 => h9) rfl (tyX12_ok 7 (by decide)) rfl rfl (Nat.le_of_ble_eq_true rfl) dX12_takeWordOf_140 (fun H locs hP hD hS => ?_)
                obtain ⟨V85, hV85⟩ : ∃ z, z = up2 V78 0 7 z84 := ⟨_, rfl⟩
                have hP : va_P D vwCl (mw ad kk ks.1 V85 L) H := by rw [hV85]; exact hP
                have hD : va_D A (mw ad kk ks.1 V85 L) := by rw [hV85]; exact hD
                have hMV85 : rgd bM V85 := hMV78.put hV85 (i_full _)
                have agV85 : agr [(0, 7), (0, 8)] [35, 36, 37, 38] V V85 := agV78.up hV85 rfl
                refine lv_iload_n hx hb dX12_takeWordOf_143 rfl (lv_at hl 0 rfl) ?_
                have pq86 : (V85 0 7).toInt = z84.toInt := congrArg Int32.toInt (up2_s hV85)
                have pq87 : (V85 0 8).toInt = ((V78 0 8)).toInt := congrArg Int32.toInt (up2_k hV85 (by decide))
                exact W.iret (v := z32) hx hb hr (fun t ht hW => ⟨⟨z32, (V85, L), rfl, ⟨hMV85, agV85, alL, (show (-1) ≤ z32.toInt ∧ z32.toInt ≤ 19 from by first | exact om_d0ba04e598f0 rgz32.1 f52 | first | omega | ((try (have i_hz84 := Imp.go hz84 (by omega))); (try (have i_t22 := Imp.go t22 (by omega))); (try (have i_x3 := Imp.go x3 (by omega))); (try (have i_x3 := Imp.go x3 (by omega))); (try (have i_t22 := Imp.go t22 (by omega))); (try (have i_hz84 := Imp.go hz84 (by omega))); omega)), (Imp.mk (fun hp => have hp : (V85 0 8).toInt = 0 := hp; (show 0 ≤ (V85 0 7).toInt ∧ (V85 0 7).toInt ≤ n ∧ (V 0 8).toInt = 0 ∧ (V 0 7).toInt ≤ (V85 0 7).toInt from by first | omega | ((try (have i_hz84 := Imp.go hz84 (by omega))); (try (have i_t22 := Imp.go t22 (by omega))); (try (have i_x3 := Imp.go x3 (by omega))); (try (have i_x3 := Imp.go x3 (by omega))); (try (have i_t22 := Imp.go t22 (by omega))); (try (have i_hz84 := Imp.go hz84 (by omega))); omega)))), (Imp.mk (fun hp => have hp : (V85 0 8).toInt = 0 := hp; (show 0 ≤ z32.toInt from by first | omega | ((try (have i_hz84 := Imp.go hz84 (by omega))); (try (have i_t22 := Imp.go t22 (by omega))); (try (have i_x3 := Imp.go x3 (by omega))); (try (have i_x3 := Imp.go x3 (by omega))); (try (have i_t22 := Imp.go t22 (by omega))); (try (have i_hz84 := Imp.go hz84 (by omega))); omega)))), (Imp.mk (fun hp => have hp : (V85 0 8).toInt = 0 := hp; (show (V 0 7).toInt + 1 ≤ (V85 0 7).toInt from by first | omega | ((try (have i_hz84 := Imp.go hz84 (by omega))); (try (have i_t22 := Imp.go t22 (by omega))); (try (have i_x3 := Imp.go x3 (by omega))); (try (have i_x3 := Imp.go x3 (by omega))); (try (have i_t22 := Imp.go t22 (by omega))); (try (have i_hz84 := Imp.go hz84 (by omega))); omega))))⟩, by rw [ht]; exact hP, va_K.moved hW.alike hK, hD⟩, hS.F ht⟩) hS.2.2 dX12_takeWordOf_144
              · skip
                have f88 : ((V78 0 8)).toInt = 0 := b_eq rfl (by decide) c81
                exfalso; first | exact om_09885ab343b9 t77 f88 | first | omega | ((try (have i_t22 := Imp.go t22 (by omega))); (try (have i_x3 := Imp.go x3 (by omega))); (try (have i_x3 := Imp.go x3 (by omega))); (try (have i_t22 := Imp.go t22 (by omega))); omega)
    · skip
      have f89 : z19.toInt = 0 := b_eq rfl (by decide) c23
      refine lv_aload_n hx hb dX12_takeWordOf_14 rfl (lv_at hl 0 rfl) ?_
      refine lv_iconst (v := 1) hx hb dX12_takeWordOf_15 (by decide) ?_
      have r90 : Int32.toInt 1 = 1 := by decide
      refine gA_void (gA_runV (As := [.int 1]) (rest := []) (ci := 12) (q0 := 0) hx hb hml hown hg hP hD hK hS hA hnw hgk (s_wrong l D ks H.size ad kk V L 1 (n) hMV (by decide) (show (V 4 (n)).toInt = 0 from by first | exact om_b66ba74381d5 x1 | first | omega | ((try (have i_t22 := Imp.go t22 (by omega))); (try (have i_x3 := Imp.go x3 (by omega))); (try (have i_x3 := Imp.go x3 (by omega))); (try (have i_t22 := Imp.go t22 (by omega))); omega)) (show (n) ≤ 4000 from by first | exact om_af64e361c991 x2 | first | omega | ((try (have i_t22 := Imp.go t22 (by omega))); (try (have i_x3 := Imp.go x3 (by omega))); (try (have i_x3 := Imp.go x3 (by omega))); (try (have i_t22 := Imp.go t22 (by omega))); omega)) (Imp.mk (fun hp => have hp : (V 0 8).toInt = 0 := hp; (show 0 ≤ (V 0 7).toInt ∧ (V 0 7).toInt ≤ (n) from by first | exact om_408b46baf51e ((Imp.go x3 (hp)).1) ((Imp.go x3 (hp)).2) | first | omega | ((try (have i_t22 := Imp.go t22 (by omega))); (try (have i_x3 := Imp.go x3 (by omega))); (try (have i_x3 := Imp.go x3 (by omega))); (try (have i_t22 := Imp.go t22 (by omega))); omega))))) w2035 w2037 w86 w172 w2038 rfl rfl hdV_yX12_wrong ⟨Nat.le_of_ble_eq_true rfl, Nat.le_of_ble_eq_true rfl⟩ rfl hl.1 rfl (Nat.le_of_ble_eq_true rfl) dX12_takeWordOf_16 ⟨Nat.le_of_ble_eq_true rfl, Nat.le_of_ble_eq_true rfl⟩) hP hD hK hS hA (fun u92 H locs w93 hP hD hK hS => ?_)
      obtain ⟨V95, L96⟩ := u92
      obtain ⟨hMV95, ajV95, axL96, t94⟩ := w93
      have axL96 : L = L96 := Eq.symm axL96
      subst axL96
      replace hP : va_P D vwCl (mw ad kk ks.1 V95 L) H := hP
      replace hD : va_D A (mw ad kk ks.1 V95 L) := hD
      replace hMV95 : rgd bM V95 := hMV95
      replace ajV95 : agr [(0, 8)] [] V V95 := ajV95
      have agV95 : agr [(0, 7), (0, 8)] [35, 36, 37, 38] V V95 := agV.tr ajV95 (by decide) (by decide)
      replace t94 : 1 ≤ (V95 0 8).toInt := t94
      have r97 : 0 ≤ ((V95 0 8)).toInt ∧ ((V95 0 8)).toInt ≤ 70000 := hMV95 0 8
      refine lv_aload_n hx hb dX12_takeWordOf_19 rfl (lv_at hl 0 rfl) ?_
      refine va_get (D := D) (ci := 12) (v := .int (V95 0 8)) (C := RX12) (T := TX12) (N := 100) hx hb hg inX12 hown hK hP 0 rfl rfl 8 (by decide) (hg _ w1714) (fun _ h9 => h9) rfl dX12_takeWordOf_20 ?_
      refine lv_if_ne (tgt := 56) hx hb dX12_takeWordOf_23 (by decide) (fun c98 => ?_) (fun c98 => ?_)
      · skip
        have f99 : ((V95 0 8)).toInt ≠ 0 := b_neq rfl (by decide) c98
        refine lv_iconst (v := (-1)) hx hb dX12_takeWordOf_56 (by decide) ?_
        refine lv_istore_n (lv' := [(3, .int (-1)), (0, .ref (ad 0)), (1, .ref (ad 36)), (2, .ref (ad 35))]) hx hb dX12_takeWordOf_57 rfl hl (by decide) rfl (fun ls hl => ?_)
        refine lv_aload_n hx hb dX12_takeWordOf_58 rfl (lv_at hl 1 rfl) ?_
        refine va_get (D := D) (ci := 12) (v := .int (V95 0 8)) (C := RX12) (T := TX12) (N := 100) hx hb hg inX12 hown hK hP 0 rfl rfl 8 (by decide) (hg _ w1714) (fun _ h9 => h9) rfl dX12_takeWordOf_59 ?_
        refine lv_if_ne (tgt := 85) hx hb dX12_takeWordOf_62 (by decide) (fun c100 => ?_) (fun c100 => ?_)
        · skip
          have f101 : ((V95 0 8)).toInt ≠ 0 := b_neq rfl (by decide) c100
          refine lv_aload_n hx hb dX12_takeWordOf_85 rfl (lv_at hl 1 rfl) ?_
          refine va_get (D := D) (ci := 12) (v := .int (V95 0 8)) (C := RX12) (T := TX12) (N := 100) hx hb hg inX12 hown hK hP 0 rfl rfl 8 (by decide) (hg _ w1714) (fun _ h9 => h9) rfl dX12_takeWordOf_86 ?_
          refine lv_if_ne (tgt := 133) hx hb dX12_takeWordOf_89 (by decide) (fun c102 => ?_) (fun c102 => ?_)
          · skip
            have f103 : ((V95 0 8)).toInt ≠ 0 := b_neq rfl (by decide) c102
            refine lv_aload_n hx hb dX12_takeWordOf_133 rfl (lv_at hl 1 rfl) ?_
            refine lv_dup hx hb dX12_takeWordOf_134 rfl ?_
            refine va_get (D := D) (ci := 12) (v := .int (V95 0 7)) (C := RX12) (T := TX12) (N := 100) hx hb hg inX12 hown hK hP 0 rfl rfl 7 (by decide) (hg _ w1713) (fun _ h9 => h9) rfl dX12_takeWordOf_135 ?_
            refine g_top (v := (V 0 7)) (ajV95 0 7 rfl) ?_
            refine lv_iconst (v := 1) hx hb dX12_takeWordOf_138 (by decide) ?_
            refine lv_iadd hx hb dX12_takeWordOf_139 ?_
            have r104 := i_full (V 0 7)
            refine lv_topi (fun z105 ez105 => ?_)
            have hz105 : Imp (-2147483648 ≤ ((V 0 7)).toInt + 1 ∧ ((V 0 7)).toInt + 1 ≤ 2147483647) (z105.toInt = ((V 0 7)).toInt + 1) := Imp.mk (fun hp => i_add ez105 rfl (by decide) hp)
            refine va_put (D := D) (ci := 12) (v := .int z105) (ty := tyX12 7) (C := RX12) (T := TX12) (N := 100) hx hb hg inX12 tyX12 tyX12_ok nmX12 hown hK hP hD hS 0 rfl rfl 7 (by decide) (hg _ w1713) (fun _ h9 => h9) rfl (tyX12_ok 7 (by decide)) rfl rfl (Nat.le_of_ble_eq_true rfl) dX12_takeWordOf_140 (fun H locs hP hD hS => ?_)
            obtain ⟨V106, hV106⟩ : ∃ z, z = up2 V95 0 7 z105 := ⟨_, rfl⟩
            have hP : va_P D vwCl (mw ad kk ks.1 V106 L) H := by rw [hV106]; exact hP
            have hD : va_D A (mw ad kk ks.1 V106 L) := by rw [hV106]; exact hD
            have hMV106 : rgd bM V106 := hMV95.put hV106 (i_full _)
            have agV106 : agr [(0, 7), (0, 8)] [35, 36, 37, 38] V V106 := agV95.up hV106 rfl
            refine lv_iload_n hx hb dX12_takeWordOf_143 rfl (lv_at hl 0 rfl) ?_
            have pq107 : (V106 0 7).toInt = z105.toInt := congrArg Int32.toInt (up2_s hV106)
            have pq108 : (V106 0 8).toInt = ((V95 0 8)).toInt := congrArg Int32.toInt (up2_k hV106 (by decide))
            exact W.iret (v := (-1)) hx hb hr (fun t ht hW => ⟨⟨(-1), (V106, L), rfl, ⟨hMV106, agV106, alL, (by decide), (Imp.mk (fun hp => have hp : (V106 0 8).toInt = 0 := hp; (show 0 ≤ (V106 0 7).toInt ∧ (V106 0 7).toInt ≤ n ∧ (V 0 8).toInt = 0 ∧ (V 0 7).toInt ≤ (V106 0 7).toInt from by first | omega | ((try (have i_hz105 := Imp.go hz105 (by omega))); (try (have i_t22 := Imp.go t22 (by omega))); (try (have i_x3 := Imp.go x3 (by omega))); (try (have i_x3 := Imp.go x3 (by omega))); (try (have i_t22 := Imp.go t22 (by omega))); (try (have i_hz105 := Imp.go hz105 (by omega))); omega)))), (Imp.mk (fun hp => have hp : (V106 0 8).toInt = 0 := hp; (show 0 ≤ (-1) from by first | omega | ((try (have i_hz105 := Imp.go hz105 (by omega))); (try (have i_t22 := Imp.go t22 (by omega))); (try (have i_x3 := Imp.go x3 (by omega))); (try (have i_x3 := Imp.go x3 (by omega))); (try (have i_t22 := Imp.go t22 (by omega))); (try (have i_hz105 := Imp.go hz105 (by omega))); omega)))), (Imp.mk (fun hp => have hp : (V106 0 8).toInt = 0 := hp; (show (V 0 7).toInt + 1 ≤ (V106 0 7).toInt from by first | omega | ((try (have i_hz105 := Imp.go hz105 (by omega))); (try (have i_t22 := Imp.go t22 (by omega))); (try (have i_x3 := Imp.go x3 (by omega))); (try (have i_x3 := Imp.go x3 (by omega))); (try (have i_t22 := Imp.go t22 (by omega))); (try (have i_hz105 := Imp.go hz105 (by omega))); omega))))⟩, by rw [ht]; exact hP, va_K.moved hW.alike hK, hD⟩, hS.F ht⟩) hS.2.2 dX12_takeWordOf_144
          · skip
            have f109 : ((V95 0 8)).toInt = 0 := b_eq rfl (by decide) c102
            exfalso; first | exact om_b02ddf2a5870 t94 f99 f109 | first | omega | ((try (have i_t22 := Imp.go t22 (by omega))); (try (have i_x3 := Imp.go x3 (by omega))); (try (have i_x3 := Imp.go x3 (by omega))); (try (have i_t22 := Imp.go t22 (by omega))); omega)
        · skip
          have f110 : ((V95 0 8)).toInt = 0 := b_eq rfl (by decide) c100
          exfalso; first | exact om_b02ddf2a5870 t94 f99 f110 | first | omega | ((try (have i_t22 := Imp.go t22 (by omega))); (try (have i_x3 := Imp.go x3 (by omega))); (try (have i_x3 := Imp.go x3 (by omega))); (try (have i_t22 := Imp.go t22 (by omega))); omega)
      · skip
        have f111 : ((V95 0 8)).toInt = 0 := b_eq rfl (by decide) c98
        exfalso; first | exact om_09885ab343b9 t94 f111 | first | omega | ((try (have i_t22 := Imp.go t22 (by omega))); (try (have i_x3 := Imp.go x3 (by omega))); (try (have i_x3 := Imp.go x3 (by omega))); (try (have i_t22 := Imp.go t22 (by omega))); omega)
abbrev r_s_takeWordOf_calls : Room := { frames := 1, cells := 0, slots := 0, locals := 27 }
abbrev q_s_takeWordOf_calls (D : va_G) (ks : KS) (ad : Nat → Nat) (kk : Nat → ClassId) (V : Vf) (L : Lf) (n : Nat) (A : Nat → Prop) : Array Value → State → Outcome → State → Prop := va_Qi (fun (r : Int32) (u : Vf × Lf) => rgd bM u.1 ∧ agr [(0, 7), (0, 8)] [35, 36, 37, 38] V u.1 ∧ agL [35, 36, 37, 38] L u.2 ∧ ((-1) ≤ r.toInt ∧ r.toInt ≤ 19) ∧ (Imp ((u.1 0 8).toInt = 0) (0 ≤ (u.1 0 7).toInt ∧ (u.1 0 7).toInt ≤ n ∧ (V 0 8).toInt = 0 ∧ (V 0 7).toInt ≤ (u.1 0 7).toInt)) ∧ (Imp ((u.1 0 8).toInt = 0) (0 ≤ r.toInt)) ∧ (Imp ((u.1 0 8).toInt = 0) ((V 0 7).toInt + 1 ≤ (u.1 0 7).toInt))) (fun u t => gq D A (mw ad kk ks.1 u.1 u.2) (mty kk) t) A
set_option maxHeartbeats 4000000 in
set_option maxRecDepth 100000 in
theorem s_takeWordOf_calls (l : Launch) (D : va_G) (ks : KS) (sz : Nat) (ad : Nat → Nat) (kk : Nat → ClassId) (V : Vf) (L : Lf) (n : Nat) (hMV : rgd bM V) (x1 : (V 4 n).toInt = 0) (x2 : n ≤ 4000) (x3 : Imp ((V 0 8).toInt = 0) (0 ≤ (V 0 7).toInt ∧ (V 0 7).toInt ≤ n))  : Met l yX12_takeWordOf (Cond.code yX12_takeWordOf cX12_takeWordOf 4 (some .int) :: GW) r_s_takeWordOf_calls (va_Pc [.ref (ad 0), .ref (ad 38), .ref (ad 37)] (gp D ks (mw ad kk ks.1 V L) (mty kk) sz)) (q_s_takeWordOf_calls D ks ad kk V L  n (va_A (mw ad kk ks.1 V L) sz)) 0 0 (va_A (mw ad kk ks.1 V L) sz) := by
  refine g_met (q_s_takeWordOf_calls D ks ad kk V L  n) (by decide) (Nat.le_of_ble_eq_true rfl) ?_
  intro p e s m below meth c A ls H locs hx hb hr hml hown hg hlocks hin hnw hgk hP hK hD hS hA hl
  replace hown : s.vm.findClass RX12 = some m.cls := hown
  replace hl : lv_has ls 4 [(0, .ref (ad 0)), (1, .ref (ad 38)), (2, .ref (ad 37))] := hl
  replace hP : va_P D vwCl (mw ad kk ks.1 V L) H := hP
  replace hD : va_D A (mw ad kk ks.1 V L) := hD
  replace hK : va_K D vwCl (mty kk) s := hK
  have agV : agr [(0, 7), (0, 8)] [35, 36, 37, 38] V V := agr.rf
  have alL : agL [35, 36, 37, 38] L L := agL.rf
  have r1 : 0 ≤ ((V 0 8)).toInt ∧ ((V 0 8)).toInt ≤ 70000 := hMV 0 8
  refine lv_aload_n hx hb dX12_takeWordOf_0 rfl (lv_at hl 0 rfl) ?_
  refine va_get (D := D) (ci := 12) (v := .int (V 0 8)) (C := RX12) (T := TX12) (N := 100) hx hb hg inX12 hown hK hP 0 rfl rfl 8 (by decide) (hg _ w1714) (fun _ h9 => h9) rfl dX12_takeWordOf_1 ?_
  refine lv_if_ne (tgt := 19) hx hb dX12_takeWordOf_4 (by decide) (fun c2 => ?_) (fun c2 => ?_)
  · skip
    have f3 : ((V 0 8)).toInt ≠ 0 := b_neq rfl (by decide) c2
    refine lv_aload_n hx hb dX12_takeWordOf_19 rfl (lv_at hl 0 rfl) ?_
    refine va_get (D := D) (ci := 12) (v := .int (V 0 8)) (C := RX12) (T := TX12) (N := 100) hx hb hg inX12 hown hK hP 0 rfl rfl 8 (by decide) (hg _ w1714) (fun _ h9 => h9) rfl dX12_takeWordOf_20 ?_
    refine lv_if_ne (tgt := 56) hx hb dX12_takeWordOf_23 (by decide) (fun c4 => ?_) (fun c4 => ?_)
    · skip
      have f5 : ((V 0 8)).toInt ≠ 0 := b_neq rfl (by decide) c4
      refine lv_iconst (v := (-1)) hx hb dX12_takeWordOf_56 (by decide) ?_
      refine lv_istore_n (lv' := [(3, .int (-1)), (0, .ref (ad 0)), (1, .ref (ad 38)), (2, .ref (ad 37))]) hx hb dX12_takeWordOf_57 rfl hl (by decide) rfl (fun ls hl => ?_)
      refine lv_aload_n hx hb dX12_takeWordOf_58 rfl (lv_at hl 1 rfl) ?_
      refine va_get (D := D) (ci := 12) (v := .int (V 0 8)) (C := RX12) (T := TX12) (N := 100) hx hb hg inX12 hown hK hP 0 rfl rfl 8 (by decide) (hg _ w1714) (fun _ h9 => h9) rfl dX12_takeWordOf_59 ?_
      refine lv_if_ne (tgt := 85) hx hb dX12_takeWordOf_62 (by decide) (fun c6 => ?_) (fun c6 => ?_)
      · skip
        have f7 : ((V 0 8)).toInt ≠ 0 := b_neq rfl (by decide) c6
        refine lv_aload_n hx hb dX12_takeWordOf_85 rfl (lv_at hl 1 rfl) ?_
        refine va_get (D := D) (ci := 12) (v := .int (V 0 8)) (C := RX12) (T := TX12) (N := 100) hx hb hg inX12 hown hK hP 0 rfl rfl 8 (by decide) (hg _ w1714) (fun _ h9 => h9) rfl dX12_takeWordOf_86 ?_
        refine lv_if_ne (tgt := 133) hx hb dX12_takeWordOf_89 (by decide) (fun c8 => ?_) (fun c8 => ?_)
        · skip
          have f9 : ((V 0 8)).toInt ≠ 0 := b_neq rfl (by decide) c8
          refine lv_aload_n hx hb dX12_takeWordOf_133 rfl (lv_at hl 1 rfl) ?_
          refine lv_dup hx hb dX12_takeWordOf_134 rfl ?_
          refine va_get (D := D) (ci := 12) (v := .int (V 0 7)) (C := RX12) (T := TX12) (N := 100) hx hb hg inX12 hown hK hP 0 rfl rfl 7 (by decide) (hg _ w1713) (fun _ h9 => h9) rfl dX12_takeWordOf_135 ?_
          refine lv_iconst (v := 1) hx hb dX12_takeWordOf_138 (by decide) ?_
          refine lv_iadd hx hb dX12_takeWordOf_139 ?_
          have r10 := i_full (V 0 7)
          refine lv_topi (fun z11 ez11 => ?_)
          have hz11 : Imp (-2147483648 ≤ ((V 0 7)).toInt + 1 ∧ ((V 0 7)).toInt + 1 ≤ 2147483647) (z11.toInt = ((V 0 7)).toInt + 1) := Imp.mk (fun hp => i_add ez11 rfl (by decide) hp)
          refine va_put (D := D) (ci := 12) (v := .int z11) (ty := tyX12 7) (C := RX12) (T := TX12) (N := 100) hx hb hg inX12 tyX12 tyX12_ok nmX12 hown hK hP hD hS 0 rfl rfl 7 (by decide) (hg _ w1713) (fun _ h9 => h9) rfl (tyX12_ok 7 (by decide)) rfl rfl (Nat.le_of_ble_eq_true rfl) dX12_takeWordOf_140 (fun H locs hP hD hS => ?_)
          obtain ⟨V12, hV12⟩ : ∃ z, z = up2 V 0 7 z11 := ⟨_, rfl⟩
          have hP : va_P D vwCl (mw ad kk ks.1 V12 L) H := by rw [hV12]; exact hP
          have hD : va_D A (mw ad kk ks.1 V12 L) := by rw [hV12]; exact hD
          have hMV12 : rgd bM V12 := hMV.put hV12 (i_full _)
          have agV12 : agr [(0, 7), (0, 8)] [35, 36, 37, 38] V V12 := agV.up hV12 rfl
          refine lv_iload_n hx hb dX12_takeWordOf_143 rfl (lv_at hl 0 rfl) ?_
          have pq13 : (V12 0 7).toInt = z11.toInt := congrArg Int32.toInt (up2_s hV12)
          have pq14 : (V12 0 8).toInt = ((V 0 8)).toInt := congrArg Int32.toInt (up2_k hV12 (by decide))
          exact W.iret (v := (-1)) hx hb hr (fun t ht hW => ⟨⟨(-1), (V12, L), rfl, ⟨hMV12, agV12, alL, (by decide), (Imp.mk (fun hp => have hp : (V12 0 8).toInt = 0 := hp; (show 0 ≤ (V12 0 7).toInt ∧ (V12 0 7).toInt ≤ n ∧ (V 0 8).toInt = 0 ∧ (V 0 7).toInt ≤ (V12 0 7).toInt from by first | omega | ((try (have i_hz11 := Imp.go hz11 (by omega))); (try (have i_x3 := Imp.go x3 (by omega))); (try (have i_x3 := Imp.go x3 (by omega))); (try (have i_hz11 := Imp.go hz11 (by omega))); omega)))), (Imp.mk (fun hp => have hp : (V12 0 8).toInt = 0 := hp; (show 0 ≤ (-1) from by first | omega | ((try (have i_hz11 := Imp.go hz11 (by omega))); (try (have i_x3 := Imp.go x3 (by omega))); (try (have i_x3 := Imp.go x3 (by omega))); (try (have i_hz11 := Imp.go hz11 (by omega))); omega)))), (Imp.mk (fun hp => have hp : (V12 0 8).toInt = 0 := hp; (show (V 0 7).toInt + 1 ≤ (V12 0 7).toInt from by first | omega | ((try (have i_hz11 := Imp.go hz11 (by omega))); (try (have i_x3 := Imp.go x3 (by omega))); (try (have i_x3 := Imp.go x3 (by omega))); (try (have i_hz11 := Imp.go hz11 (by omega))); omega))))⟩, by rw [ht]; exact hP, va_K.moved hW.alike hK, hD⟩, hS.F ht⟩) hS.2.2 dX12_takeWordOf_144
        · skip
          have f15 : ((V 0 8)).toInt = 0 := b_eq rfl (by decide) c8
          exfalso; first | exact om_0abcda13baee r1.1 f3 f15 | first | omega | ((try (have i_x3 := Imp.go x3 (by omega))); omega)
      · skip
        have f16 : ((V 0 8)).toInt = 0 := b_eq rfl (by decide) c6
        exfalso; first | exact om_0abcda13baee r1.1 f3 f16 | first | omega | ((try (have i_x3 := Imp.go x3 (by omega))); omega)
    · skip
      have f17 : ((V 0 8)).toInt = 0 := b_eq rfl (by decide) c4
      exfalso; first | exact om_0abcda13baee r1.1 f3 f17 | first | omega | ((try (have i_x3 := Imp.go x3 (by omega))); omega)
  · skip
    have f18 : ((V 0 8)).toInt = 0 := b_eq rfl (by decide) c2
    refine lv_aload_n hx hb dX12_takeWordOf_7 rfl (lv_at hl 0 rfl) ?_
    refine gA_int (gA_runV (As := []) (rest := []) (ci := 12) (q0 := 0) hx hb hml hown hg hP hD hK hS hA hnw hgk (s_isName l D ks H.size ad kk V L (n) hMV (show (V 4 (n)).toInt = 0 from by first | exact om_b66ba74381d5 x1 | first | omega | ((try (have i_x3 := Imp.go x3 (by omega))); omega)) (show (n) ≤ 4000 from by first | exact om_af64e361c991 x2 | first | omega | ((try (have i_x3 := Imp.go x3 (by omega))); omega)) (Imp.mk (fun hp => have hp : (V 0 8).toInt = 0 := hp; (show 0 ≤ (V 0 7).toInt ∧ (V 0 7).toInt ≤ (n) from by first | exact om_408b46baf51e ((Imp.go x3 (hp)).1) ((Imp.go x3 (hp)).2) | first | omega | ((try (have i_x3 := Imp.go x3 (by omega))); omega))))) w2043 w2045 w88 w172 w2046 rfl rfl hdV_yX12_isName ⟨Nat.le_of_ble_eq_true rfl, Nat.le_of_ble_eq_true rfl⟩ rfl hl.1 rfl (Nat.le_of_ble_eq_true rfl) dX12_takeWordOf_8 ⟨Nat.le_of_ble_eq_true rfl, Nat.le_of_ble_eq_true rfl⟩) hP hD hK hS hA (fun z19 u20 H locs w21 hP hD hK hS => ?_)
    obtain ⟨rgz19, t22⟩ := w21
    replace rgz19 : 0 ≤ z19.toInt ∧ z19.toInt ≤ 1 := rgz19
    replace t22 : Imp (z19.toInt = 1) ((V 0 8).toInt = 0 ∧ 0 ≤ (V 0 7).toInt ∧ (V 0 7).toInt < (n)) := t22
    refine lv_if_ne (tgt := 19) hx hb dX12_takeWordOf_11 (by decide) (fun c23 => ?_) (fun c23 => ?_)
    · skip
      have f24 : z19.toInt ≠ 0 := b_neq rfl (by decide) c23
      refine lv_aload_n hx hb dX12_takeWordOf_19 rfl (lv_at hl 0 rfl) ?_
      refine va_get (D := D) (ci := 12) (v := .int (V 0 8)) (C := RX12) (T := TX12) (N := 100) hx hb hg inX12 hown hK hP 0 rfl rfl 8 (by decide) (hg _ w1714) (fun _ h9 => h9) rfl dX12_takeWordOf_20 ?_
      refine lv_if_ne (tgt := 56) hx hb dX12_takeWordOf_23 (by decide) (fun c25 => ?_) (fun c25 => ?_)
      · skip
        have f26 : ((V 0 8)).toInt ≠ 0 := b_neq rfl (by decide) c25
        exfalso; first | exact om_fb320d7600b7 r1.1 f18 f26 | first | omega | ((try (have i_t22 := Imp.go t22 (by omega))); (try (have i_x3 := Imp.go x3 (by omega))); (try (have i_x3 := Imp.go x3 (by omega))); (try (have i_t22 := Imp.go t22 (by omega))); omega)
      · skip
        have f27 : ((V 0 8)).toInt = 0 := b_eq rfl (by decide) c25
        refine lv_aload_n hx hb dX12_takeWordOf_26 rfl (lv_at hl 0 rfl) ?_
        refine lv_aload_n hx hb dX12_takeWordOf_27 rfl (lv_at hl 1 rfl) ?_
        refine lv_bipush (v := 20) hx hb dX12_takeWordOf_28 (by decide) ?_
        refine lv_aload_n hx hb dX12_takeWordOf_30 rfl (lv_at hl 0 rfl) ?_
        refine va_get (D := D) (ci := 12) (v := .int (V 0 12)) (C := RX12) (T := TX12) (N := 100) hx hb hg inX12 hown hK hP 0 rfl rfl 12 (by decide) (hg _ w1718) (fun _ h9 => h9) rfl dX12_takeWordOf_31 ?_
        have r28 : 0 ≤ ((V 0 12)).toInt ∧ ((V 0 12)).toInt ≤ 1 := hMV 0 12
        refine lv_imul hx hb dX12_takeWordOf_34 ?_
        refine lv_topi (fun z29 ez29 => ?_)
        have hz29 : z29.toInt = 20 * ((V 0 12)).toInt := i_mul ez29 (by decide) rfl (by (first | exact om_1c36e316c123 r28.1 r28.2 | omega))
        refine lv_aload_n hx hb dX12_takeWordOf_35 rfl (lv_at hl 2 rfl) ?_
        refine lv_aload_n hx hb dX12_takeWordOf_36 rfl (lv_at hl 0 rfl) ?_
        refine va_get (D := D) (ci := 12) (v := .int (V 0 12)) (C := RX12) (T := TX12) (N := 100) hx hb hg inX12 hown hK hP 0 rfl rfl 12 (by decide) (hg _ w1718) (fun _ h9 => h9) rfl dX12_takeWordOf_37 ?_
        refine va_iald (D := D) (i := (V 0 12)) hx hb hK hP 30 29 rfl rfl (i_in (a := ((V 0 12)).toInt) rfl (by first | exact om_8367a84723c7 r28.1 r28.2 | first | omega | ((try (have i_t22 := Imp.go t22 (by omega))); (try (have i_x3 := Imp.go x3 (by omega))); (try (have i_x3 := Imp.go x3 (by omega))); (try (have i_t22 := Imp.go t22 (by omega))); omega))) dX12_takeWordOf_40 ?_
        have r30 : 0 ≤ ((V 37 (Int32.toNatClampNeg (V 0 12)))).toInt ∧ ((V 37 (Int32.toNatClampNeg (V 0 12)))).toInt ≤ 20 := hMV 37 (Int32.toNatClampNeg (V 0 12))
        refine lv_aload_n hx hb dX12_takeWordOf_41 rfl (lv_at hl 0 rfl) ?_
        refine va_get (D := D) (ci := 12) (v := .ref (ad 6)) (C := RX12) (T := TX12) (N := 100) hx hb hg inX12 hown hK hP 0 rfl rfl 6 (by decide) (hg _ w1712) (fun _ h9 => h9) rfl dX12_takeWordOf_42 ?_
        refine lv_aload_n hx hb dX12_takeWordOf_45 rfl (lv_at hl 0 rfl) ?_
        refine va_get (D := D) (ci := 12) (v := .int (V 0 7)) (C := RX12) (T := TX12) (N := 100) hx hb hg inX12 hown hK hP 0 rfl rfl 7 (by decide) (hg _ w1713) (fun _ h9 => h9) rfl dX12_takeWordOf_46 ?_
        refine va_lald (D := D) (i := (V 0 7)) hx hb hK hP 4 3 rfl rfl (i_in (a := ((V 0 7)).toInt) rfl (by first | exact om_4d9bfa19b181 x2 ((Imp.go x3 (f27)).1) ((Imp.go t22 (imp_a (rgz19.1) (rgz19.2) (f24))).2.2) | first | omega | ((try (have i_t22 := Imp.go t22 (by omega))); (try (have i_x3 := Imp.go x3 (by omega))); (try (have i_x3 := Imp.go x3 (by omega))); (try (have i_t22 := Imp.go t22 (by omega))); omega))) dX12_takeWordOf_49 ?_
        refine lv_topl (fun w31 ew31 => ?_)
        refine gA_int (gA_runV (As := [.ref (ad 38), .int z29, .int (V 37 (Int32.toNatClampNeg (V 0 12))), .long w31]) (rest := []) (ci := 12) (q0 := 0) hx hb hml hown hg hP hD hK hS hA hnw hgk (s_find_callName l D ks H.size ad kk V L z29 (V 37 (Int32.toNatClampNeg (V 0 12))) w31 hMV (by first | exact om_c7296700d4dd r28.1 r28.2 hz29 | first | omega | ((try (have i_t22 := Imp.go t22 (by omega))); (try (have i_x3 := Imp.go x3 (by omega))); (try (have i_x3 := Imp.go x3 (by omega))); (try (have i_t22 := Imp.go t22 (by omega))); omega)) (by first | exact om_ad40d0ac5b52 r30.1 r30.2 | first | omega | ((try (have i_t22 := Imp.go t22 (by omega))); (try (have i_x3 := Imp.go x3 (by omega))); (try (have i_x3 := Imp.go x3 (by omega))); (try (have i_t22 := Imp.go t22 (by omega))); omega)) (show z29.toInt + ((V 37 (Int32.toNatClampNeg (V 0 12)))).toInt ≤ 40 from by first | exact om_03a4a2dc5d03 r28.2 hz29 r30.2 | first | omega | ((try (have i_t22 := Imp.go t22 (by omega))); (try (have i_x3 := Imp.go x3 (by omega))); (try (have i_x3 := Imp.go x3 (by omega))); (try (have i_t22 := Imp.go t22 (by omega))); omega))) w2047 w2049 w89 w172 w2050 rfl rfl hdV_yX12_find ⟨Nat.le_of_ble_eq_true rfl, Nat.le_of_ble_eq_true rfl⟩ rfl hl.1 rfl (Nat.le_of_ble_eq_true rfl) dX12_takeWordOf_50 ⟨Nat.le_of_ble_eq_true rfl, Nat.le_of_ble_eq_true rfl⟩) hP hD hK hS hA (fun z32 u33 H locs w34 hP hD hK hS => ?_)
        obtain ⟨rgz32, t35⟩ := w34
        replace rgz32 : (-1) ≤ z32.toInt ∧ z32.toInt ≤ 47 := rgz32
        replace t35 : z32.toInt < ((V 37 (Int32.toNatClampNeg (V 0 12)))).toInt := t35
        refine lv_goto (tgt := 57) hx hb dX12_takeWordOf_53 (by decide) ?_
        refine lv_istore_n (lv' := [(3, .int z32), (0, .ref (ad 0)), (1, .ref (ad 38)), (2, .ref (ad 37))]) hx hb dX12_takeWordOf_57 rfl hl (by decide) rfl (fun ls hl => ?_)
        refine lv_aload_n hx hb dX12_takeWordOf_58 rfl (lv_at hl 1 rfl) ?_
        refine va_get (D := D) (ci := 12) (v := .int (V 0 8)) (C := RX12) (T := TX12) (N := 100) hx hb hg inX12 hown hK hP 0 rfl rfl 8 (by decide) (hg _ w1714) (fun _ h9 => h9) rfl dX12_takeWordOf_59 ?_
        refine lv_if_ne (tgt := 85) hx hb dX12_takeWordOf_62 (by decide) (fun c36 => ?_) (fun c36 => ?_)
        · skip
          have f37 : ((V 0 8)).toInt ≠ 0 := b_neq rfl (by decide) c36
          exfalso; first | exact om_fb320d7600b7 r1.1 f18 f37 | first | omega | ((try (have i_t22 := Imp.go t22 (by omega))); (try (have i_x3 := Imp.go x3 (by omega))); (try (have i_x3 := Imp.go x3 (by omega))); (try (have i_t22 := Imp.go t22 (by omega))); omega)
        · skip
          have f38 : ((V 0 8)).toInt = 0 := b_eq rfl (by decide) c36
          refine lv_iload_n hx hb dX12_takeWordOf_65 rfl (lv_at hl 0 rfl) ?_
          refine lv_if_ge (tgt := 85) hx hb dX12_takeWordOf_66 (by decide) (fun c39 => ?_) (fun c39 => ?_)
          · skip
            have f40 : 0 ≤ z32.toInt := b_le (by decide) rfl c39
            refine lv_aload_n hx hb dX12_takeWordOf_85 rfl (lv_at hl 1 rfl) ?_
            refine va_get (D := D) (ci := 12) (v := .int (V 0 8)) (C := RX12) (T := TX12) (N := 100) hx hb hg inX12 hown hK hP 0 rfl rfl 8 (by decide) (hg _ w1714) (fun _ h9 => h9) rfl dX12_takeWordOf_86 ?_
            refine lv_if_ne (tgt := 133) hx hb dX12_takeWordOf_89 (by decide) (fun c41 => ?_) (fun c41 => ?_)
            · skip
              have f42 : ((V 0 8)).toInt ≠ 0 := b_neq rfl (by decide) c41
              exfalso; first | exact om_fb320d7600b7 r1.1 f18 f42 | first | omega | ((try (have i_t22 := Imp.go t22 (by omega))); (try (have i_x3 := Imp.go x3 (by omega))); (try (have i_x3 := Imp.go x3 (by omega))); (try (have i_t22 := Imp.go t22 (by omega))); omega)
            · skip
              have f43 : ((V 0 8)).toInt = 0 := b_eq rfl (by decide) c41
              refine lv_iload_n hx hb dX12_takeWordOf_92 rfl (lv_at hl 0 rfl) ?_
              refine lv_if_ge (tgt := 133) hx hb dX12_takeWordOf_93 (by decide) (fun c44 => ?_) (fun c44 => ?_)
              · skip
                have f45 : 0 ≤ z32.toInt := b_le (by decide) rfl c44
                refine lv_aload_n hx hb dX12_takeWordOf_133 rfl (lv_at hl 1 rfl) ?_
                refine lv_dup hx hb dX12_takeWordOf_134 rfl ?_
                refine va_get (D := D) (ci := 12) (v := .int (V 0 7)) (C := RX12) (T := TX12) (N := 100) hx hb hg inX12 hown hK hP 0 rfl rfl 7 (by decide) (hg _ w1713) (fun _ h9 => h9) rfl dX12_takeWordOf_135 ?_
                refine lv_iconst (v := 1) hx hb dX12_takeWordOf_138 (by decide) ?_
                refine lv_iadd hx hb dX12_takeWordOf_139 ?_
                have r46 := i_full (V 0 7)
                refine lv_topi (fun z47 ez47 => ?_)
                have hz47 : Imp (-2147483648 ≤ ((V 0 7)).toInt + 1 ∧ ((V 0 7)).toInt + 1 ≤ 2147483647) (z47.toInt = ((V 0 7)).toInt + 1) := Imp.mk (fun hp => i_add ez47 rfl (by decide) hp)
                refine va_put (D := D) (ci := 12) (v := .int z47) (ty := tyX12 7) (C := RX12) (T := TX12) (N := 100) hx hb hg inX12 tyX12 tyX12_ok nmX12 hown hK hP hD hS 0 rfl rfl 7 (by decide) (hg _ w1713) (fun _ h9 => h9) rfl (tyX12_ok 7 (by decide)) rfl rfl (Nat.le_of_ble_eq_true rfl) dX12_takeWordOf_140 (fun H locs hP hD hS => ?_)
                obtain ⟨V48, hV48⟩ : ∃ z, z = up2 V 0 7 z47 := ⟨_, rfl⟩
                have hP : va_P D vwCl (mw ad kk ks.1 V48 L) H := by rw [hV48]; exact hP
                have hD : va_D A (mw ad kk ks.1 V48 L) := by rw [hV48]; exact hD
                have hMV48 : rgd bM V48 := hMV.put hV48 (i_full _)
                have agV48 : agr [(0, 7), (0, 8)] [35, 36, 37, 38] V V48 := agV.up hV48 rfl
                refine lv_iload_n hx hb dX12_takeWordOf_143 rfl (lv_at hl 0 rfl) ?_
                have pq49 : (V48 0 7).toInt = z47.toInt := congrArg Int32.toInt (up2_s hV48)
                have pq50 : (V48 0 8).toInt = ((V 0 8)).toInt := congrArg Int32.toInt (up2_k hV48 (by decide))
                exact W.iret (v := z32) hx hb hr (fun t ht hW => ⟨⟨z32, (V48, L), rfl, ⟨hMV48, agV48, alL, (show (-1) ≤ z32.toInt ∧ z32.toInt ≤ 19 from by first | exact om_3625e73a4d19 r30.2 t35 f40 | first | omega | ((try (have i_hz47 := Imp.go hz47 (by omega))); (try (have i_t22 := Imp.go t22 (by omega))); (try (have i_x3 := Imp.go x3 (by omega))); (try (have i_x3 := Imp.go x3 (by omega))); (try (have i_t22 := Imp.go t22 (by omega))); (try (have i_hz47 := Imp.go hz47 (by omega))); omega)), (Imp.mk (fun hp => have hp : (V48 0 8).toInt = 0 := hp; (show 0 ≤ (V48 0 7).toInt ∧ (V48 0 7).toInt ≤ n ∧ (V 0 8).toInt = 0 ∧ (V 0 7).toInt ≤ (V48 0 7).toInt from by first | exact om_b7d372ddba67 r1.1 f18 pq49 ((Imp.go x3 (f43)).1) ((Imp.go t22 (imp_a (rgz19.1) (rgz19.2) (f24))).2.2) ((Imp.go hz47 (om_053a02be3074 x2 ((Imp.go x3 (f43)).1) ((Imp.go t22 (imp_a (rgz19.1) (rgz19.2) (f24))).2.2)))) | first | omega | ((try (have i_hz47 := Imp.go hz47 (by omega))); (try (have i_t22 := Imp.go t22 (by omega))); (try (have i_x3 := Imp.go x3 (by omega))); (try (have i_x3 := Imp.go x3 (by omega))); (try (have i_t22 := Imp.go t22 (by omega))); (try (have i_hz47 := Imp.go hz47 (by omega))); omega)))), (Imp.mk (fun hp => have hp : (V48 0 8).toInt = 0 := hp; (show 0 ≤ z32.toInt from by first | exact om_eafa9039069c f40 | first | omega | ((try (have i_hz47 := Imp.go hz47 (by omega))); (try (have i_t22 := Imp.go t22 (by omega))); (try (have i_x3 := Imp.go x3 (by omega))); (try (have i_x3 := Imp.go x3 (by omega))); (try (have i_t22 := Imp.go t22 (by omega))); (try (have i_hz47 := Imp.go hz47 (by omega))); omega)))), (Imp.mk (fun hp => have hp : (V48 0 8).toInt = 0 := hp; (show (V 0 7).toInt + 1 ≤ (V48 0 7).toInt from by first | exact om_202eeafe7f37 pq49 ((Imp.go hz47 (om_053a02be3074 x2 ((Imp.go x3 (f43)).1) ((Imp.go t22 (imp_a (rgz19.1) (rgz19.2) (f24))).2.2)))) | first | omega | ((try (have i_hz47 := Imp.go hz47 (by omega))); (try (have i_t22 := Imp.go t22 (by omega))); (try (have i_x3 := Imp.go x3 (by omega))); (try (have i_x3 := Imp.go x3 (by omega))); (try (have i_t22 := Imp.go t22 (by omega))); (try (have i_hz47 := Imp.go hz47 (by omega))); omega))))⟩, by rw [ht]; exact hP, va_K.moved hW.alike hK, hD⟩, hS.F ht⟩) hS.2.2 dX12_takeWordOf_144
              · skip
                have f51 : z32.toInt < 0 := b_nle (by decide) rfl c44
                exfalso; first | exact om_1b10ca75f5f0 f40 f51 | first | omega | ((try (have i_t22 := Imp.go t22 (by omega))); (try (have i_x3 := Imp.go x3 (by omega))); (try (have i_x3 := Imp.go x3 (by omega))); (try (have i_t22 := Imp.go t22 (by omega))); omega)
          · skip
            have f52 : z32.toInt < 0 := b_nle (by decide) rfl c39
            refine lv_aload_n hx hb dX12_takeWordOf_69 rfl (lv_at hl 3 rfl) ?_
            refine lv_aload_n hx hb dX12_takeWordOf_70 rfl (lv_at hl 1 rfl) ?_
            refine va_get (D := D) (ci := 12) (v := .int (V 0 12)) (C := RX12) (T := TX12) (N := 100) hx hb hg inX12 hown hK hP 0 rfl rfl 12 (by decide) (hg _ w1718) (fun _ h9 => h9) rfl dX12_takeWordOf_71 ?_
            refine va_iald (D := D) (i := (V 0 12)) hx hb hK hP 30 29 rfl rfl (i_in (a := ((V 0 12)).toInt) rfl (by first | exact om_8367a84723c7 r28.1 r28.2 | first | omega | ((try (have i_t22 := Imp.go t22 (by omega))); (try (have i_x3 := Imp.go x3 (by omega))); (try (have i_x3 := Imp.go x3 (by omega))); (try (have i_t22 := Imp.go t22 (by omega))); omega))) dX12_takeWordOf_74 ?_
            refine lv_bipush (v := 20) hx hb dX12_takeWordOf_75 (by decide) ?_
            refine lv_icmp_ne (tgt := 85) hx hb dX12_takeWordOf_77 (by decide) (fun c53 => ?_) (fun c53 => ?_)
            · skip
              have f54 : ((V 37 (Int32.toNatClampNeg (V 0 12)))).toInt ≠ 20 := b_neq rfl (by decide) c53
              refine lv_aload_n hx hb dX12_takeWordOf_85 rfl (lv_at hl 1 rfl) ?_
              refine va_get (D := D) (ci := 12) (v := .int (V 0 8)) (C := RX12) (T := TX12) (N := 100) hx hb hg inX12 hown hK hP 0 rfl rfl 8 (by decide) (hg _ w1714) (fun _ h9 => h9) rfl dX12_takeWordOf_86 ?_
              refine lv_if_ne (tgt := 133) hx hb dX12_takeWordOf_89 (by decide) (fun c55 => ?_) (fun c55 => ?_)
              · skip
                have f56 : ((V 0 8)).toInt ≠ 0 := b_neq rfl (by decide) c55
                exfalso; first | exact om_fb320d7600b7 r1.1 f18 f56 | first | omega | ((try (have i_t22 := Imp.go t22 (by omega))); (try (have i_x3 := Imp.go x3 (by omega))); (try (have i_x3 := Imp.go x3 (by omega))); (try (have i_t22 := Imp.go t22 (by omega))); omega)
              · skip
                have f57 : ((V 0 8)).toInt = 0 := b_eq rfl (by decide) c55
                refine lv_iload_n hx hb dX12_takeWordOf_92 rfl (lv_at hl 0 rfl) ?_
                refine lv_if_ge (tgt := 133) hx hb dX12_takeWordOf_93 (by decide) (fun c58 => ?_) (fun c58 => ?_)
                · skip
                  have f59 : 0 ≤ z32.toInt := b_le (by decide) rfl c58
                  exfalso; first | exact om_54ab17f89714 f52 f59 | first | omega | ((try (have i_t22 := Imp.go t22 (by omega))); (try (have i_x3 := Imp.go x3 (by omega))); (try (have i_x3 := Imp.go x3 (by omega))); (try (have i_t22 := Imp.go t22 (by omega))); omega)
                · skip
                  have f60 : z32.toInt < 0 := b_nle (by decide) rfl c58
                  refine lv_aload_n hx hb dX12_takeWordOf_96 rfl (lv_at hl 3 rfl) ?_
                  refine lv_aload_n hx hb dX12_takeWordOf_97 rfl (lv_at hl 1 rfl) ?_
                  refine va_get (D := D) (ci := 12) (v := .int (V 0 12)) (C := RX12) (T := TX12) (N := 100) hx hb hg inX12 hown hK hP 0 rfl rfl 12 (by decide) (hg _ w1718) (fun _ h9 => h9) rfl dX12_takeWordOf_98 ?_
                  refine va_iald (D := D) (i := (V 0 12)) hx hb hK hP 30 29 rfl rfl (i_in (a := ((V 0 12)).toInt) rfl (by first | exact om_8367a84723c7 r28.1 r28.2 | first | omega | ((try (have i_t22 := Imp.go t22 (by omega))); (try (have i_x3 := Imp.go x3 (by omega))); (try (have i_x3 := Imp.go x3 (by omega))); (try (have i_t22 := Imp.go t22 (by omega))); omega))) dX12_takeWordOf_101 ?_
                  refine lv_istore_n (lv' := [(3, .int (V 37 (Int32.toNatClampNeg (V 0 12)))), (0, .ref (ad 0)), (1, .ref (ad 38)), (2, .ref (ad 37))]) hx hb dX12_takeWordOf_102 rfl hl (by decide) rfl (fun ls hl => ?_)
                  refine lv_aload_n hx hb dX12_takeWordOf_103 rfl (lv_at hl 2 rfl) ?_
                  refine lv_bipush (v := 20) hx hb dX12_takeWordOf_104 (by decide) ?_
                  refine lv_aload_n hx hb dX12_takeWordOf_106 rfl (lv_at hl 1 rfl) ?_
                  refine va_get (D := D) (ci := 12) (v := .int (V 0 12)) (C := RX12) (T := TX12) (N := 100) hx hb hg inX12 hown hK hP 0 rfl rfl 12 (by decide) (hg _ w1718) (fun _ h9 => h9) rfl dX12_takeWordOf_107 ?_
                  refine lv_imul hx hb dX12_takeWordOf_110 ?_
                  refine lv_topi (fun z61 ez61 => ?_)
                  have hz61 : z61.toInt = 20 * ((V 0 12)).toInt := i_mul ez61 (by decide) rfl (by (first | exact om_1c36e316c123 r28.1 r28.2 | omega))
                  refine lv_iload_n hx hb dX12_takeWordOf_111 rfl (lv_at hl 0 rfl) ?_
                  refine lv_iadd hx hb dX12_takeWordOf_112 ?_
                  refine lv_topi (fun z62 ez62 => ?_)
                  have hz62 : z62.toInt = z61.toInt + ((V 37 (Int32.toNatClampNeg (V 0 12)))).toInt := i_add ez62 rfl rfl (by (first | exact om_17e47abb59b2 r28.1 r28.2 r30.1 r30.2 f54 hz61 | omega))
                  refine lv_aload_n hx hb dX12_takeWordOf_113 rfl (lv_at hl 1 rfl) ?_
                  refine va_get (D := D) (ci := 12) (v := .ref (ad 6)) (C := RX12) (T := TX12) (N := 100) hx hb hg inX12 hown hK hP 0 rfl rfl 6 (by decide) (hg _ w1712) (fun _ h9 => h9) rfl dX12_takeWordOf_114 ?_
                  refine lv_aload_n hx hb dX12_takeWordOf_117 rfl (lv_at hl 1 rfl) ?_
                  refine va_get (D := D) (ci := 12) (v := .int (V 0 7)) (C := RX12) (T := TX12) (N := 100) hx hb hg inX12 hown hK hP 0 rfl rfl 7 (by decide) (hg _ w1713) (fun _ h9 => h9) rfl dX12_takeWordOf_118 ?_
                  refine va_lald (D := D) (i := (V 0 7)) hx hb hK hP 4 3 rfl rfl (i_in (a := ((V 0 7)).toInt) rfl (by first | exact om_4d9bfa19b181 x2 ((Imp.go x3 (f57)).1) ((Imp.go t22 (imp_a (rgz19.1) (rgz19.2) (f24))).2.2) | first | omega | ((try (have i_t22 := Imp.go t22 (by omega))); (try (have i_x3 := Imp.go x3 (by omega))); (try (have i_x3 := Imp.go x3 (by omega))); (try (have i_t22 := Imp.go t22 (by omega))); omega))) dX12_takeWordOf_121 ?_
                  refine lv_topl (fun w63 ew63 => ?_)
                  refine va_last (D := D) (i := z62) (x := w63) hx hb hK hP hD hS 31 30 rfl rfl (i_in (a := z62.toInt) rfl (by first | exact om_ce5636e369f7 r28.1 r28.2 r30.1 r30.2 f54 hz61 hz62 | first | omega | ((try (have i_t22 := Imp.go t22 (by omega))); (try (have i_x3 := Imp.go x3 (by omega))); (try (have i_x3 := Imp.go x3 (by omega))); (try (have i_t22 := Imp.go t22 (by omega))); omega))) dX12_takeWordOf_122 (fun H locs hP hD hS => ?_)
                  obtain ⟨L64, hL64⟩ : ∃ z, z = upL L 38 (Int32.toNatClampNeg z62) w63 := ⟨_, rfl⟩
                  have hP : va_P D vwCl (mw ad kk ks.1 V L64) H := by rw [hL64]; exact hP
                  have hD : va_D A (mw ad kk ks.1 V L64) := by rw [hL64]; exact hD
                  have alL64 : agL [35, 36, 37, 38] L L64 := agL.up alL hL64 rfl
                  refine lv_aload_n hx hb dX12_takeWordOf_123 rfl (lv_at hl 3 rfl) ?_
                  refine lv_aload_n hx hb dX12_takeWordOf_124 rfl (lv_at hl 1 rfl) ?_
                  refine va_get (D := D) (ci := 12) (v := .int (V 0 12)) (C := RX12) (T := TX12) (N := 100) hx hb hg inX12 hown hK hP 0 rfl rfl 12 (by decide) (hg _ w1718) (fun _ h9 => h9) rfl dX12_takeWordOf_125 ?_
                  refine lv_dup2_11 hx hb dX12_takeWordOf_128 rfl rfl ?_
                  refine va_iald (D := D) (i := (V 0 12)) hx hb hK hP 30 29 rfl rfl (i_in (a := ((V 0 12)).toInt) rfl (by first | exact om_8367a84723c7 r28.1 r28.2 | first | omega | ((try (have i_t22 := Imp.go t22 (by omega))); (try (have i_x3 := Imp.go x3 (by omega))); (try (have i_x3 := Imp.go x3 (by omega))); (try (have i_t22 := Imp.go t22 (by omega))); omega))) dX12_takeWordOf_129 ?_
                  refine lv_iconst (v := 1) hx hb dX12_takeWordOf_130 (by decide) ?_
                  refine lv_iadd hx hb dX12_takeWordOf_131 ?_
                  refine lv_topi (fun z65 ez65 => ?_)
                  have hz65 : z65.toInt = ((V 37 (Int32.toNatClampNeg (V 0 12)))).toInt + 1 := i_add ez65 rfl (by decide) (by (first | exact om_27c928885e36 r30.1 r30.2 f54 | omega))
                  refine va_iast (D := D) (i := (V 0 12)) (x := z65) hx hb hK hP hD hS 30 29 rfl rfl (i_in (a := ((V 0 12)).toInt) rfl (by first | exact om_8367a84723c7 r28.1 r28.2 | first | omega | ((try (have i_t22 := Imp.go t22 (by omega))); (try (have i_x3 := Imp.go x3 (by omega))); (try (have i_x3 := Imp.go x3 (by omega))); (try (have i_t22 := Imp.go t22 (by omega))); omega))) dX12_takeWordOf_132 (fun H locs hP hD hS => ?_)
                  obtain ⟨V66, hV66⟩ : ∃ z, z = up2 V 37 (Int32.toNatClampNeg (V 0 12)) z65 := ⟨_, rfl⟩
                  have hP : va_P D vwCl (mw ad kk ks.1 V66 L64) H := by rw [hV66]; exact hP
                  have hD : va_D A (mw ad kk ks.1 V66 L64) := by rw [hV66]; exact hD
                  have hMV66 : rgd bM V66 := hMV.put hV66 (show 0 ≤ z65.toInt ∧ z65.toInt ≤ 20 from by first | exact om_f4eeecdf3ac8 r30.1 r30.2 f54 hz65 | first | omega | ((try (have i_t22 := Imp.go t22 (by omega))); (try (have i_x3 := Imp.go x3 (by omega))); (try (have i_x3 := Imp.go x3 (by omega))); (try (have i_t22 := Imp.go t22 (by omega))); omega))
                  have agV66 : agr [(0, 7), (0, 8)] [35, 36, 37, 38] V V66 := agV.up hV66 rfl
                  refine lv_aload_n hx hb dX12_takeWordOf_133 rfl (lv_at hl 1 rfl) ?_
                  refine lv_dup hx hb dX12_takeWordOf_134 rfl ?_
                  refine va_get (D := D) (ci := 12) (v := .int (V66 0 7)) (C := RX12) (T := TX12) (N := 100) hx hb hg inX12 hown hK hP 0 rfl rfl 7 (by decide) (hg _ w1713) (fun _ h9 => h9) rfl dX12_takeWordOf_135 ?_
                  refine g_top (v := (V 0 7)) (up2_o hV66 (by decide)) ?_
                  refine lv_iconst (v := 1) hx hb dX12_takeWordOf_138 (by decide) ?_
                  refine lv_iadd hx hb dX12_takeWordOf_139 ?_
                  have r67 := i_full (V 0 7)
                  refine lv_topi (fun z68 ez68 => ?_)
                  have hz68 : Imp (-2147483648 ≤ ((V 0 7)).toInt + 1 ∧ ((V 0 7)).toInt + 1 ≤ 2147483647) (z68.toInt = ((V 0 7)).toInt + 1) := Imp.mk (fun hp => i_add ez68 rfl (by decide) hp)
                  refine va_put (D := D) (ci := 12) (v := .int z68) (ty := tyX12 7) (C := RX12) (T := TX12) (N := 100) hx hb hg inX12 tyX12 tyX12_ok nmX12 hown hK hP hD hS 0 rfl rfl 7 (by decide) (hg _ w1713) (fun _ h9 => h9) rfl (tyX12_ok 7 (by decide)) rfl rfl (Nat.le_of_ble_eq_true rfl) dX12_takeWordOf_140 (fun H locs hP hD hS => ?_)
                  obtain ⟨V69, hV69⟩ : ∃ z, z = up2 V66 0 7 z68 := ⟨_, rfl⟩
                  have hP : va_P D vwCl (mw ad kk ks.1 V69 L64) H := by rw [hV69]; exact hP
                  have hD : va_D A (mw ad kk ks.1 V69 L64) := by rw [hV69]; exact hD
                  have hMV69 : rgd bM V69 := hMV66.put hV69 (i_full _)
                  have agV69 : agr [(0, 7), (0, 8)] [35, 36, 37, 38] V V69 := agV66.up hV69 rfl
                  refine lv_iload_n hx hb dX12_takeWordOf_143 rfl (lv_at hl 0 rfl) ?_
                  have pq70 : (V69 0 7).toInt = z68.toInt := congrArg Int32.toInt (up2_s hV69)
                  have pq71 : (V69 0 8).toInt = ((V 0 8)).toInt := congrArg Int32.toInt ((up2_k hV69 (by decide)).trans (up2_o hV66 (by decide)))
                  exact W.iret (v := (V 37 (Int32.toNatClampNeg (V 0 12)))) hx hb hr (fun t ht hW => ⟨⟨(V 37 (Int32.toNatClampNeg (V 0 12))), (V69, L64), rfl, ⟨hMV69, agV69, alL64, (show (-1) ≤ ((V 37 (Int32.toNatClampNeg (V 0 12)))).toInt ∧ ((V 37 (Int32.toNatClampNeg (V 0 12)))).toInt ≤ 19 from by first | exact om_f725c6527e42 r30.1 r30.2 f54 | first | omega | ((try (have i_hz68 := Imp.go hz68 (by omega))); (try (have i_t22 := Imp.go t22 (by omega))); (try (have i_x3 := Imp.go x3 (by omega))); (try (have i_x3 := Imp.go x3 (by omega))); (try (have i_t22 := Imp.go t22 (by omega))); (try (have i_hz68 := Imp.go hz68 (by omega))); omega)), (Imp.mk (fun hp => have hp : (V69 0 8).toInt = 0 := hp; (show 0 ≤ (V69 0 7).toInt ∧ (V69 0 7).toInt ≤ n ∧ (V 0 8).toInt = 0 ∧ (V 0 7).toInt ≤ (V69 0 7).toInt from by first | exact om_b7d372ddba67 r1.1 f18 pq70 ((Imp.go x3 (f57)).1) ((Imp.go t22 (imp_a (rgz19.1) (rgz19.2) (f24))).2.2) ((Imp.go hz68 (om_053a02be3074 x2 ((Imp.go x3 (f57)).1) ((Imp.go t22 (imp_a (rgz19.1) (rgz19.2) (f24))).2.2)))) | first | omega | ((try (have i_hz68 := Imp.go hz68 (by omega))); (try (have i_t22 := Imp.go t22 (by omega))); (try (have i_x3 := Imp.go x3 (by omega))); (try (have i_x3 := Imp.go x3 (by omega))); (try (have i_t22 := Imp.go t22 (by omega))); (try (have i_hz68 := Imp.go hz68 (by omega))); omega)))), (Imp.mk (fun hp => have hp : (V69 0 8).toInt = 0 := hp; (show 0 ≤ ((V 37 (Int32.toNatClampNeg (V 0 12)))).toInt from by first | exact om_eafa9039069c r30.1 | first | omega | ((try (have i_hz68 := Imp.go hz68 (by omega))); (try (have i_t22 := Imp.go t22 (by omega))); (try (have i_x3 := Imp.go x3 (by omega))); (try (have i_x3 := Imp.go x3 (by omega))); (try (have i_t22 := Imp.go t22 (by omega))); (try (have i_hz68 := Imp.go hz68 (by omega))); omega)))), (Imp.mk (fun hp => have hp : (V69 0 8).toInt = 0 := hp; (show (V 0 7).toInt + 1 ≤ (V69 0 7).toInt from by first | exact om_202eeafe7f37 pq70 ((Imp.go hz68 (om_053a02be3074 x2 ((Imp.go x3 (f57)).1) ((Imp.go t22 (imp_a (rgz19.1) (rgz19.2) (f24))).2.2)))) | first | omega | ((try (have i_hz68 := Imp.go hz68 (by omega))); (try (have i_t22 := Imp.go t22 (by omega))); (try (have i_x3 := Imp.go x3 (by omega))); (try (have i_x3 := Imp.go x3 (by omega))); (try (have i_t22 := Imp.go t22 (by omega))); (try (have i_hz68 := Imp.go hz68 (by omega))); omega))))⟩, by rw [ht]; exact hP, va_K.moved hW.alike hK, hD⟩, hS.F ht⟩) hS.2.2 dX12_takeWordOf_144
            · skip
              have f72 : ((V 37 (Int32.toNatClampNeg (V 0 12)))).toInt = 20 := b_eq rfl (by decide) c53
              refine lv_aload_n hx hb dX12_takeWordOf_80 rfl (lv_at hl 1 rfl) ?_
              refine lv_iconst (v := 5) hx hb dX12_takeWordOf_81 (by decide) ?_
              have r73 : Int32.toInt 5 = 5 := by decide
              refine gA_void (gA_runV (As := [.int 5]) (rest := []) (ci := 12) (q0 := 0) hx hb hml hown hg hP hD hK hS hA hnw hgk (s_wrong l D ks H.size ad kk V L 5 (n) hMV (by decide) (show (V 4 (n)).toInt = 0 from by first | exact om_b66ba74381d5 x1 | first | omega | ((try (have i_t22 := Imp.go t22 (by omega))); (try (have i_x3 := Imp.go x3 (by omega))); (try (have i_x3 := Imp.go x3 (by omega))); (try (have i_t22 := Imp.go t22 (by omega))); omega)) (show (n) ≤ 4000 from by first | exact om_af64e361c991 x2 | first | omega | ((try (have i_t22 := Imp.go t22 (by omega))); (try (have i_x3 := Imp.go x3 (by omega))); (try (have i_x3 := Imp.go x3 (by omega))); (try (have i_t22 := Imp.go t22 (by omega))); omega)) (Imp.mk (fun hp => have hp : (V 0 8).toInt = 0 := hp; (show 0 ≤ (V 0 7).toInt ∧ (V 0 7).toInt ≤ (n) from by first | exact om_7a329117c856 ((Imp.go x3 (hp)).1) ((Imp.go t22 (imp_a (rgz19.1) (rgz19.2) (f24))).2.2) | first | omega | ((try (have i_t22 := Imp.go t22 (by omega))); (try (have i_x3 := Imp.go x3 (by omega))); (try (have i_x3 := Imp.go x3 (by omega))); (try (have i_t22 := Imp.go t22 (by omega))); omega))))) w2035 w2037 w86 w172 w2038 rfl rfl hdV_yX12_wrong ⟨Nat.le_of_ble_eq_true rfl, Nat.le_of_ble_eq_true rfl⟩ rfl hl.1 rfl (Nat.le_of_ble_eq_true rfl) dX12_takeWordOf_82 ⟨Nat.le_of_ble_eq_true rfl, Nat.le_of_ble_eq_true rfl⟩) hP hD hK hS hA (fun u75 H locs w76 hP hD hK hS => ?_)
              obtain ⟨V78, L79⟩ := u75
              obtain ⟨hMV78, ajV78, axL79, t77⟩ := w76
              have axL79 : L = L79 := Eq.symm axL79
              subst axL79
              replace hP : va_P D vwCl (mw ad kk ks.1 V78 L) H := hP
              replace hD : va_D A (mw ad kk ks.1 V78 L) := hD
              replace hMV78 : rgd bM V78 := hMV78
              replace ajV78 : agr [(0, 8)] [] V V78 := ajV78
              have agV78 : agr [(0, 7), (0, 8)] [35, 36, 37, 38] V V78 := agV.tr ajV78 (by decide) (by decide)
              replace t77 : 1 ≤ (V78 0 8).toInt := t77
              have r80 : 0 ≤ ((V78 0 8)).toInt ∧ ((V78 0 8)).toInt ≤ 70000 := hMV78 0 8
              refine lv_aload_n hx hb dX12_takeWordOf_85 rfl (lv_at hl 1 rfl) ?_
              refine va_get (D := D) (ci := 12) (v := .int (V78 0 8)) (C := RX12) (T := TX12) (N := 100) hx hb hg inX12 hown hK hP 0 rfl rfl 8 (by decide) (hg _ w1714) (fun _ h9 => h9) rfl dX12_takeWordOf_86 ?_
              refine lv_if_ne (tgt := 133) hx hb dX12_takeWordOf_89 (by decide) (fun c81 => ?_) (fun c81 => ?_)
              · skip
                have f82 : ((V78 0 8)).toInt ≠ 0 := b_neq rfl (by decide) c81
                refine lv_aload_n hx hb dX12_takeWordOf_133 rfl (lv_at hl 1 rfl) ?_
                refine lv_dup hx hb dX12_takeWordOf_134 rfl ?_
                refine va_get (D := D) (ci := 12) (v := .int (V78 0 7)) (C := RX12) (T := TX12) (N := 100) hx hb hg inX12 hown hK hP 0 rfl rfl 7 (by decide) (hg _ w1713) (fun _ h9 => h9) rfl dX12_takeWordOf_135 ?_
                refine g_top (v := (V 0 7)) (ajV78 0 7 rfl) ?_
                refine lv_iconst (v := 1) hx hb dX12_takeWordOf_138 (by decide) ?_
                refine lv_iadd hx hb dX12_takeWordOf_139 ?_
                have r83 := i_full (V 0 7)
                refine lv_topi (fun z84 ez84 => ?_)
                have hz84 : Imp (-2147483648 ≤ ((V 0 7)).toInt + 1 ∧ ((V 0 7)).toInt + 1 ≤ 2147483647) (z84.toInt = ((V 0 7)).toInt + 1) := Imp.mk (fun hp => i_add ez84 rfl (by decide) hp)
                refine va_put (D := D) (ci := 12) (v := .int z84) (ty := tyX12 7) (C := RX12) (T := TX12) (N := 100) hx hb hg inX12 tyX12 tyX12_ok nmX12 hown hK hP hD hS 0 rfl rfl 7 (by decide) (hg _ w1713) (fun _ h9 => h9) rfl (tyX12_ok 7 (by decide)) rfl rfl (Nat.le_of_ble_eq_true rfl) dX12_takeWordOf_140 (fun H locs hP hD hS => ?_)
                obtain ⟨V85, hV85⟩ : ∃ z, z = up2 V78 0 7 z84 := ⟨_, rfl⟩
                have hP : va_P D vwCl (mw ad kk ks.1 V85 L) H := by rw [hV85]; exact hP
                have hD : va_D A (mw ad kk ks.1 V85 L) := by rw [hV85]; exact hD
                have hMV85 : rgd bM V85 := hMV78.put hV85 (i_full _)
                have agV85 : agr [(0, 7), (0, 8)] [35, 36, 37, 38] V V85 := agV78.up hV85 rfl
                refine lv_iload_n hx hb dX12_takeWordOf_143 rfl (lv_at hl 0 rfl) ?_
                have pq86 : (V85 0 7).toInt = z84.toInt := congrArg Int32.toInt (up2_s hV85)
                have pq87 : (V85 0 8).toInt = ((V78 0 8)).toInt := congrArg Int32.toInt (up2_k hV85 (by decide))
                exact W.iret (v := z32) hx hb hr (fun t ht hW => ⟨⟨z32, (V85, L), rfl, ⟨hMV85, agV85, alL, (show (-1) ≤ z32.toInt ∧ z32.toInt ≤ 19 from by first | exact om_d0ba04e598f0 rgz32.1 f52 | first | omega | ((try (have i_hz84 := Imp.go hz84 (by omega))); (try (have i_t22 := Imp.go t22 (by omega))); (try (have i_x3 := Imp.go x3 (by omega))); (try (have i_x3 := Imp.go x3 (by omega))); (try (have i_t22 := Imp.go t22 (by omega))); (try (have i_hz84 := Imp.go hz84 (by omega))); omega)), (Imp.mk (fun hp => have hp : (V85 0 8).toInt = 0 := hp; (show 0 ≤ (V85 0 7).toInt ∧ (V85 0 7).toInt ≤ n ∧ (V 0 8).toInt = 0 ∧ (V 0 7).toInt ≤ (V85 0 7).toInt from by first | omega | ((try (have i_hz84 := Imp.go hz84 (by omega))); (try (have i_t22 := Imp.go t22 (by omega))); (try (have i_x3 := Imp.go x3 (by omega))); (try (have i_x3 := Imp.go x3 (by omega))); (try (have i_t22 := Imp.go t22 (by omega))); (try (have i_hz84 := Imp.go hz84 (by omega))); omega)))), (Imp.mk (fun hp => have hp : (V85 0 8).toInt = 0 := hp; (show 0 ≤ z32.toInt from by first | omega | ((try (have i_hz84 := Imp.go hz84 (by omega))); (try (have i_t22 := Imp.go t22 (by omega))); (try (have i_x3 := Imp.go x3 (by omega))); (try (have i_x3 := Imp.go x3 (by omega))); (try (have i_t22 := Imp.go t22 (by omega))); (try (have i_hz84 := Imp.go hz84 (by omega))); omega)))), (Imp.mk (fun hp => have hp : (V85 0 8).toInt = 0 := hp; (show (V 0 7).toInt + 1 ≤ (V85 0 7).toInt from by first | omega | ((try (have i_hz84 := Imp.go hz84 (by omega))); (try (have i_t22 := Imp.go t22 (by omega))); (try (have i_x3 := Imp.go x3 (by omega))); (try (have i_x3 := Imp.go x3 (by omega))); (try (have i_t22 := Imp.go t22 (by omega))); (try (have i_hz84 := Imp.go hz84 (by omega))); omega))))⟩, by rw [ht]; exact hP, va_K.moved hW.alike hK, hD⟩, hS.F ht⟩) hS.2.2 dX12_takeWordOf_144
              · skip
                have f88 : ((V78 0 8)).toInt = 0 := b_eq rfl (by decide) c81
                exfalso; first | exact om_09885ab343b9 t77 f88 | first | omega | ((try (have i_t22 := Imp.go t22 (by omega))); (try (have i_x3 := Imp.go x3 (by omega))); (try (have i_x3 := Imp.go x3 (by omega))); (try (have i_t22 := Imp.go t22 (by omega))); omega)
    · skip
      have f89 : z19.toInt = 0 := b_eq rfl (by decide) c23
      refine lv_aload_n hx hb dX12_takeWordOf_14 rfl (lv_at hl 0 rfl) ?_
      refine lv_iconst (v := 1) hx hb dX12_takeWordOf_15 (by decide) ?_
      have r90 : Int32.toInt 1 = 1 := by decide
      refine gA_void (gA_runV (As := [.int 1]) (rest := []) (ci := 12) (q0 := 0) hx hb hml hown hg hP hD hK hS hA hnw hgk (s_wrong l D ks H.size ad kk V L 1 (n) hMV (by decide) (show (V 4 (n)).toInt = 0 from by first | exact om_b66ba74381d5 x1 | first | omega | ((try (have i_t22 := Imp.go t22 (by omega))); (try (have i_x3 := Imp.go x3 (by omega))); (try (have i_x3 := Imp.go x3 (by omega))); (try (have i_t22 := Imp.go t22 (by omega))); omega)) (show (n) ≤ 4000 from by first | exact om_af64e361c991 x2 | first | omega | ((try (have i_t22 := Imp.go t22 (by omega))); (try (have i_x3 := Imp.go x3 (by omega))); (try (have i_x3 := Imp.go x3 (by omega))); (try (have i_t22 := Imp.go t22 (by omega))); omega)) (Imp.mk (fun hp => have hp : (V 0 8).toInt = 0 := hp; (show 0 ≤ (V 0 7).toInt ∧ (V 0 7).toInt ≤ (n) from by first | exact om_408b46baf51e ((Imp.go x3 (hp)).1) ((Imp.go x3 (hp)).2) | first | omega | ((try (have i_t22 := Imp.go t22 (by omega))); (try (have i_x3 := Imp.go x3 (by omega))); (try (have i_x3 := Imp.go x3 (by omega))); (try (have i_t22 := Imp.go t22 (by omega))); omega))))) w2035 w2037 w86 w172 w2038 rfl rfl hdV_yX12_wrong ⟨Nat.le_of_ble_eq_true rfl, Nat.le_of_ble_eq_true rfl⟩ rfl hl.1 rfl (Nat.le_of_ble_eq_true rfl) dX12_takeWordOf_16 ⟨Nat.le_of_ble_eq_true rfl, Nat.le_of_ble_eq_true rfl⟩) hP hD hK hS hA (fun u92 H locs w93 hP hD hK hS => ?_)
      obtain ⟨V95, L96⟩ := u92
      obtain ⟨hMV95, ajV95, axL96, t94⟩ := w93
      have axL96 : L = L96 := Eq.symm axL96
      subst axL96
      replace hP : va_P D vwCl (mw ad kk ks.1 V95 L) H := hP
      replace hD : va_D A (mw ad kk ks.1 V95 L) := hD
      replace hMV95 : rgd bM V95 := hMV95
      replace ajV95 : agr [(0, 8)] [] V V95 := ajV95
      have agV95 : agr [(0, 7), (0, 8)] [35, 36, 37, 38] V V95 := agV.tr ajV95 (by decide) (by decide)
      replace t94 : 1 ≤ (V95 0 8).toInt := t94
      have r97 : 0 ≤ ((V95 0 8)).toInt ∧ ((V95 0 8)).toInt ≤ 70000 := hMV95 0 8
      refine lv_aload_n hx hb dX12_takeWordOf_19 rfl (lv_at hl 0 rfl) ?_
      refine va_get (D := D) (ci := 12) (v := .int (V95 0 8)) (C := RX12) (T := TX12) (N := 100) hx hb hg inX12 hown hK hP 0 rfl rfl 8 (by decide) (hg _ w1714) (fun _ h9 => h9) rfl dX12_takeWordOf_20 ?_
      refine lv_if_ne (tgt := 56) hx hb dX12_takeWordOf_23 (by decide) (fun c98 => ?_) (fun c98 => ?_)
      · skip
        have f99 : ((V95 0 8)).toInt ≠ 0 := b_neq rfl (by decide) c98
        refine lv_iconst (v := (-1)) hx hb dX12_takeWordOf_56 (by decide) ?_
        refine lv_istore_n (lv' := [(3, .int (-1)), (0, .ref (ad 0)), (1, .ref (ad 38)), (2, .ref (ad 37))]) hx hb dX12_takeWordOf_57 rfl hl (by decide) rfl (fun ls hl => ?_)
        refine lv_aload_n hx hb dX12_takeWordOf_58 rfl (lv_at hl 1 rfl) ?_
        refine va_get (D := D) (ci := 12) (v := .int (V95 0 8)) (C := RX12) (T := TX12) (N := 100) hx hb hg inX12 hown hK hP 0 rfl rfl 8 (by decide) (hg _ w1714) (fun _ h9 => h9) rfl dX12_takeWordOf_59 ?_
        refine lv_if_ne (tgt := 85) hx hb dX12_takeWordOf_62 (by decide) (fun c100 => ?_) (fun c100 => ?_)
        · skip
          have f101 : ((V95 0 8)).toInt ≠ 0 := b_neq rfl (by decide) c100
          refine lv_aload_n hx hb dX12_takeWordOf_85 rfl (lv_at hl 1 rfl) ?_
          refine va_get (D := D) (ci := 12) (v := .int (V95 0 8)) (C := RX12) (T := TX12) (N := 100) hx hb hg inX12 hown hK hP 0 rfl rfl 8 (by decide) (hg _ w1714) (fun _ h9 => h9) rfl dX12_takeWordOf_86 ?_
          refine lv_if_ne (tgt := 133) hx hb dX12_takeWordOf_89 (by decide) (fun c102 => ?_) (fun c102 => ?_)
          · skip
            have f103 : ((V95 0 8)).toInt ≠ 0 := b_neq rfl (by decide) c102
            refine lv_aload_n hx hb dX12_takeWordOf_133 rfl (lv_at hl 1 rfl) ?_
            refine lv_dup hx hb dX12_takeWordOf_134 rfl ?_
            refine va_get (D := D) (ci := 12) (v := .int (V95 0 7)) (C := RX12) (T := TX12) (N := 100) hx hb hg inX12 hown hK hP 0 rfl rfl 7 (by decide) (hg _ w1713) (fun _ h9 => h9) rfl dX12_takeWordOf_135 ?_
            refine g_top (v := (V 0 7)) (ajV95 0 7 rfl) ?_
            refine lv_iconst (v := 1) hx hb dX12_takeWordOf_138 (by decide) ?_
            refine lv_iadd hx hb dX12_takeWordOf_139 ?_
            have r104 := i_full (V 0 7)
            refine lv_topi (fun z105 ez105 => ?_)
            have hz105 : Imp (-2147483648 ≤ ((V 0 7)).toInt + 1 ∧ ((V 0 7)).toInt + 1 ≤ 2147483647) (z105.toInt = ((V 0 7)).toInt + 1) := Imp.mk (fun hp => i_add ez105 rfl (by decide) hp)
            refine va_put (D := D) (ci := 12) (v := .int z105) (ty := tyX12 7) (C := RX12) (T := TX12) (N := 100) hx hb hg inX12 tyX12 tyX12_ok nmX12 hown hK hP hD hS 0 rfl rfl 7 (by decide) (hg _ w1713) (fun _ h9 => h9) rfl (tyX12_ok 7 (by decide)) rfl rfl (Nat.le_of_ble_eq_true rfl) dX12_takeWordOf_140 (fun H locs hP hD hS => ?_)
            obtain ⟨V106, hV106⟩ : ∃ z, z = up2 V95 0 7 z105 := ⟨_, rfl⟩
            have hP : va_P D vwCl (mw ad kk ks.1 V106 L) H := by rw [hV106]; exact hP
            have hD : va_D A (mw ad kk ks.1 V106 L) := by rw [hV106]; exact hD
            have hMV106 : rgd bM V106 := hMV95.put hV106 (i_full _)
            have agV106 : agr [(0, 7), (0, 8)] [35, 36, 37, 38] V V106 := agV95.up hV106 rfl
            refine lv_iload_n hx hb dX12_takeWordOf_143 rfl (lv_at hl 0 rfl) ?_
            have pq107 : (V106 0 7).toInt = z105.toInt := congrArg Int32.toInt (up2_s hV106)
            have pq108 : (V106 0 8).toInt = ((V95 0 8)).toInt := congrArg Int32.toInt (up2_k hV106 (by decide))
            exact W.iret (v := (-1)) hx hb hr (fun t ht hW => ⟨⟨(-1), (V106, L), rfl, ⟨hMV106, agV106, alL, (by decide), (Imp.mk (fun hp => have hp : (V106 0 8).toInt = 0 := hp; (show 0 ≤ (V106 0 7).toInt ∧ (V106 0 7).toInt ≤ n ∧ (V 0 8).toInt = 0 ∧ (V 0 7).toInt ≤ (V106 0 7).toInt from by first | omega | ((try (have i_hz105 := Imp.go hz105 (by omega))); (try (have i_t22 := Imp.go t22 (by omega))); (try (have i_x3 := Imp.go x3 (by omega))); (try (have i_x3 := Imp.go x3 (by omega))); (try (have i_t22 := Imp.go t22 (by omega))); (try (have i_hz105 := Imp.go hz105 (by omega))); omega)))), (Imp.mk (fun hp => have hp : (V106 0 8).toInt = 0 := hp; (show 0 ≤ (-1) from by first | omega | ((try (have i_hz105 := Imp.go hz105 (by omega))); (try (have i_t22 := Imp.go t22 (by omega))); (try (have i_x3 := Imp.go x3 (by omega))); (try (have i_x3 := Imp.go x3 (by omega))); (try (have i_t22 := Imp.go t22 (by omega))); (try (have i_hz105 := Imp.go hz105 (by omega))); omega)))), (Imp.mk (fun hp => have hp : (V106 0 8).toInt = 0 := hp; (show (V 0 7).toInt + 1 ≤ (V106 0 7).toInt from by first | omega | ((try (have i_hz105 := Imp.go hz105 (by omega))); (try (have i_t22 := Imp.go t22 (by omega))); (try (have i_x3 := Imp.go x3 (by omega))); (try (have i_x3 := Imp.go x3 (by omega))); (try (have i_t22 := Imp.go t22 (by omega))); (try (have i_hz105 := Imp.go hz105 (by omega))); omega))))⟩, by rw [ht]; exact hP, va_K.moved hW.alike hK, hD⟩, hS.F ht⟩) hS.2.2 dX12_takeWordOf_144
          · skip
            have f109 : ((V95 0 8)).toInt = 0 := b_eq rfl (by decide) c102
            exfalso; first | exact om_b02ddf2a5870 t94 f99 f109 | first | omega | ((try (have i_t22 := Imp.go t22 (by omega))); (try (have i_x3 := Imp.go x3 (by omega))); (try (have i_x3 := Imp.go x3 (by omega))); (try (have i_t22 := Imp.go t22 (by omega))); omega)
        · skip
          have f110 : ((V95 0 8)).toInt = 0 := b_eq rfl (by decide) c100
          exfalso; first | exact om_b02ddf2a5870 t94 f99 f110 | first | omega | ((try (have i_t22 := Imp.go t22 (by omega))); (try (have i_x3 := Imp.go x3 (by omega))); (try (have i_x3 := Imp.go x3 (by omega))); (try (have i_t22 := Imp.go t22 (by omega))); omega)
      · skip
        have f111 : ((V95 0 8)).toInt = 0 := b_eq rfl (by decide) c98
        exfalso; first | exact om_09885ab343b9 t94 f111 | first | omega | ((try (have i_t22 := Imp.go t22 (by omega))); (try (have i_x3 := Imp.go x3 (by omega))); (try (have i_x3 := Imp.go x3 (by omega))); (try (have i_t22 := Imp.go t22 (by omega))); omega)
end
section
theorem w2062 : Cond.code yX12_takeType cX12_takeType 1 (some .int) ∈ GW := gw_k tk9_8 227 (rfl) rfl
theorem w2059 : Cond.methodLink RX12 325 yX12_takeType ∈ GW := gw_k tk9_8 224 (by decide +kernel) rfl
theorem w2061 : Cond.instanceMethod yX12_takeType ∈ GW := gw_k tk9_8 226 (by decide +kernel) rfl
theorem w92 : Cond.selects RX12 yX12_takeType yX12_takeType ∈ GW := gw_mem 92 (by decide +kernel) rfl
theorem hdV_yX12_takeType : yX12_takeType.cls = RX12 ∧ yX12_takeType.cls ≠ "java/lang/invoke/MethodHandle" ∧ yX12_takeType.cls ≠ "java/lang/invoke/VarHandle" ∧ (parseMethodDescriptor yX12_takeType.desc).map (fun d => d.parameters.length) = some 0 := by decide +kernel
theorem w1759 : Cond.fieldLink RX12 149 "WiringHouseModel" "listed" "[I" ∈ GW := gw_k tk9_7 164 (by decide +kernel) rfl
theorem w1721 : Cond.fieldLink RX12 49 "WiringHouseModel" "typeIs" "[Z" ∈ GW := gw_k tk9_7 126 (by decide +kernel) rfl
theorem w2070 : Cond.code yX12_hasSign cX12_hasSign 3 (some .boolean) ∈ GW := gw_k tk9_8 235 (rfl) rfl
theorem w2067 : Cond.methodLink RX12 328 yX12_hasSign ∈ GW := gw_k tk9_8 232 (by decide +kernel) rfl
theorem w2069 : Cond.instanceMethod yX12_hasSign ∈ GW := gw_k tk9_8 234 (by decide +kernel) rfl
theorem w94 : Cond.selects RX12 yX12_hasSign yX12_hasSign ∈ GW := gw_mem 94 (by decide +kernel) rfl
theorem hdV_yX12_hasSign : yX12_hasSign.cls = RX12 ∧ yX12_hasSign.cls ≠ "java/lang/invoke/MethodHandle" ∧ yX12_hasSign.cls ≠ "java/lang/invoke/VarHandle" ∧ (parseMethodDescriptor yX12_hasSign.desc).map (fun d => d.parameters.length) = some 1 := by decide +kernel
theorem w2034 : Cond.code yX12_begins cX12_begins 2 none ∈ GW := gw_k tk9_8 199 (rfl) rfl
theorem w2031 : Cond.methodLink RX12 331 yX12_begins ∈ GW := gw_k tk9_8 196 (by decide +kernel) rfl
theorem w2033 : Cond.instanceMethod yX12_begins ∈ GW := gw_k tk9_8 198 (by decide +kernel) rfl
theorem w85 : Cond.selects RX12 yX12_begins yX12_begins ∈ GW := gw_mem 85 (by decide +kernel) rfl
theorem hdV_yX12_begins : yX12_begins.cls = RX12 ∧ yX12_begins.cls ≠ "java/lang/invoke/MethodHandle" ∧ yX12_begins.cls ≠ "java/lang/invoke/VarHandle" ∧ (parseMethodDescriptor yX12_begins.desc).map (fun d => d.parameters.length) = some 1 := by decide +kernel
theorem w2042 : Cond.code yX12_newName cX12_newName 1 (some .long) ∈ GW := gw_k tk9_8 207 (rfl) rfl
theorem w2039 : Cond.methodLink RX12 335 yX12_newName ∈ GW := gw_k tk9_8 204 (by decide +kernel) rfl
theorem w2041 : Cond.instanceMethod yX12_newName ∈ GW := gw_k tk9_8 206 (by decide +kernel) rfl
theorem w87 : Cond.selects RX12 yX12_newName yX12_newName ∈ GW := gw_mem 87 (by decide +kernel) rfl
theorem hdV_yX12_newName : yX12_newName.cls = RX12 ∧ yX12_newName.cls ≠ "java/lang/invoke/MethodHandle" ∧ yX12_newName.cls ≠ "java/lang/invoke/VarHandle" ∧ (parseMethodDescriptor yX12_newName.desc).map (fun d => d.parameters.length) = some 0 := by decide +kernel
theorem w2058 : Cond.code yX12_takeTypes cX12_takeTypes 7 none ∈ GW := gw_k tk9_8 223 (rfl) rfl
theorem w2055 : Cond.methodLink RX12 339 yX12_takeTypes ∈ GW := gw_k tk9_8 220 (by decide +kernel) rfl
theorem w2057 : Cond.instanceMethod yX12_takeTypes ∈ GW := gw_k tk9_8 222 (by decide +kernel) rfl
theorem w91 : Cond.selects RX12 yX12_takeTypes yX12_takeTypes ∈ GW := gw_mem 91 (by decide +kernel) rfl
theorem hdV_yX12_takeTypes : yX12_takeTypes.cls = RX12 ∧ yX12_takeTypes.cls ≠ "java/lang/invoke/MethodHandle" ∧ yX12_takeTypes.cls ≠ "java/lang/invoke/VarHandle" ∧ (parseMethodDescriptor yX12_takeTypes.desc).map (fun d => d.parameters.length) = some 2 := by decide +kernel
theorem w2078 : Cond.code yX12_takeSign cX12_takeSign 2 none ∈ GW := gw_k tk9_9 3 (rfl) rfl
theorem w2075 : Cond.methodLink RX12 343 yX12_takeSign ∈ GW := gw_k tk9_9 0 (by decide +kernel) rfl
theorem w2077 : Cond.instanceMethod yX12_takeSign ∈ GW := gw_k tk9_9 2 (by decide +kernel) rfl
theorem w96 : Cond.selects RX12 yX12_takeSign yX12_takeSign ∈ GW := gw_mem 96 (by decide +kernel) rfl
theorem hdV_yX12_takeSign : yX12_takeSign.cls = RX12 ∧ yX12_takeSign.cls ≠ "java/lang/invoke/MethodHandle" ∧ yX12_takeSign.cls ≠ "java/lang/invoke/VarHandle" ∧ (parseMethodDescriptor yX12_takeSign.desc).map (fun d => d.parameters.length) = some 1 := by decide +kernel
theorem w1724 : Cond.fieldLink RX12 59 "WiringHouseModel" "settingValue" "[I" ∈ GW := gw_k tk9_7 129 (by decide +kernel) rfl
theorem w2083 : Cond.constant RX12 346 999999999 ∈ GW := gw_k tk9_9 8 (by decide +kernel) rfl
theorem w2087 : Cond.code yX12_takeNumber cX12_takeNumber 3 (some .int) ∈ GW := gw_k tk9_9 12 (rfl) rfl
theorem w2084 : Cond.methodLink RX12 347 yX12_takeNumber ∈ GW := gw_k tk9_9 9 (by decide +kernel) rfl
theorem w2086 : Cond.instanceMethod yX12_takeNumber ∈ GW := gw_k tk9_9 11 (by decide +kernel) rfl
theorem w98 : Cond.selects RX12 yX12_takeNumber yX12_takeNumber ∈ GW := gw_mem 98 (by decide +kernel) rfl
theorem hdV_yX12_takeNumber : yX12_takeNumber.cls = RX12 ∧ yX12_takeNumber.cls ≠ "java/lang/invoke/MethodHandle" ∧ yX12_takeNumber.cls ≠ "java/lang/invoke/VarHandle" ∧ (parseMethodDescriptor yX12_takeNumber.desc).map (fun d => d.parameters.length) = some 2 := by decide +kernel
theorem w1751 : Cond.fieldLink RX12 140 "WiringHouseModel" "op" "[I" ∈ GW := gw_k tk9_7 156 (by decide +kernel) rfl
theorem w1755 : Cond.fieldLink RX12 295 "WiringHouseModel" "codesFrom" "I" ∈ GW := gw_k tk9_7 160 (by decide +kernel) rfl
theorem w1754 : Cond.fieldLink RX12 292 "WiringHouseModel" "codes" "I" ∈ GW := gw_k tk9_7 159 (by decide +kernel) rfl
theorem w1752 : Cond.fieldLink RX12 143 "WiringHouseModel" "one" "[I" ∈ GW := gw_k tk9_7 157 (by decide +kernel) rfl
theorem w1753 : Cond.fieldLink RX12 146 "WiringHouseModel" "two" "[I" ∈ GW := gw_k tk9_7 158 (by decide +kernel) rfl
theorem dk9_dX12_takeTypes_0_0 : dOk cX12_takeTypes [(0, .iconst 0, 1), (1, .istore_n 3, 1), (2, .iconst 1, 1), (3, .istore 4, 2), (5, .iload 4, 2), (7, .ifCond .eq 188, 3), (195, .return_, 1), (10, .aload_n 0, 1), (11, .getfield 267, 3), (14, .ifCond .ne 181, 3), (17, .aload_n 0, 1), (18, .invokevirtual 325, 3), (21, .istore 5, 2), (23, .aload_n 0, 1), (24, .dup, 1), (25, .getfield 264, 3), (28, .iconst 1, 1), (29, .isub, 1), (30, .putfield 264, 3), (33, .iconst 0, 1), (34, .istore 6, 2), (36, .iload 6, 2), (38, .iload_n 3, 1), (39, .if_icmp .ge 33, 3)] = true ∧ dOk cX12_takeTypes [(42, .aload_n 0, 1), (43, .getfield 267, 3), (46, .ifCond .ne 26, 3), (49, .aload_n 0, 1), (50, .getfield 149, 3), (53, .iload 6, 2), (55, .iaload, 1), (56, .iload 5, 2), (58, .if_icmp .ne 8, 3), (66, .iinc 6 1, 3), (69, .goto (-33), 3), (61, .aload_n 0, 1), (62, .iconst 3, 1), (63, .invokevirtual 273, 3), (72, .aload_n 0, 1), (73, .getfield 267, 3), (76, .ifCond .ne 14, 3), (79, .iload_n 3, 1), (80, .bipush 6, 2), (82, .if_icmp .ne 8, 3), (85, .aload_n 0, 1), (86, .iconst 5, 1), (87, .invokevirtual 273, 3), (90, .aload_n 0, 1)] = true ∧ dOk cX12_takeTypes [(91, .dup, 1), (92, .getfield 264, 3), (95, .iconst 1, 1), (96, .iadd, 1), (97, .putfield 264, 3), (100, .aload_n 0, 1), (101, .getfield 267, 3), (104, .ifCond .ne 80, 3), (107, .aload_n 0, 1), (108, .getfield 149, 3), (111, .iload_n 3, 1), (112, .iload 5, 2), (114, .iastore, 1), (115, .iinc 3 1, 3), (118, .iconst 0, 1), (119, .istore 6, 2), (121, .iload 6, 2), (123, .bipush 24, 2), (125, .if_icmp .ge 59, 3), (128, .aload_n 1, 1), (129, .bipush 24, 2), (131, .iload_n 2, 1), (132, .imul, 1), (133, .iload 6, 2)] = true ∧ dOk cX12_takeTypes [(135, .iadd, 1), (136, .aload_n 1, 1), (137, .bipush 24, 2), (139, .iload_n 2, 1), (140, .imul, 1), (141, .iload 6, 2), (143, .iadd, 1), (144, .baload, 1), (145, .ifCond .ne 27, 3), (172, .iconst 1, 1), (173, .goto 4, 3), (177, .bastore, 1), (178, .iinc 6 1, 3), (181, .goto (-60), 3), (148, .aload_n 0, 1), (149, .getfield 49, 3), (152, .bipush 24, 2), (154, .bipush 24, 2), (156, .aload_n 0, 1), (157, .getfield 289, 3), (160, .imul, 1), (161, .iload 5, 2), (163, .iadd, 1), (164, .imul, 1)] = true ∧ dOk cX12_takeTypes [(165, .iload 6, 2), (167, .iadd, 1), (168, .baload, 1), (169, .ifCond .eq 7, 3), (176, .iconst 0, 1), (184, .aload_n 0, 1), (185, .bipush 44, 2), (187, .invokevirtual 328, 3), (190, .istore 4, 2), (192, .goto (-187), 3)] = true := by decide +kernel
theorem dX12_takeTypes_0 : decode cX12_takeTypes 0 = .ok (.iconst 0, 1) := dr9 dk9_dX12_takeTypes_0_0.1 0 (0, .iconst 0, 1) rfl
theorem dX12_takeTypes_1 : decode cX12_takeTypes 1 = .ok (.istore_n 3, 1) := dr9 dk9_dX12_takeTypes_0_0.1 1 (1, .istore_n 3, 1) rfl
theorem dX12_takeTypes_2 : decode cX12_takeTypes 2 = .ok (.iconst 1, 1) := dr9 dk9_dX12_takeTypes_0_0.1 2 (2, .iconst 1, 1) rfl
theorem dX12_takeTypes_3 : decode cX12_takeTypes 3 = .ok (.istore 4, 2) := dr9 dk9_dX12_takeTypes_0_0.1 3 (3, .istore 4, 2) rfl
theorem dX12_takeTypes_5 : decode cX12_takeTypes 5 = .ok (.iload 4, 2) := dr9 dk9_dX12_takeTypes_0_0.1 4 (5, .iload 4, 2) rfl
theorem dX12_takeTypes_7 : decode cX12_takeTypes 7 = .ok (.ifCond .eq 188, 3) := dr9 dk9_dX12_takeTypes_0_0.1 5 (7, .ifCond .eq 188, 3) rfl
theorem dX12_takeTypes_195 : decode cX12_takeTypes 195 = .ok (.return_, 1) := dr9 dk9_dX12_takeTypes_0_0.1 6 (195, .return_, 1) rfl
theorem dX12_takeTypes_10 : decode cX12_takeTypes 10 = .ok (.aload_n 0, 1) := dr9 dk9_dX12_takeTypes_0_0.1 7 (10, .aload_n 0, 1) rfl
theorem dX12_takeTypes_11 : decode cX12_takeTypes 11 = .ok (.getfield 267, 3) := dr9 dk9_dX12_takeTypes_0_0.1 8 (11, .getfield 267, 3) rfl
theorem dX12_takeTypes_14 : decode cX12_takeTypes 14 = .ok (.ifCond .ne 181, 3) := dr9 dk9_dX12_takeTypes_0_0.1 9 (14, .ifCond .ne 181, 3) rfl
theorem dX12_takeTypes_17 : decode cX12_takeTypes 17 = .ok (.aload_n 0, 1) := dr9 dk9_dX12_takeTypes_0_0.1 10 (17, .aload_n 0, 1) rfl
theorem dX12_takeTypes_18 : decode cX12_takeTypes 18 = .ok (.invokevirtual 325, 3) := dr9 dk9_dX12_takeTypes_0_0.1 11 (18, .invokevirtual 325, 3) rfl
theorem dX12_takeTypes_21 : decode cX12_takeTypes 21 = .ok (.istore 5, 2) := dr9 dk9_dX12_takeTypes_0_0.1 12 (21, .istore 5, 2) rfl
theorem dX12_takeTypes_23 : decode cX12_takeTypes 23 = .ok (.aload_n 0, 1) := dr9 dk9_dX12_takeTypes_0_0.1 13 (23, .aload_n 0, 1) rfl
theorem dX12_takeTypes_24 : decode cX12_takeTypes 24 = .ok (.dup, 1) := dr9 dk9_dX12_takeTypes_0_0.1 14 (24, .dup, 1) rfl
theorem dX12_takeTypes_25 : decode cX12_takeTypes 25 = .ok (.getfield 264, 3) := dr9 dk9_dX12_takeTypes_0_0.1 15 (25, .getfield 264, 3) rfl
theorem dX12_takeTypes_28 : decode cX12_takeTypes 28 = .ok (.iconst 1, 1) := dr9 dk9_dX12_takeTypes_0_0.1 16 (28, .iconst 1, 1) rfl
theorem dX12_takeTypes_29 : decode cX12_takeTypes 29 = .ok (.isub, 1) := dr9 dk9_dX12_takeTypes_0_0.1 17 (29, .isub, 1) rfl
theorem dX12_takeTypes_30 : decode cX12_takeTypes 30 = .ok (.putfield 264, 3) := dr9 dk9_dX12_takeTypes_0_0.1 18 (30, .putfield 264, 3) rfl
theorem dX12_takeTypes_33 : decode cX12_takeTypes 33 = .ok (.iconst 0, 1) := dr9 dk9_dX12_takeTypes_0_0.1 19 (33, .iconst 0, 1) rfl
theorem dX12_takeTypes_34 : decode cX12_takeTypes 34 = .ok (.istore 6, 2) := dr9 dk9_dX12_takeTypes_0_0.1 20 (34, .istore 6, 2) rfl
theorem dX12_takeTypes_36 : decode cX12_takeTypes 36 = .ok (.iload 6, 2) := dr9 dk9_dX12_takeTypes_0_0.1 21 (36, .iload 6, 2) rfl
theorem dX12_takeTypes_38 : decode cX12_takeTypes 38 = .ok (.iload_n 3, 1) := dr9 dk9_dX12_takeTypes_0_0.1 22 (38, .iload_n 3, 1) rfl
theorem dX12_takeTypes_39 : decode cX12_takeTypes 39 = .ok (.if_icmp .ge 33, 3) := dr9 dk9_dX12_takeTypes_0_0.1 23 (39, .if_icmp .ge 33, 3) rfl
theorem dX12_takeTypes_42 : decode cX12_takeTypes 42 = .ok (.aload_n 0, 1) := dr9 dk9_dX12_takeTypes_0_0.2.1 0 (42, .aload_n 0, 1) rfl
theorem dX12_takeTypes_43 : decode cX12_takeTypes 43 = .ok (.getfield 267, 3) := dr9 dk9_dX12_takeTypes_0_0.2.1 1 (43, .getfield 267, 3) rfl
theorem dX12_takeTypes_46 : decode cX12_takeTypes 46 = .ok (.ifCond .ne 26, 3) := dr9 dk9_dX12_takeTypes_0_0.2.1 2 (46, .ifCond .ne 26, 3) rfl
theorem dX12_takeTypes_49 : decode cX12_takeTypes 49 = .ok (.aload_n 0, 1) := dr9 dk9_dX12_takeTypes_0_0.2.1 3 (49, .aload_n 0, 1) rfl
theorem dX12_takeTypes_50 : decode cX12_takeTypes 50 = .ok (.getfield 149, 3) := dr9 dk9_dX12_takeTypes_0_0.2.1 4 (50, .getfield 149, 3) rfl
theorem dX12_takeTypes_53 : decode cX12_takeTypes 53 = .ok (.iload 6, 2) := dr9 dk9_dX12_takeTypes_0_0.2.1 5 (53, .iload 6, 2) rfl
theorem dX12_takeTypes_55 : decode cX12_takeTypes 55 = .ok (.iaload, 1) := dr9 dk9_dX12_takeTypes_0_0.2.1 6 (55, .iaload, 1) rfl
theorem dX12_takeTypes_56 : decode cX12_takeTypes 56 = .ok (.iload 5, 2) := dr9 dk9_dX12_takeTypes_0_0.2.1 7 (56, .iload 5, 2) rfl
theorem dX12_takeTypes_58 : decode cX12_takeTypes 58 = .ok (.if_icmp .ne 8, 3) := dr9 dk9_dX12_takeTypes_0_0.2.1 8 (58, .if_icmp .ne 8, 3) rfl
theorem dX12_takeTypes_66 : decode cX12_takeTypes 66 = .ok (.iinc 6 1, 3) := dr9 dk9_dX12_takeTypes_0_0.2.1 9 (66, .iinc 6 1, 3) rfl
theorem dX12_takeTypes_69 : decode cX12_takeTypes 69 = .ok (.goto (-33), 3) := dr9 dk9_dX12_takeTypes_0_0.2.1 10 (69, .goto (-33), 3) rfl
theorem dX12_takeTypes_61 : decode cX12_takeTypes 61 = .ok (.aload_n 0, 1) := dr9 dk9_dX12_takeTypes_0_0.2.1 11 (61, .aload_n 0, 1) rfl
theorem dX12_takeTypes_62 : decode cX12_takeTypes 62 = .ok (.iconst 3, 1) := dr9 dk9_dX12_takeTypes_0_0.2.1 12 (62, .iconst 3, 1) rfl
theorem dX12_takeTypes_63 : decode cX12_takeTypes 63 = .ok (.invokevirtual 273, 3) := dr9 dk9_dX12_takeTypes_0_0.2.1 13 (63, .invokevirtual 273, 3) rfl
theorem dX12_takeTypes_72 : decode cX12_takeTypes 72 = .ok (.aload_n 0, 1) := dr9 dk9_dX12_takeTypes_0_0.2.1 14 (72, .aload_n 0, 1) rfl
theorem dX12_takeTypes_73 : decode cX12_takeTypes 73 = .ok (.getfield 267, 3) := dr9 dk9_dX12_takeTypes_0_0.2.1 15 (73, .getfield 267, 3) rfl
theorem dX12_takeTypes_76 : decode cX12_takeTypes 76 = .ok (.ifCond .ne 14, 3) := dr9 dk9_dX12_takeTypes_0_0.2.1 16 (76, .ifCond .ne 14, 3) rfl
theorem dX12_takeTypes_79 : decode cX12_takeTypes 79 = .ok (.iload_n 3, 1) := dr9 dk9_dX12_takeTypes_0_0.2.1 17 (79, .iload_n 3, 1) rfl
theorem dX12_takeTypes_80 : decode cX12_takeTypes 80 = .ok (.bipush 6, 2) := dr9 dk9_dX12_takeTypes_0_0.2.1 18 (80, .bipush 6, 2) rfl
theorem dX12_takeTypes_82 : decode cX12_takeTypes 82 = .ok (.if_icmp .ne 8, 3) := dr9 dk9_dX12_takeTypes_0_0.2.1 19 (82, .if_icmp .ne 8, 3) rfl
theorem dX12_takeTypes_85 : decode cX12_takeTypes 85 = .ok (.aload_n 0, 1) := dr9 dk9_dX12_takeTypes_0_0.2.1 20 (85, .aload_n 0, 1) rfl
theorem dX12_takeTypes_86 : decode cX12_takeTypes 86 = .ok (.iconst 5, 1) := dr9 dk9_dX12_takeTypes_0_0.2.1 21 (86, .iconst 5, 1) rfl
theorem dX12_takeTypes_87 : decode cX12_takeTypes 87 = .ok (.invokevirtual 273, 3) := dr9 dk9_dX12_takeTypes_0_0.2.1 22 (87, .invokevirtual 273, 3) rfl
theorem dX12_takeTypes_90 : decode cX12_takeTypes 90 = .ok (.aload_n 0, 1) := dr9 dk9_dX12_takeTypes_0_0.2.1 23 (90, .aload_n 0, 1) rfl
theorem dX12_takeTypes_91 : decode cX12_takeTypes 91 = .ok (.dup, 1) := dr9 dk9_dX12_takeTypes_0_0.2.2.1 0 (91, .dup, 1) rfl
theorem dX12_takeTypes_92 : decode cX12_takeTypes 92 = .ok (.getfield 264, 3) := dr9 dk9_dX12_takeTypes_0_0.2.2.1 1 (92, .getfield 264, 3) rfl
theorem dX12_takeTypes_95 : decode cX12_takeTypes 95 = .ok (.iconst 1, 1) := dr9 dk9_dX12_takeTypes_0_0.2.2.1 2 (95, .iconst 1, 1) rfl
theorem dX12_takeTypes_96 : decode cX12_takeTypes 96 = .ok (.iadd, 1) := dr9 dk9_dX12_takeTypes_0_0.2.2.1 3 (96, .iadd, 1) rfl
theorem dX12_takeTypes_97 : decode cX12_takeTypes 97 = .ok (.putfield 264, 3) := dr9 dk9_dX12_takeTypes_0_0.2.2.1 4 (97, .putfield 264, 3) rfl
theorem dX12_takeTypes_100 : decode cX12_takeTypes 100 = .ok (.aload_n 0, 1) := dr9 dk9_dX12_takeTypes_0_0.2.2.1 5 (100, .aload_n 0, 1) rfl
theorem dX12_takeTypes_101 : decode cX12_takeTypes 101 = .ok (.getfield 267, 3) := dr9 dk9_dX12_takeTypes_0_0.2.2.1 6 (101, .getfield 267, 3) rfl
theorem dX12_takeTypes_104 : decode cX12_takeTypes 104 = .ok (.ifCond .ne 80, 3) := dr9 dk9_dX12_takeTypes_0_0.2.2.1 7 (104, .ifCond .ne 80, 3) rfl
theorem dX12_takeTypes_107 : decode cX12_takeTypes 107 = .ok (.aload_n 0, 1) := dr9 dk9_dX12_takeTypes_0_0.2.2.1 8 (107, .aload_n 0, 1) rfl
theorem dX12_takeTypes_108 : decode cX12_takeTypes 108 = .ok (.getfield 149, 3) := dr9 dk9_dX12_takeTypes_0_0.2.2.1 9 (108, .getfield 149, 3) rfl
theorem dX12_takeTypes_111 : decode cX12_takeTypes 111 = .ok (.iload_n 3, 1) := dr9 dk9_dX12_takeTypes_0_0.2.2.1 10 (111, .iload_n 3, 1) rfl
theorem dX12_takeTypes_112 : decode cX12_takeTypes 112 = .ok (.iload 5, 2) := dr9 dk9_dX12_takeTypes_0_0.2.2.1 11 (112, .iload 5, 2) rfl
theorem dX12_takeTypes_114 : decode cX12_takeTypes 114 = .ok (.iastore, 1) := dr9 dk9_dX12_takeTypes_0_0.2.2.1 12 (114, .iastore, 1) rfl
theorem dX12_takeTypes_115 : decode cX12_takeTypes 115 = .ok (.iinc 3 1, 3) := dr9 dk9_dX12_takeTypes_0_0.2.2.1 13 (115, .iinc 3 1, 3) rfl
theorem dX12_takeTypes_118 : decode cX12_takeTypes 118 = .ok (.iconst 0, 1) := dr9 dk9_dX12_takeTypes_0_0.2.2.1 14 (118, .iconst 0, 1) rfl
theorem dX12_takeTypes_119 : decode cX12_takeTypes 119 = .ok (.istore 6, 2) := dr9 dk9_dX12_takeTypes_0_0.2.2.1 15 (119, .istore 6, 2) rfl
theorem dX12_takeTypes_121 : decode cX12_takeTypes 121 = .ok (.iload 6, 2) := dr9 dk9_dX12_takeTypes_0_0.2.2.1 16 (121, .iload 6, 2) rfl
theorem dX12_takeTypes_123 : decode cX12_takeTypes 123 = .ok (.bipush 24, 2) := dr9 dk9_dX12_takeTypes_0_0.2.2.1 17 (123, .bipush 24, 2) rfl
theorem dX12_takeTypes_125 : decode cX12_takeTypes 125 = .ok (.if_icmp .ge 59, 3) := dr9 dk9_dX12_takeTypes_0_0.2.2.1 18 (125, .if_icmp .ge 59, 3) rfl
theorem dX12_takeTypes_128 : decode cX12_takeTypes 128 = .ok (.aload_n 1, 1) := dr9 dk9_dX12_takeTypes_0_0.2.2.1 19 (128, .aload_n 1, 1) rfl
theorem dX12_takeTypes_129 : decode cX12_takeTypes 129 = .ok (.bipush 24, 2) := dr9 dk9_dX12_takeTypes_0_0.2.2.1 20 (129, .bipush 24, 2) rfl
theorem dX12_takeTypes_131 : decode cX12_takeTypes 131 = .ok (.iload_n 2, 1) := dr9 dk9_dX12_takeTypes_0_0.2.2.1 21 (131, .iload_n 2, 1) rfl
theorem dX12_takeTypes_132 : decode cX12_takeTypes 132 = .ok (.imul, 1) := dr9 dk9_dX12_takeTypes_0_0.2.2.1 22 (132, .imul, 1) rfl
theorem dX12_takeTypes_133 : decode cX12_takeTypes 133 = .ok (.iload 6, 2) := dr9 dk9_dX12_takeTypes_0_0.2.2.1 23 (133, .iload 6, 2) rfl
theorem dX12_takeTypes_135 : decode cX12_takeTypes 135 = .ok (.iadd, 1) := dr9 dk9_dX12_takeTypes_0_0.2.2.2.1 0 (135, .iadd, 1) rfl
theorem dX12_takeTypes_136 : decode cX12_takeTypes 136 = .ok (.aload_n 1, 1) := dr9 dk9_dX12_takeTypes_0_0.2.2.2.1 1 (136, .aload_n 1, 1) rfl
theorem dX12_takeTypes_137 : decode cX12_takeTypes 137 = .ok (.bipush 24, 2) := dr9 dk9_dX12_takeTypes_0_0.2.2.2.1 2 (137, .bipush 24, 2) rfl
theorem dX12_takeTypes_139 : decode cX12_takeTypes 139 = .ok (.iload_n 2, 1) := dr9 dk9_dX12_takeTypes_0_0.2.2.2.1 3 (139, .iload_n 2, 1) rfl
theorem dX12_takeTypes_140 : decode cX12_takeTypes 140 = .ok (.imul, 1) := dr9 dk9_dX12_takeTypes_0_0.2.2.2.1 4 (140, .imul, 1) rfl
theorem dX12_takeTypes_141 : decode cX12_takeTypes 141 = .ok (.iload 6, 2) := dr9 dk9_dX12_takeTypes_0_0.2.2.2.1 5 (141, .iload 6, 2) rfl
theorem dX12_takeTypes_143 : decode cX12_takeTypes 143 = .ok (.iadd, 1) := dr9 dk9_dX12_takeTypes_0_0.2.2.2.1 6 (143, .iadd, 1) rfl
theorem dX12_takeTypes_144 : decode cX12_takeTypes 144 = .ok (.baload, 1) := dr9 dk9_dX12_takeTypes_0_0.2.2.2.1 7 (144, .baload, 1) rfl
theorem dX12_takeTypes_145 : decode cX12_takeTypes 145 = .ok (.ifCond .ne 27, 3) := dr9 dk9_dX12_takeTypes_0_0.2.2.2.1 8 (145, .ifCond .ne 27, 3) rfl
theorem dX12_takeTypes_172 : decode cX12_takeTypes 172 = .ok (.iconst 1, 1) := dr9 dk9_dX12_takeTypes_0_0.2.2.2.1 9 (172, .iconst 1, 1) rfl
theorem dX12_takeTypes_173 : decode cX12_takeTypes 173 = .ok (.goto 4, 3) := dr9 dk9_dX12_takeTypes_0_0.2.2.2.1 10 (173, .goto 4, 3) rfl
theorem dX12_takeTypes_177 : decode cX12_takeTypes 177 = .ok (.bastore, 1) := dr9 dk9_dX12_takeTypes_0_0.2.2.2.1 11 (177, .bastore, 1) rfl
theorem dX12_takeTypes_178 : decode cX12_takeTypes 178 = .ok (.iinc 6 1, 3) := dr9 dk9_dX12_takeTypes_0_0.2.2.2.1 12 (178, .iinc 6 1, 3) rfl
theorem dX12_takeTypes_181 : decode cX12_takeTypes 181 = .ok (.goto (-60), 3) := dr9 dk9_dX12_takeTypes_0_0.2.2.2.1 13 (181, .goto (-60), 3) rfl
theorem dX12_takeTypes_148 : decode cX12_takeTypes 148 = .ok (.aload_n 0, 1) := dr9 dk9_dX12_takeTypes_0_0.2.2.2.1 14 (148, .aload_n 0, 1) rfl
theorem dX12_takeTypes_149 : decode cX12_takeTypes 149 = .ok (.getfield 49, 3) := dr9 dk9_dX12_takeTypes_0_0.2.2.2.1 15 (149, .getfield 49, 3) rfl
theorem dX12_takeTypes_152 : decode cX12_takeTypes 152 = .ok (.bipush 24, 2) := dr9 dk9_dX12_takeTypes_0_0.2.2.2.1 16 (152, .bipush 24, 2) rfl
theorem dX12_takeTypes_154 : decode cX12_takeTypes 154 = .ok (.bipush 24, 2) := dr9 dk9_dX12_takeTypes_0_0.2.2.2.1 17 (154, .bipush 24, 2) rfl
theorem dX12_takeTypes_156 : decode cX12_takeTypes 156 = .ok (.aload_n 0, 1) := dr9 dk9_dX12_takeTypes_0_0.2.2.2.1 18 (156, .aload_n 0, 1) rfl
theorem dX12_takeTypes_157 : decode cX12_takeTypes 157 = .ok (.getfield 289, 3) := dr9 dk9_dX12_takeTypes_0_0.2.2.2.1 19 (157, .getfield 289, 3) rfl
theorem dX12_takeTypes_160 : decode cX12_takeTypes 160 = .ok (.imul, 1) := dr9 dk9_dX12_takeTypes_0_0.2.2.2.1 20 (160, .imul, 1) rfl
theorem dX12_takeTypes_161 : decode cX12_takeTypes 161 = .ok (.iload 5, 2) := dr9 dk9_dX12_takeTypes_0_0.2.2.2.1 21 (161, .iload 5, 2) rfl
theorem dX12_takeTypes_163 : decode cX12_takeTypes 163 = .ok (.iadd, 1) := dr9 dk9_dX12_takeTypes_0_0.2.2.2.1 22 (163, .iadd, 1) rfl
theorem dX12_takeTypes_164 : decode cX12_takeTypes 164 = .ok (.imul, 1) := dr9 dk9_dX12_takeTypes_0_0.2.2.2.1 23 (164, .imul, 1) rfl
theorem dX12_takeTypes_165 : decode cX12_takeTypes 165 = .ok (.iload 6, 2) := dr9 dk9_dX12_takeTypes_0_0.2.2.2.2 0 (165, .iload 6, 2) rfl
theorem dX12_takeTypes_167 : decode cX12_takeTypes 167 = .ok (.iadd, 1) := dr9 dk9_dX12_takeTypes_0_0.2.2.2.2 1 (167, .iadd, 1) rfl
theorem dX12_takeTypes_168 : decode cX12_takeTypes 168 = .ok (.baload, 1) := dr9 dk9_dX12_takeTypes_0_0.2.2.2.2 2 (168, .baload, 1) rfl
theorem dX12_takeTypes_169 : decode cX12_takeTypes 169 = .ok (.ifCond .eq 7, 3) := dr9 dk9_dX12_takeTypes_0_0.2.2.2.2 3 (169, .ifCond .eq 7, 3) rfl
theorem dX12_takeTypes_176 : decode cX12_takeTypes 176 = .ok (.iconst 0, 1) := dr9 dk9_dX12_takeTypes_0_0.2.2.2.2 4 (176, .iconst 0, 1) rfl
theorem dX12_takeTypes_184 : decode cX12_takeTypes 184 = .ok (.aload_n 0, 1) := dr9 dk9_dX12_takeTypes_0_0.2.2.2.2 5 (184, .aload_n 0, 1) rfl
theorem dX12_takeTypes_185 : decode cX12_takeTypes 185 = .ok (.bipush 44, 2) := dr9 dk9_dX12_takeTypes_0_0.2.2.2.2 6 (185, .bipush 44, 2) rfl
theorem dX12_takeTypes_187 : decode cX12_takeTypes 187 = .ok (.invokevirtual 328, 3) := dr9 dk9_dX12_takeTypes_0_0.2.2.2.2 7 (187, .invokevirtual 328, 3) rfl
theorem dX12_takeTypes_190 : decode cX12_takeTypes 190 = .ok (.istore 4, 2) := dr9 dk9_dX12_takeTypes_0_0.2.2.2.2 8 (190, .istore 4, 2) rfl
theorem dX12_takeTypes_192 : decode cX12_takeTypes 192 = .ok (.goto (-187), 3) := dr9 dk9_dX12_takeTypes_0_0.2.2.2.2 9 (192, .goto (-187), 3) rfl
theorem dk9_dX12_toldType_0_0 : dOk cX12_toldType [(0, .bipush 24, 2), (2, .aload_n 0, 1), (3, .getfield 289, 3), (6, .imul, 1), (7, .aload_n 0, 1), (8, .getfield 43, 3), (11, .aload_n 0, 1), (12, .getfield 289, 3), (15, .iaload, 1), (16, .iadd, 1), (17, .istore_n 1, 1), (18, .aload_n 0, 1), (19, .aload_n 0, 1), (20, .getfield 43, 3), (23, .aload_n 0, 1), (24, .getfield 289, 3), (27, .iaload, 1), (28, .bipush 24, 2), (30, .if_icmp .ne 7, 3), (37, .iconst 0, 1), (38, .invokevirtual 331, 3), (41, .aload_n 0, 1), (42, .getfield 267, 3), (45, .ifCond .le 4, 3)] = true ∧ dOk cX12_toldType [(49, .aload_n 0, 1), (50, .invokevirtual 335, 3), (53, .lstore_n 2, 1), (54, .iconst 0, 1), (55, .istore 4, 2), (57, .iload 4, 2), (59, .bipush 24, 2), (61, .if_icmp .ge 40, 3), (64, .aload_n 0, 1), (65, .getfield 49, 3), (68, .bipush 24, 2), (70, .iload_n 1, 1), (71, .imul, 1), (72, .iload 4, 2), (74, .iadd, 1), (75, .iload 4, 2), (77, .aload_n 0, 1), (78, .getfield 43, 3), (81, .aload_n 0, 1), (82, .getfield 289, 3), (85, .iaload, 1), (86, .if_icmp .ne 7, 3), (93, .iconst 0, 1), (94, .bastore, 1)] = true ∧ dOk cX12_toldType [(95, .iinc 4 1, 3), (98, .goto (-41), 3), (89, .iconst 1, 1), (90, .goto 4, 3), (101, .aload_n 0, 1), (102, .iconst 1, 1), (103, .invokevirtual 280, 3), (106, .ifCond .eq 12, 3), (109, .aload_n 0, 1), (110, .aload_n 0, 1), (111, .getfield 49, 3), (114, .iload_n 1, 1), (115, .invokevirtual 339, 3), (118, .aload_n 0, 1), (119, .bipush 59, 2), (121, .invokevirtual 343, 3), (124, .aload_n 0, 1), (125, .getfield 46, 3), (128, .iload_n 1, 1), (129, .lload_n 2, 1), (130, .lastore, 1), (131, .aload_n 0, 1), (132, .getfield 43, 3), (135, .aload_n 0, 1)] = true ∧ dOk cX12_toldType [(136, .getfield 289, 3), (139, .dup2, 1), (140, .iaload, 1), (141, .iconst 1, 1), (142, .iadd, 1), (143, .iastore, 1), (144, .return_, 1), (48, .return_, 1), (33, .iconst 1, 1), (34, .goto 4, 3)] = true := by decide +kernel
theorem dX12_toldType_0 : decode cX12_toldType 0 = .ok (.bipush 24, 2) := dr9 dk9_dX12_toldType_0_0.1 0 (0, .bipush 24, 2) rfl
theorem dX12_toldType_2 : decode cX12_toldType 2 = .ok (.aload_n 0, 1) := dr9 dk9_dX12_toldType_0_0.1 1 (2, .aload_n 0, 1) rfl
theorem dX12_toldType_3 : decode cX12_toldType 3 = .ok (.getfield 289, 3) := dr9 dk9_dX12_toldType_0_0.1 2 (3, .getfield 289, 3) rfl
theorem dX12_toldType_6 : decode cX12_toldType 6 = .ok (.imul, 1) := dr9 dk9_dX12_toldType_0_0.1 3 (6, .imul, 1) rfl
theorem dX12_toldType_7 : decode cX12_toldType 7 = .ok (.aload_n 0, 1) := dr9 dk9_dX12_toldType_0_0.1 4 (7, .aload_n 0, 1) rfl
theorem dX12_toldType_8 : decode cX12_toldType 8 = .ok (.getfield 43, 3) := dr9 dk9_dX12_toldType_0_0.1 5 (8, .getfield 43, 3) rfl
theorem dX12_toldType_11 : decode cX12_toldType 11 = .ok (.aload_n 0, 1) := dr9 dk9_dX12_toldType_0_0.1 6 (11, .aload_n 0, 1) rfl
theorem dX12_toldType_12 : decode cX12_toldType 12 = .ok (.getfield 289, 3) := dr9 dk9_dX12_toldType_0_0.1 7 (12, .getfield 289, 3) rfl
theorem dX12_toldType_15 : decode cX12_toldType 15 = .ok (.iaload, 1) := dr9 dk9_dX12_toldType_0_0.1 8 (15, .iaload, 1) rfl
theorem dX12_toldType_16 : decode cX12_toldType 16 = .ok (.iadd, 1) := dr9 dk9_dX12_toldType_0_0.1 9 (16, .iadd, 1) rfl
theorem dX12_toldType_17 : decode cX12_toldType 17 = .ok (.istore_n 1, 1) := dr9 dk9_dX12_toldType_0_0.1 10 (17, .istore_n 1, 1) rfl
theorem dX12_toldType_18 : decode cX12_toldType 18 = .ok (.aload_n 0, 1) := dr9 dk9_dX12_toldType_0_0.1 11 (18, .aload_n 0, 1) rfl
theorem dX12_toldType_19 : decode cX12_toldType 19 = .ok (.aload_n 0, 1) := dr9 dk9_dX12_toldType_0_0.1 12 (19, .aload_n 0, 1) rfl
theorem dX12_toldType_20 : decode cX12_toldType 20 = .ok (.getfield 43, 3) := dr9 dk9_dX12_toldType_0_0.1 13 (20, .getfield 43, 3) rfl
theorem dX12_toldType_23 : decode cX12_toldType 23 = .ok (.aload_n 0, 1) := dr9 dk9_dX12_toldType_0_0.1 14 (23, .aload_n 0, 1) rfl
theorem dX12_toldType_24 : decode cX12_toldType 24 = .ok (.getfield 289, 3) := dr9 dk9_dX12_toldType_0_0.1 15 (24, .getfield 289, 3) rfl
theorem dX12_toldType_27 : decode cX12_toldType 27 = .ok (.iaload, 1) := dr9 dk9_dX12_toldType_0_0.1 16 (27, .iaload, 1) rfl
theorem dX12_toldType_28 : decode cX12_toldType 28 = .ok (.bipush 24, 2) := dr9 dk9_dX12_toldType_0_0.1 17 (28, .bipush 24, 2) rfl
theorem dX12_toldType_30 : decode cX12_toldType 30 = .ok (.if_icmp .ne 7, 3) := dr9 dk9_dX12_toldType_0_0.1 18 (30, .if_icmp .ne 7, 3) rfl
theorem dX12_toldType_37 : decode cX12_toldType 37 = .ok (.iconst 0, 1) := dr9 dk9_dX12_toldType_0_0.1 19 (37, .iconst 0, 1) rfl
theorem dX12_toldType_38 : decode cX12_toldType 38 = .ok (.invokevirtual 331, 3) := dr9 dk9_dX12_toldType_0_0.1 20 (38, .invokevirtual 331, 3) rfl
theorem dX12_toldType_41 : decode cX12_toldType 41 = .ok (.aload_n 0, 1) := dr9 dk9_dX12_toldType_0_0.1 21 (41, .aload_n 0, 1) rfl
theorem dX12_toldType_42 : decode cX12_toldType 42 = .ok (.getfield 267, 3) := dr9 dk9_dX12_toldType_0_0.1 22 (42, .getfield 267, 3) rfl
theorem dX12_toldType_45 : decode cX12_toldType 45 = .ok (.ifCond .le 4, 3) := dr9 dk9_dX12_toldType_0_0.1 23 (45, .ifCond .le 4, 3) rfl
theorem dX12_toldType_49 : decode cX12_toldType 49 = .ok (.aload_n 0, 1) := dr9 dk9_dX12_toldType_0_0.2.1 0 (49, .aload_n 0, 1) rfl
theorem dX12_toldType_50 : decode cX12_toldType 50 = .ok (.invokevirtual 335, 3) := dr9 dk9_dX12_toldType_0_0.2.1 1 (50, .invokevirtual 335, 3) rfl
theorem dX12_toldType_53 : decode cX12_toldType 53 = .ok (.lstore_n 2, 1) := dr9 dk9_dX12_toldType_0_0.2.1 2 (53, .lstore_n 2, 1) rfl
theorem dX12_toldType_54 : decode cX12_toldType 54 = .ok (.iconst 0, 1) := dr9 dk9_dX12_toldType_0_0.2.1 3 (54, .iconst 0, 1) rfl
theorem dX12_toldType_55 : decode cX12_toldType 55 = .ok (.istore 4, 2) := dr9 dk9_dX12_toldType_0_0.2.1 4 (55, .istore 4, 2) rfl
theorem dX12_toldType_57 : decode cX12_toldType 57 = .ok (.iload 4, 2) := dr9 dk9_dX12_toldType_0_0.2.1 5 (57, .iload 4, 2) rfl
theorem dX12_toldType_59 : decode cX12_toldType 59 = .ok (.bipush 24, 2) := dr9 dk9_dX12_toldType_0_0.2.1 6 (59, .bipush 24, 2) rfl
theorem dX12_toldType_61 : decode cX12_toldType 61 = .ok (.if_icmp .ge 40, 3) := dr9 dk9_dX12_toldType_0_0.2.1 7 (61, .if_icmp .ge 40, 3) rfl
theorem dX12_toldType_64 : decode cX12_toldType 64 = .ok (.aload_n 0, 1) := dr9 dk9_dX12_toldType_0_0.2.1 8 (64, .aload_n 0, 1) rfl
theorem dX12_toldType_65 : decode cX12_toldType 65 = .ok (.getfield 49, 3) := dr9 dk9_dX12_toldType_0_0.2.1 9 (65, .getfield 49, 3) rfl
theorem dX12_toldType_68 : decode cX12_toldType 68 = .ok (.bipush 24, 2) := dr9 dk9_dX12_toldType_0_0.2.1 10 (68, .bipush 24, 2) rfl
theorem dX12_toldType_70 : decode cX12_toldType 70 = .ok (.iload_n 1, 1) := dr9 dk9_dX12_toldType_0_0.2.1 11 (70, .iload_n 1, 1) rfl
theorem dX12_toldType_71 : decode cX12_toldType 71 = .ok (.imul, 1) := dr9 dk9_dX12_toldType_0_0.2.1 12 (71, .imul, 1) rfl
theorem dX12_toldType_72 : decode cX12_toldType 72 = .ok (.iload 4, 2) := dr9 dk9_dX12_toldType_0_0.2.1 13 (72, .iload 4, 2) rfl
theorem dX12_toldType_74 : decode cX12_toldType 74 = .ok (.iadd, 1) := dr9 dk9_dX12_toldType_0_0.2.1 14 (74, .iadd, 1) rfl
theorem dX12_toldType_75 : decode cX12_toldType 75 = .ok (.iload 4, 2) := dr9 dk9_dX12_toldType_0_0.2.1 15 (75, .iload 4, 2) rfl
theorem dX12_toldType_77 : decode cX12_toldType 77 = .ok (.aload_n 0, 1) := dr9 dk9_dX12_toldType_0_0.2.1 16 (77, .aload_n 0, 1) rfl
theorem dX12_toldType_78 : decode cX12_toldType 78 = .ok (.getfield 43, 3) := dr9 dk9_dX12_toldType_0_0.2.1 17 (78, .getfield 43, 3) rfl
theorem dX12_toldType_81 : decode cX12_toldType 81 = .ok (.aload_n 0, 1) := dr9 dk9_dX12_toldType_0_0.2.1 18 (81, .aload_n 0, 1) rfl
theorem dX12_toldType_82 : decode cX12_toldType 82 = .ok (.getfield 289, 3) := dr9 dk9_dX12_toldType_0_0.2.1 19 (82, .getfield 289, 3) rfl
theorem dX12_toldType_85 : decode cX12_toldType 85 = .ok (.iaload, 1) := dr9 dk9_dX12_toldType_0_0.2.1 20 (85, .iaload, 1) rfl
theorem dX12_toldType_86 : decode cX12_toldType 86 = .ok (.if_icmp .ne 7, 3) := dr9 dk9_dX12_toldType_0_0.2.1 21 (86, .if_icmp .ne 7, 3) rfl
theorem dX12_toldType_93 : decode cX12_toldType 93 = .ok (.iconst 0, 1) := dr9 dk9_dX12_toldType_0_0.2.1 22 (93, .iconst 0, 1) rfl
theorem dX12_toldType_94 : decode cX12_toldType 94 = .ok (.bastore, 1) := dr9 dk9_dX12_toldType_0_0.2.1 23 (94, .bastore, 1) rfl
theorem dX12_toldType_95 : decode cX12_toldType 95 = .ok (.iinc 4 1, 3) := dr9 dk9_dX12_toldType_0_0.2.2.1 0 (95, .iinc 4 1, 3) rfl
theorem dX12_toldType_98 : decode cX12_toldType 98 = .ok (.goto (-41), 3) := dr9 dk9_dX12_toldType_0_0.2.2.1 1 (98, .goto (-41), 3) rfl
theorem dX12_toldType_89 : decode cX12_toldType 89 = .ok (.iconst 1, 1) := dr9 dk9_dX12_toldType_0_0.2.2.1 2 (89, .iconst 1, 1) rfl
theorem dX12_toldType_90 : decode cX12_toldType 90 = .ok (.goto 4, 3) := dr9 dk9_dX12_toldType_0_0.2.2.1 3 (90, .goto 4, 3) rfl
theorem dX12_toldType_101 : decode cX12_toldType 101 = .ok (.aload_n 0, 1) := dr9 dk9_dX12_toldType_0_0.2.2.1 4 (101, .aload_n 0, 1) rfl
theorem dX12_toldType_102 : decode cX12_toldType 102 = .ok (.iconst 1, 1) := dr9 dk9_dX12_toldType_0_0.2.2.1 5 (102, .iconst 1, 1) rfl
theorem dX12_toldType_103 : decode cX12_toldType 103 = .ok (.invokevirtual 280, 3) := dr9 dk9_dX12_toldType_0_0.2.2.1 6 (103, .invokevirtual 280, 3) rfl
theorem dX12_toldType_106 : decode cX12_toldType 106 = .ok (.ifCond .eq 12, 3) := dr9 dk9_dX12_toldType_0_0.2.2.1 7 (106, .ifCond .eq 12, 3) rfl
theorem dX12_toldType_109 : decode cX12_toldType 109 = .ok (.aload_n 0, 1) := dr9 dk9_dX12_toldType_0_0.2.2.1 8 (109, .aload_n 0, 1) rfl
theorem dX12_toldType_110 : decode cX12_toldType 110 = .ok (.aload_n 0, 1) := dr9 dk9_dX12_toldType_0_0.2.2.1 9 (110, .aload_n 0, 1) rfl
theorem dX12_toldType_111 : decode cX12_toldType 111 = .ok (.getfield 49, 3) := dr9 dk9_dX12_toldType_0_0.2.2.1 10 (111, .getfield 49, 3) rfl
theorem dX12_toldType_114 : decode cX12_toldType 114 = .ok (.iload_n 1, 1) := dr9 dk9_dX12_toldType_0_0.2.2.1 11 (114, .iload_n 1, 1) rfl
theorem dX12_toldType_115 : decode cX12_toldType 115 = .ok (.invokevirtual 339, 3) := dr9 dk9_dX12_toldType_0_0.2.2.1 12 (115, .invokevirtual 339, 3) rfl
theorem dX12_toldType_118 : decode cX12_toldType 118 = .ok (.aload_n 0, 1) := dr9 dk9_dX12_toldType_0_0.2.2.1 13 (118, .aload_n 0, 1) rfl
theorem dX12_toldType_119 : decode cX12_toldType 119 = .ok (.bipush 59, 2) := dr9 dk9_dX12_toldType_0_0.2.2.1 14 (119, .bipush 59, 2) rfl
theorem dX12_toldType_121 : decode cX12_toldType 121 = .ok (.invokevirtual 343, 3) := dr9 dk9_dX12_toldType_0_0.2.2.1 15 (121, .invokevirtual 343, 3) rfl
theorem dX12_toldType_124 : decode cX12_toldType 124 = .ok (.aload_n 0, 1) := dr9 dk9_dX12_toldType_0_0.2.2.1 16 (124, .aload_n 0, 1) rfl
theorem dX12_toldType_125 : decode cX12_toldType 125 = .ok (.getfield 46, 3) := dr9 dk9_dX12_toldType_0_0.2.2.1 17 (125, .getfield 46, 3) rfl
theorem dX12_toldType_128 : decode cX12_toldType 128 = .ok (.iload_n 1, 1) := dr9 dk9_dX12_toldType_0_0.2.2.1 18 (128, .iload_n 1, 1) rfl
theorem dX12_toldType_129 : decode cX12_toldType 129 = .ok (.lload_n 2, 1) := dr9 dk9_dX12_toldType_0_0.2.2.1 19 (129, .lload_n 2, 1) rfl
theorem dX12_toldType_130 : decode cX12_toldType 130 = .ok (.lastore, 1) := dr9 dk9_dX12_toldType_0_0.2.2.1 20 (130, .lastore, 1) rfl
theorem dX12_toldType_131 : decode cX12_toldType 131 = .ok (.aload_n 0, 1) := dr9 dk9_dX12_toldType_0_0.2.2.1 21 (131, .aload_n 0, 1) rfl
theorem dX12_toldType_132 : decode cX12_toldType 132 = .ok (.getfield 43, 3) := dr9 dk9_dX12_toldType_0_0.2.2.1 22 (132, .getfield 43, 3) rfl
theorem dX12_toldType_135 : decode cX12_toldType 135 = .ok (.aload_n 0, 1) := dr9 dk9_dX12_toldType_0_0.2.2.1 23 (135, .aload_n 0, 1) rfl
theorem dX12_toldType_136 : decode cX12_toldType 136 = .ok (.getfield 289, 3) := dr9 dk9_dX12_toldType_0_0.2.2.2 0 (136, .getfield 289, 3) rfl
theorem dX12_toldType_139 : decode cX12_toldType 139 = .ok (.dup2, 1) := dr9 dk9_dX12_toldType_0_0.2.2.2 1 (139, .dup2, 1) rfl
theorem dX12_toldType_140 : decode cX12_toldType 140 = .ok (.iaload, 1) := dr9 dk9_dX12_toldType_0_0.2.2.2 2 (140, .iaload, 1) rfl
theorem dX12_toldType_141 : decode cX12_toldType 141 = .ok (.iconst 1, 1) := dr9 dk9_dX12_toldType_0_0.2.2.2 3 (141, .iconst 1, 1) rfl
theorem dX12_toldType_142 : decode cX12_toldType 142 = .ok (.iadd, 1) := dr9 dk9_dX12_toldType_0_0.2.2.2 4 (142, .iadd, 1) rfl
theorem dX12_toldType_143 : decode cX12_toldType 143 = .ok (.iastore, 1) := dr9 dk9_dX12_toldType_0_0.2.2.2 5 (143, .iastore, 1) rfl
theorem dX12_toldType_144 : decode cX12_toldType 144 = .ok (.return_, 1) := dr9 dk9_dX12_toldType_0_0.2.2.2 6 (144, .return_, 1) rfl
theorem dX12_toldType_48 : decode cX12_toldType 48 = .ok (.return_, 1) := dr9 dk9_dX12_toldType_0_0.2.2.2 7 (48, .return_, 1) rfl
theorem dX12_toldType_33 : decode cX12_toldType 33 = .ok (.iconst 1, 1) := dr9 dk9_dX12_toldType_0_0.2.2.2 8 (33, .iconst 1, 1) rfl
theorem dX12_toldType_34 : decode cX12_toldType 34 = .ok (.goto 4, 3) := dr9 dk9_dX12_toldType_0_0.2.2.2 9 (34, .goto 4, 3) rfl
theorem dk9_dX12_toldSetting_0_0 : dOk cX12_toldSetting [(0, .bipush 12, 2), (2, .aload_n 0, 1), (3, .getfield 289, 3), (6, .imul, 1), (7, .aload_n 0, 1), (8, .getfield 53, 3), (11, .aload_n 0, 1), (12, .getfield 289, 3), (15, .iaload, 1), (16, .iadd, 1), (17, .istore_n 1, 1), (18, .aload_n 0, 1), (19, .aload_n 0, 1), (20, .getfield 53, 3), (23, .aload_n 0, 1), (24, .getfield 289, 3), (27, .iaload, 1), (28, .bipush 12, 2), (30, .if_icmp .ne 7, 3), (37, .iconst 0, 1), (38, .invokevirtual 331, 3), (41, .aload_n 0, 1), (42, .getfield 267, 3), (45, .ifCond .le 4, 3)] = true ∧ dOk cX12_toldSetting [(49, .aload_n 0, 1), (50, .getfield 56, 3), (53, .iload_n 1, 1), (54, .aload_n 0, 1), (55, .invokevirtual 335, 3), (58, .lastore, 1), (59, .aload_n 0, 1), (60, .getfield 59, 3), (63, .iload_n 1, 1), (64, .aload_n 0, 1), (65, .iconst 0, 1), (66, .ldc_w 346, 3), (69, .invokevirtual 347, 3), (72, .iastore, 1), (73, .aload_n 0, 1), (74, .bipush 59, 2), (76, .invokevirtual 343, 3), (79, .aload_n 0, 1), (80, .getfield 53, 3), (83, .aload_n 0, 1), (84, .getfield 289, 3), (87, .dup2, 1), (88, .iaload, 1), (89, .iconst 1, 1)] = true ∧ dOk cX12_toldSetting [(90, .iadd, 1), (91, .iastore, 1), (92, .return_, 1), (48, .return_, 1), (33, .iconst 1, 1), (34, .goto 4, 3)] = true := by decide +kernel
theorem dX12_toldSetting_0 : decode cX12_toldSetting 0 = .ok (.bipush 12, 2) := dr9 dk9_dX12_toldSetting_0_0.1 0 (0, .bipush 12, 2) rfl
theorem dX12_toldSetting_2 : decode cX12_toldSetting 2 = .ok (.aload_n 0, 1) := dr9 dk9_dX12_toldSetting_0_0.1 1 (2, .aload_n 0, 1) rfl
theorem dX12_toldSetting_3 : decode cX12_toldSetting 3 = .ok (.getfield 289, 3) := dr9 dk9_dX12_toldSetting_0_0.1 2 (3, .getfield 289, 3) rfl
theorem dX12_toldSetting_6 : decode cX12_toldSetting 6 = .ok (.imul, 1) := dr9 dk9_dX12_toldSetting_0_0.1 3 (6, .imul, 1) rfl
theorem dX12_toldSetting_7 : decode cX12_toldSetting 7 = .ok (.aload_n 0, 1) := dr9 dk9_dX12_toldSetting_0_0.1 4 (7, .aload_n 0, 1) rfl
theorem dX12_toldSetting_8 : decode cX12_toldSetting 8 = .ok (.getfield 53, 3) := dr9 dk9_dX12_toldSetting_0_0.1 5 (8, .getfield 53, 3) rfl
theorem dX12_toldSetting_11 : decode cX12_toldSetting 11 = .ok (.aload_n 0, 1) := dr9 dk9_dX12_toldSetting_0_0.1 6 (11, .aload_n 0, 1) rfl
theorem dX12_toldSetting_12 : decode cX12_toldSetting 12 = .ok (.getfield 289, 3) := dr9 dk9_dX12_toldSetting_0_0.1 7 (12, .getfield 289, 3) rfl
theorem dX12_toldSetting_15 : decode cX12_toldSetting 15 = .ok (.iaload, 1) := dr9 dk9_dX12_toldSetting_0_0.1 8 (15, .iaload, 1) rfl
theorem dX12_toldSetting_16 : decode cX12_toldSetting 16 = .ok (.iadd, 1) := dr9 dk9_dX12_toldSetting_0_0.1 9 (16, .iadd, 1) rfl
theorem dX12_toldSetting_17 : decode cX12_toldSetting 17 = .ok (.istore_n 1, 1) := dr9 dk9_dX12_toldSetting_0_0.1 10 (17, .istore_n 1, 1) rfl
theorem dX12_toldSetting_18 : decode cX12_toldSetting 18 = .ok (.aload_n 0, 1) := dr9 dk9_dX12_toldSetting_0_0.1 11 (18, .aload_n 0, 1) rfl
theorem dX12_toldSetting_19 : decode cX12_toldSetting 19 = .ok (.aload_n 0, 1) := dr9 dk9_dX12_toldSetting_0_0.1 12 (19, .aload_n 0, 1) rfl
theorem dX12_toldSetting_20 : decode cX12_toldSetting 20 = .ok (.getfield 53, 3) := dr9 dk9_dX12_toldSetting_0_0.1 13 (20, .getfield 53, 3) rfl
theorem dX12_toldSetting_23 : decode cX12_toldSetting 23 = .ok (.aload_n 0, 1) := dr9 dk9_dX12_toldSetting_0_0.1 14 (23, .aload_n 0, 1) rfl
theorem dX12_toldSetting_24 : decode cX12_toldSetting 24 = .ok (.getfield 289, 3) := dr9 dk9_dX12_toldSetting_0_0.1 15 (24, .getfield 289, 3) rfl
theorem dX12_toldSetting_27 : decode cX12_toldSetting 27 = .ok (.iaload, 1) := dr9 dk9_dX12_toldSetting_0_0.1 16 (27, .iaload, 1) rfl
theorem dX12_toldSetting_28 : decode cX12_toldSetting 28 = .ok (.bipush 12, 2) := dr9 dk9_dX12_toldSetting_0_0.1 17 (28, .bipush 12, 2) rfl
theorem dX12_toldSetting_30 : decode cX12_toldSetting 30 = .ok (.if_icmp .ne 7, 3) := dr9 dk9_dX12_toldSetting_0_0.1 18 (30, .if_icmp .ne 7, 3) rfl
theorem dX12_toldSetting_37 : decode cX12_toldSetting 37 = .ok (.iconst 0, 1) := dr9 dk9_dX12_toldSetting_0_0.1 19 (37, .iconst 0, 1) rfl
theorem dX12_toldSetting_38 : decode cX12_toldSetting 38 = .ok (.invokevirtual 331, 3) := dr9 dk9_dX12_toldSetting_0_0.1 20 (38, .invokevirtual 331, 3) rfl
theorem dX12_toldSetting_41 : decode cX12_toldSetting 41 = .ok (.aload_n 0, 1) := dr9 dk9_dX12_toldSetting_0_0.1 21 (41, .aload_n 0, 1) rfl
theorem dX12_toldSetting_42 : decode cX12_toldSetting 42 = .ok (.getfield 267, 3) := dr9 dk9_dX12_toldSetting_0_0.1 22 (42, .getfield 267, 3) rfl
theorem dX12_toldSetting_45 : decode cX12_toldSetting 45 = .ok (.ifCond .le 4, 3) := dr9 dk9_dX12_toldSetting_0_0.1 23 (45, .ifCond .le 4, 3) rfl
theorem dX12_toldSetting_49 : decode cX12_toldSetting 49 = .ok (.aload_n 0, 1) := dr9 dk9_dX12_toldSetting_0_0.2.1 0 (49, .aload_n 0, 1) rfl
theorem dX12_toldSetting_50 : decode cX12_toldSetting 50 = .ok (.getfield 56, 3) := dr9 dk9_dX12_toldSetting_0_0.2.1 1 (50, .getfield 56, 3) rfl
theorem dX12_toldSetting_53 : decode cX12_toldSetting 53 = .ok (.iload_n 1, 1) := dr9 dk9_dX12_toldSetting_0_0.2.1 2 (53, .iload_n 1, 1) rfl
theorem dX12_toldSetting_54 : decode cX12_toldSetting 54 = .ok (.aload_n 0, 1) := dr9 dk9_dX12_toldSetting_0_0.2.1 3 (54, .aload_n 0, 1) rfl
theorem dX12_toldSetting_55 : decode cX12_toldSetting 55 = .ok (.invokevirtual 335, 3) := dr9 dk9_dX12_toldSetting_0_0.2.1 4 (55, .invokevirtual 335, 3) rfl
theorem dX12_toldSetting_58 : decode cX12_toldSetting 58 = .ok (.lastore, 1) := dr9 dk9_dX12_toldSetting_0_0.2.1 5 (58, .lastore, 1) rfl
theorem dX12_toldSetting_59 : decode cX12_toldSetting 59 = .ok (.aload_n 0, 1) := dr9 dk9_dX12_toldSetting_0_0.2.1 6 (59, .aload_n 0, 1) rfl
theorem dX12_toldSetting_60 : decode cX12_toldSetting 60 = .ok (.getfield 59, 3) := dr9 dk9_dX12_toldSetting_0_0.2.1 7 (60, .getfield 59, 3) rfl
theorem dX12_toldSetting_63 : decode cX12_toldSetting 63 = .ok (.iload_n 1, 1) := dr9 dk9_dX12_toldSetting_0_0.2.1 8 (63, .iload_n 1, 1) rfl
theorem dX12_toldSetting_64 : decode cX12_toldSetting 64 = .ok (.aload_n 0, 1) := dr9 dk9_dX12_toldSetting_0_0.2.1 9 (64, .aload_n 0, 1) rfl
theorem dX12_toldSetting_65 : decode cX12_toldSetting 65 = .ok (.iconst 0, 1) := dr9 dk9_dX12_toldSetting_0_0.2.1 10 (65, .iconst 0, 1) rfl
theorem dX12_toldSetting_66 : decode cX12_toldSetting 66 = .ok (.ldc_w 346, 3) := dr9 dk9_dX12_toldSetting_0_0.2.1 11 (66, .ldc_w 346, 3) rfl
theorem dX12_toldSetting_69 : decode cX12_toldSetting 69 = .ok (.invokevirtual 347, 3) := dr9 dk9_dX12_toldSetting_0_0.2.1 12 (69, .invokevirtual 347, 3) rfl
theorem dX12_toldSetting_72 : decode cX12_toldSetting 72 = .ok (.iastore, 1) := dr9 dk9_dX12_toldSetting_0_0.2.1 13 (72, .iastore, 1) rfl
theorem dX12_toldSetting_73 : decode cX12_toldSetting 73 = .ok (.aload_n 0, 1) := dr9 dk9_dX12_toldSetting_0_0.2.1 14 (73, .aload_n 0, 1) rfl
theorem dX12_toldSetting_74 : decode cX12_toldSetting 74 = .ok (.bipush 59, 2) := dr9 dk9_dX12_toldSetting_0_0.2.1 15 (74, .bipush 59, 2) rfl
theorem dX12_toldSetting_76 : decode cX12_toldSetting 76 = .ok (.invokevirtual 343, 3) := dr9 dk9_dX12_toldSetting_0_0.2.1 16 (76, .invokevirtual 343, 3) rfl
theorem dX12_toldSetting_79 : decode cX12_toldSetting 79 = .ok (.aload_n 0, 1) := dr9 dk9_dX12_toldSetting_0_0.2.1 17 (79, .aload_n 0, 1) rfl
theorem dX12_toldSetting_80 : decode cX12_toldSetting 80 = .ok (.getfield 53, 3) := dr9 dk9_dX12_toldSetting_0_0.2.1 18 (80, .getfield 53, 3) rfl
theorem dX12_toldSetting_83 : decode cX12_toldSetting 83 = .ok (.aload_n 0, 1) := dr9 dk9_dX12_toldSetting_0_0.2.1 19 (83, .aload_n 0, 1) rfl
theorem dX12_toldSetting_84 : decode cX12_toldSetting 84 = .ok (.getfield 289, 3) := dr9 dk9_dX12_toldSetting_0_0.2.1 20 (84, .getfield 289, 3) rfl
theorem dX12_toldSetting_87 : decode cX12_toldSetting 87 = .ok (.dup2, 1) := dr9 dk9_dX12_toldSetting_0_0.2.1 21 (87, .dup2, 1) rfl
theorem dX12_toldSetting_88 : decode cX12_toldSetting 88 = .ok (.iaload, 1) := dr9 dk9_dX12_toldSetting_0_0.2.1 22 (88, .iaload, 1) rfl
theorem dX12_toldSetting_89 : decode cX12_toldSetting 89 = .ok (.iconst 1, 1) := dr9 dk9_dX12_toldSetting_0_0.2.1 23 (89, .iconst 1, 1) rfl
theorem dX12_toldSetting_90 : decode cX12_toldSetting 90 = .ok (.iadd, 1) := dr9 dk9_dX12_toldSetting_0_0.2.2 0 (90, .iadd, 1) rfl
theorem dX12_toldSetting_91 : decode cX12_toldSetting 91 = .ok (.iastore, 1) := dr9 dk9_dX12_toldSetting_0_0.2.2 1 (91, .iastore, 1) rfl
theorem dX12_toldSetting_92 : decode cX12_toldSetting 92 = .ok (.return_, 1) := dr9 dk9_dX12_toldSetting_0_0.2.2 2 (92, .return_, 1) rfl
theorem dX12_toldSetting_48 : decode cX12_toldSetting 48 = .ok (.return_, 1) := dr9 dk9_dX12_toldSetting_0_0.2.2 3 (48, .return_, 1) rfl
theorem dX12_toldSetting_33 : decode cX12_toldSetting 33 = .ok (.iconst 1, 1) := dr9 dk9_dX12_toldSetting_0_0.2.2 4 (33, .iconst 1, 1) rfl
theorem dX12_toldSetting_34 : decode cX12_toldSetting 34 = .ok (.goto 4, 3) := dr9 dk9_dX12_toldSetting_0_0.2.2 5 (34, .goto 4, 3) rfl
theorem dk9_dX12_emit_0_0 : dOk cX12_emit [(0, .aload_n 0, 1), (1, .getfield 140, 3), (4, .aload_n 0, 1), (5, .getfield 295, 3), (8, .aload_n 0, 1), (9, .getfield 292, 3), (12, .iadd, 1), (13, .iload_n 1, 1), (14, .iastore, 1), (15, .aload_n 0, 1), (16, .getfield 143, 3), (19, .aload_n 0, 1), (20, .getfield 295, 3), (23, .aload_n 0, 1), (24, .getfield 292, 3), (27, .iadd, 1), (28, .iload_n 2, 1), (29, .iastore, 1), (30, .aload_n 0, 1), (31, .getfield 146, 3), (34, .aload_n 0, 1), (35, .getfield 295, 3), (38, .aload_n 0, 1), (39, .getfield 292, 3)] = true ∧ dOk cX12_emit [(42, .iadd, 1), (43, .iload_n 3, 1), (44, .iastore, 1), (45, .aload_n 0, 1), (46, .dup, 1), (47, .getfield 292, 3), (50, .iconst 1, 1), (51, .iadd, 1), (52, .putfield 292, 3), (55, .aload_n 0, 1), (56, .getfield 295, 3), (59, .aload_n 0, 1), (60, .getfield 292, 3), (63, .iadd, 1), (64, .iconst 1, 1), (65, .isub, 1), (66, .ireturn, 1)] = true := by decide +kernel
theorem dX12_emit_0 : decode cX12_emit 0 = .ok (.aload_n 0, 1) := dr9 dk9_dX12_emit_0_0.1 0 (0, .aload_n 0, 1) rfl
theorem dX12_emit_1 : decode cX12_emit 1 = .ok (.getfield 140, 3) := dr9 dk9_dX12_emit_0_0.1 1 (1, .getfield 140, 3) rfl
theorem dX12_emit_4 : decode cX12_emit 4 = .ok (.aload_n 0, 1) := dr9 dk9_dX12_emit_0_0.1 2 (4, .aload_n 0, 1) rfl
theorem dX12_emit_5 : decode cX12_emit 5 = .ok (.getfield 295, 3) := dr9 dk9_dX12_emit_0_0.1 3 (5, .getfield 295, 3) rfl
theorem dX12_emit_8 : decode cX12_emit 8 = .ok (.aload_n 0, 1) := dr9 dk9_dX12_emit_0_0.1 4 (8, .aload_n 0, 1) rfl
theorem dX12_emit_9 : decode cX12_emit 9 = .ok (.getfield 292, 3) := dr9 dk9_dX12_emit_0_0.1 5 (9, .getfield 292, 3) rfl
theorem dX12_emit_12 : decode cX12_emit 12 = .ok (.iadd, 1) := dr9 dk9_dX12_emit_0_0.1 6 (12, .iadd, 1) rfl
theorem dX12_emit_13 : decode cX12_emit 13 = .ok (.iload_n 1, 1) := dr9 dk9_dX12_emit_0_0.1 7 (13, .iload_n 1, 1) rfl
theorem dX12_emit_14 : decode cX12_emit 14 = .ok (.iastore, 1) := dr9 dk9_dX12_emit_0_0.1 8 (14, .iastore, 1) rfl
theorem dX12_emit_15 : decode cX12_emit 15 = .ok (.aload_n 0, 1) := dr9 dk9_dX12_emit_0_0.1 9 (15, .aload_n 0, 1) rfl
theorem dX12_emit_16 : decode cX12_emit 16 = .ok (.getfield 143, 3) := dr9 dk9_dX12_emit_0_0.1 10 (16, .getfield 143, 3) rfl
theorem dX12_emit_19 : decode cX12_emit 19 = .ok (.aload_n 0, 1) := dr9 dk9_dX12_emit_0_0.1 11 (19, .aload_n 0, 1) rfl
theorem dX12_emit_20 : decode cX12_emit 20 = .ok (.getfield 295, 3) := dr9 dk9_dX12_emit_0_0.1 12 (20, .getfield 295, 3) rfl
theorem dX12_emit_23 : decode cX12_emit 23 = .ok (.aload_n 0, 1) := dr9 dk9_dX12_emit_0_0.1 13 (23, .aload_n 0, 1) rfl
theorem dX12_emit_24 : decode cX12_emit 24 = .ok (.getfield 292, 3) := dr9 dk9_dX12_emit_0_0.1 14 (24, .getfield 292, 3) rfl
theorem dX12_emit_27 : decode cX12_emit 27 = .ok (.iadd, 1) := dr9 dk9_dX12_emit_0_0.1 15 (27, .iadd, 1) rfl
theorem dX12_emit_28 : decode cX12_emit 28 = .ok (.iload_n 2, 1) := dr9 dk9_dX12_emit_0_0.1 16 (28, .iload_n 2, 1) rfl
theorem dX12_emit_29 : decode cX12_emit 29 = .ok (.iastore, 1) := dr9 dk9_dX12_emit_0_0.1 17 (29, .iastore, 1) rfl
theorem dX12_emit_30 : decode cX12_emit 30 = .ok (.aload_n 0, 1) := dr9 dk9_dX12_emit_0_0.1 18 (30, .aload_n 0, 1) rfl
theorem dX12_emit_31 : decode cX12_emit 31 = .ok (.getfield 146, 3) := dr9 dk9_dX12_emit_0_0.1 19 (31, .getfield 146, 3) rfl
theorem dX12_emit_34 : decode cX12_emit 34 = .ok (.aload_n 0, 1) := dr9 dk9_dX12_emit_0_0.1 20 (34, .aload_n 0, 1) rfl
theorem dX12_emit_35 : decode cX12_emit 35 = .ok (.getfield 295, 3) := dr9 dk9_dX12_emit_0_0.1 21 (35, .getfield 295, 3) rfl
theorem dX12_emit_38 : decode cX12_emit 38 = .ok (.aload_n 0, 1) := dr9 dk9_dX12_emit_0_0.1 22 (38, .aload_n 0, 1) rfl
theorem dX12_emit_39 : decode cX12_emit 39 = .ok (.getfield 292, 3) := dr9 dk9_dX12_emit_0_0.1 23 (39, .getfield 292, 3) rfl
theorem dX12_emit_42 : decode cX12_emit 42 = .ok (.iadd, 1) := dr9 dk9_dX12_emit_0_0.2 0 (42, .iadd, 1) rfl
theorem dX12_emit_43 : decode cX12_emit 43 = .ok (.iload_n 3, 1) := dr9 dk9_dX12_emit_0_0.2 1 (43, .iload_n 3, 1) rfl
theorem dX12_emit_44 : decode cX12_emit 44 = .ok (.iastore, 1) := dr9 dk9_dX12_emit_0_0.2 2 (44, .iastore, 1) rfl
theorem dX12_emit_45 : decode cX12_emit 45 = .ok (.aload_n 0, 1) := dr9 dk9_dX12_emit_0_0.2 3 (45, .aload_n 0, 1) rfl
theorem dX12_emit_46 : decode cX12_emit 46 = .ok (.dup, 1) := dr9 dk9_dX12_emit_0_0.2 4 (46, .dup, 1) rfl
theorem dX12_emit_47 : decode cX12_emit 47 = .ok (.getfield 292, 3) := dr9 dk9_dX12_emit_0_0.2 5 (47, .getfield 292, 3) rfl
theorem dX12_emit_50 : decode cX12_emit 50 = .ok (.iconst 1, 1) := dr9 dk9_dX12_emit_0_0.2 6 (50, .iconst 1, 1) rfl
theorem dX12_emit_51 : decode cX12_emit 51 = .ok (.iadd, 1) := dr9 dk9_dX12_emit_0_0.2 7 (51, .iadd, 1) rfl
theorem dX12_emit_52 : decode cX12_emit 52 = .ok (.putfield 292, 3) := dr9 dk9_dX12_emit_0_0.2 8 (52, .putfield 292, 3) rfl
theorem dX12_emit_55 : decode cX12_emit 55 = .ok (.aload_n 0, 1) := dr9 dk9_dX12_emit_0_0.2 9 (55, .aload_n 0, 1) rfl
theorem dX12_emit_56 : decode cX12_emit 56 = .ok (.getfield 295, 3) := dr9 dk9_dX12_emit_0_0.2 10 (56, .getfield 295, 3) rfl
theorem dX12_emit_59 : decode cX12_emit 59 = .ok (.aload_n 0, 1) := dr9 dk9_dX12_emit_0_0.2 11 (59, .aload_n 0, 1) rfl
theorem dX12_emit_60 : decode cX12_emit 60 = .ok (.getfield 292, 3) := dr9 dk9_dX12_emit_0_0.2 12 (60, .getfield 292, 3) rfl
theorem dX12_emit_63 : decode cX12_emit 63 = .ok (.iadd, 1) := dr9 dk9_dX12_emit_0_0.2 13 (63, .iadd, 1) rfl
theorem dX12_emit_64 : decode cX12_emit 64 = .ok (.iconst 1, 1) := dr9 dk9_dX12_emit_0_0.2 14 (64, .iconst 1, 1) rfl
theorem dX12_emit_65 : decode cX12_emit 65 = .ok (.isub, 1) := dr9 dk9_dX12_emit_0_0.2 15 (65, .isub, 1) rfl
theorem dX12_emit_66 : decode cX12_emit 66 = .ok (.ireturn, 1) := dr9 dk9_dX12_emit_0_0.2 16 (66, .ireturn, 1) rfl
abbrev r_s_takeTypes_typeIs : Room := { frames := 3, cells := 0, slots := 0, locals := 71 }
abbrev q_s_takeTypes_typeIs (D : va_G) (ks : KS) (ad : Nat → Nat) (kk : Nat → ClassId) (V : Vf) (L : Lf) (p1 : Int32) (n : Nat) (A : Nat → Prop) : Array Value → State → Outcome → State → Prop := va_Qv (fun (u : Vf × Lf) => rgd bM u.1 ∧ agr [(0, 7), (0, 8)] [15, 21, 53] V u.1 ∧ u.2 = L ∧ (Imp ((u.1 0 8).toInt = 0) (0 ≤ (u.1 0 7).toInt ∧ (u.1 0 7).toInt ≤ n ∧ (V 0 8).toInt = 0 ∧ (V 0 7).toInt ≤ (u.1 0 7).toInt))) (fun u t => gq D A (mw ad kk ks.1 u.1 u.2) (mty kk) t) A
abbrev r_s_takeTypes_componentIs : Room := { frames := 3, cells := 0, slots := 0, locals := 71 }
abbrev q_s_takeTypes_componentIs (D : va_G) (ks : KS) (ad : Nat → Nat) (kk : Nat → ClassId) (V : Vf) (L : Lf) (p1 : Int32) (n : Nat) (A : Nat → Prop) : Array Value → State → Outcome → State → Prop := va_Qv (fun (u : Vf × Lf) => rgd bM u.1 ∧ agr [(0, 7), (0, 8)] [15, 21, 53] V u.1 ∧ u.2 = L ∧ (Imp ((u.1 0 8).toInt = 0) (0 ≤ (u.1 0 7).toInt ∧ (u.1 0 7).toInt ≤ n ∧ (V 0 8).toInt = 0 ∧ (V 0 7).toInt ≤ (u.1 0 7).toInt))) (fun u t => gq D A (mw ad kk ks.1 u.1 u.2) (mty kk) t) A
abbrev r_s_toldType : Room := { frames := 4, cells := 0, slots := 0, locals := 97 }
abbrev q_s_toldType (D : va_G) (ks : KS) (ad : Nat → Nat) (kk : Nat → ClassId) (V : Vf) (L : Lf) (n : Nat) (A : Nat → Prop) : Array Value → State → Outcome → State → Prop := va_Qv (fun (u : Vf × Lf) => rgd bM u.1 ∧ agr [(0, 7), (0, 8)] [13, 14, 15, 21, 53] V u.1 ∧ agL [13, 14, 15, 21, 53] L u.2 ∧ (Imp ((u.1 0 8).toInt = 0) (0 ≤ (u.1 0 7).toInt ∧ (u.1 0 7).toInt ≤ n ∧ (V 0 8).toInt = 0 ∧ (V 0 7).toInt ≤ (u.1 0 7).toInt)) ∧ (Imp ((u.1 0 8).toInt = 0) ((V 0 7).toInt + 1 ≤ (u.1 0 7).toInt))) (fun u t => gq D A (mw ad kk ks.1 u.1 u.2) (mty kk) t) A
abbrev r_s_toldSetting : Room := { frames := 2, cells := 0, slots := 0, locals := 47 }
abbrev q_s_toldSetting (D : va_G) (ks : KS) (ad : Nat → Nat) (kk : Nat → ClassId) (V : Vf) (L : Lf) (n : Nat) (A : Nat → Prop) : Array Value → State → Outcome → State → Prop := va_Qv (fun (u : Vf × Lf) => rgd bM u.1 ∧ agr [(0, 7), (0, 8)] [16, 17, 18] V u.1 ∧ agL [16, 17, 18] L u.2 ∧ (Imp ((u.1 0 8).toInt = 0) (0 ≤ (u.1 0 7).toInt ∧ (u.1 0 7).toInt ≤ n ∧ (V 0 8).toInt = 0 ∧ (V 0 7).toInt ≤ (u.1 0 7).toInt)) ∧ (Imp ((u.1 0 8).toInt = 0) ((V 0 7).toInt + 1 ≤ (u.1 0 7).toInt))) (fun u t => gq D A (mw ad kk ks.1 u.1 u.2) (mty kk) t) A
abbrev r_s_emit : Room := { frames := 0, cells := 0, slots := 0, locals := 0 }
abbrev q_s_emit (D : va_G) (ks : KS) (ad : Nat → Nat) (kk : Nat → ClassId) (V : Vf) (L : Lf) (p0 : Int32) (p1 : Int32) (p2 : Int32) (A : Nat → Prop) : Array Value → State → Outcome → State → Prop := va_Qi (fun (r : Int32) (u : Vf × Lf) => rgd bM u.1 ∧ agr [(0, 48)] [45, 46, 47] V u.1 ∧ u.2 = L ∧ (0 ≤ r.toInt ∧ r.toInt ≤ 20000)) (fun u t => gq D A (mw ad kk ks.1 u.1 u.2) (mty kk) t) A
end
