theorem w2062 : Cond.code yX12_takeType cX12_takeType 1 (some .int) ∈ GW := gw_k tk9_8 227 (rfl) rfl
theorem w2059 : Cond.methodLink RX12 325 yX12_takeType ∈ GW := gw_k tk9_8 224 (by decide +kernel) rfl
theorem w2061 : Cond.instanceMethod yX12_takeType ∈ GW := gw_k tk9_8 226 (by decide +kernel) rfl
theorem w92 : Cond.selects RX12 yX12_takeType yX12_takeType ∈ GW := gw_mem 92 (by decide +kernel) rfl
theorem hdV_yX12_takeType : yX12_takeType.cls = RX12 ∧ yX12_takeType.cls ≠ "java/lang/invoke/MethodHandle" ∧ yX12_takeType.cls ≠ "java/lang/invoke/VarHandle" ∧ (parseMethodDescriptor yX12_takeType.desc).map (fun d => d.parameters.length) = some 0 := by decide +kernel
theorem w1759 : Cond.fieldLink RX12 149 "WiringHouseModel" "listed" "[I" ∈ GW := gw_k tk9_7 164 (by decide +kernel) rfl
theorem w1721 : Cond.fieldLink RX12 49 "WiringHouseModel" "typeIs" "[Z" ∈ GW := gw_k tk9_7 126 (by decide +kernel) rfl
theorem w2070 : Cond.code yX12_hasSign cX12_hasSign 3 (some .boolean) ∈ GW := gw_k tk9_8 235 (rfl) rfl
theorem w2067 : Cond.methodLink RX12 328 yX12_hasSign ∈ GW := gw_k tk9_8 232 (by decide +kernel) rfl
theorem w2069 : Cond.instanceMethod yX12_hasSign ∈ GW := gw_k tk9_8 234 (by decide +kernel) rfl
theorem w94 : Cond.selects RX12 yX12_hasSign yX12_hasSign ∈ GW := gw_mem 94 (by decide +kernel) rfl
theorem hdV_yX12_hasSign : yX12_hasSign.cls = RX12 ∧ yX12_hasSign.cls ≠ "java/lang/invoke/MethodHandle" ∧ yX12_hasSign.cls ≠ "java/lang/invoke/VarHandle" ∧ (parseMethodDescriptor yX12_hasSign.desc).map (fun d => d.parameters.length) = some 1 := by decide +kernel
theorem w2034 : Cond.code yX12_begins cX12_begins 2 none ∈ GW := gw_k tk9_8 199 (rfl) rfl
theorem w2031 : Cond.methodLink RX12 331 yX12_begins ∈ GW := gw_k tk9_8 196 (by decide +kernel) rfl
theorem w2033 : Cond.instanceMethod yX12_begins ∈ GW := gw_k tk9_8 198 (by decide +kernel) rfl
theorem w85 : Cond.selects RX12 yX12_begins yX12_begins ∈ GW := gw_mem 85 (by decide +kernel) rfl
theorem hdV_yX12_begins : yX12_begins.cls = RX12 ∧ yX12_begins.cls ≠ "java/lang/invoke/MethodHandle" ∧ yX12_begins.cls ≠ "java/lang/invoke/VarHandle" ∧ (parseMethodDescriptor yX12_begins.desc).map (fun d => d.parameters.length) = some 1 := by decide +kernel
theorem w2042 : Cond.code yX12_newName cX12_newName 1 (some .long) ∈ GW := gw_k tk9_8 207 (rfl) rfl
theorem w2039 : Cond.methodLink RX12 335 yX12_newName ∈ GW := gw_k tk9_8 204 (by decide +kernel) rfl
theorem w2041 : Cond.instanceMethod yX12_newName ∈ GW := gw_k tk9_8 206 (by decide +kernel) rfl
theorem w87 : Cond.selects RX12 yX12_newName yX12_newName ∈ GW := gw_mem 87 (by decide +kernel) rfl
theorem hdV_yX12_newName : yX12_newName.cls = RX12 ∧ yX12_newName.cls ≠ "java/lang/invoke/MethodHandle" ∧ yX12_newName.cls ≠ "java/lang/invoke/VarHandle" ∧ (parseMethodDescriptor yX12_newName.desc).map (fun d => d.parameters.length) = some 0 := by decide +kernel
theorem w2058 : Cond.code yX12_takeTypes cX12_takeTypes 7 none ∈ GW := gw_k tk9_8 223 (rfl) rfl
theorem w2055 : Cond.methodLink RX12 339 yX12_takeTypes ∈ GW := gw_k tk9_8 220 (by decide +kernel) rfl
theorem w2057 : Cond.instanceMethod yX12_takeTypes ∈ GW := gw_k tk9_8 222 (by decide +kernel) rfl
theorem w91 : Cond.selects RX12 yX12_takeTypes yX12_takeTypes ∈ GW := gw_mem 91 (by decide +kernel) rfl
theorem hdV_yX12_takeTypes : yX12_takeTypes.cls = RX12 ∧ yX12_takeTypes.cls ≠ "java/lang/invoke/MethodHandle" ∧ yX12_takeTypes.cls ≠ "java/lang/invoke/VarHandle" ∧ (parseMethodDescriptor yX12_takeTypes.desc).map (fun d => d.parameters.length) = some 2 := by decide +kernel
theorem w2078 : Cond.code yX12_takeSign cX12_takeSign 2 none ∈ GW := gw_k tk9_9 3 (rfl) rfl
theorem w2075 : Cond.methodLink RX12 343 yX12_takeSign ∈ GW := gw_k tk9_9 0 (by decide +kernel) rfl
theorem w2077 : Cond.instanceMethod yX12_takeSign ∈ GW := gw_k tk9_9 2 (by decide +kernel) rfl
theorem w96 : Cond.selects RX12 yX12_takeSign yX12_takeSign ∈ GW := gw_mem 96 (by decide +kernel) rfl
theorem hdV_yX12_takeSign : yX12_takeSign.cls = RX12 ∧ yX12_takeSign.cls ≠ "java/lang/invoke/MethodHandle" ∧ yX12_takeSign.cls ≠ "java/lang/invoke/VarHandle" ∧ (parseMethodDescriptor yX12_takeSign.desc).map (fun d => d.parameters.length) = some 1 := by decide +kernel
theorem w1724 : Cond.fieldLink RX12 59 "WiringHouseModel" "settingValue" "[I" ∈ GW := gw_k tk9_7 129 (by decide +kernel) rfl
theorem w2083 : Cond.constant RX12 346 999999999 ∈ GW := gw_k tk9_9 8 (by decide +kernel) rfl
theorem w2087 : Cond.code yX12_takeNumber cX12_takeNumber 3 (some .int) ∈ GW := gw_k tk9_9 12 (rfl) rfl
theorem w2084 : Cond.methodLink RX12 347 yX12_takeNumber ∈ GW := gw_k tk9_9 9 (by decide +kernel) rfl
theorem w2086 : Cond.instanceMethod yX12_takeNumber ∈ GW := gw_k tk9_9 11 (by decide +kernel) rfl
theorem w98 : Cond.selects RX12 yX12_takeNumber yX12_takeNumber ∈ GW := gw_mem 98 (by decide +kernel) rfl
theorem hdV_yX12_takeNumber : yX12_takeNumber.cls = RX12 ∧ yX12_takeNumber.cls ≠ "java/lang/invoke/MethodHandle" ∧ yX12_takeNumber.cls ≠ "java/lang/invoke/VarHandle" ∧ (parseMethodDescriptor yX12_takeNumber.desc).map (fun d => d.parameters.length) = some 2 := by decide +kernel
theorem w1751 : Cond.fieldLink RX12 140 "WiringHouseModel" "op" "[I" ∈ GW := gw_k tk9_7 156 (by decide +kernel) rfl
theorem w1755 : Cond.fieldLink RX12 295 "WiringHouseModel" "codesFrom" "I" ∈ GW := gw_k tk9_7 160 (by decide +kernel) rfl
theorem w1754 : Cond.fieldLink RX12 292 "WiringHouseModel" "codes" "I" ∈ GW := gw_k tk9_7 159 (by decide +kernel) rfl
theorem w1752 : Cond.fieldLink RX12 143 "WiringHouseModel" "one" "[I" ∈ GW := gw_k tk9_7 157 (by decide +kernel) rfl
theorem w1753 : Cond.fieldLink RX12 146 "WiringHouseModel" "two" "[I" ∈ GW := gw_k tk9_7 158 (by decide +kernel) rfl
theorem dk9_dX12_takeTypes_0_0 : dOk cX12_takeTypes [(0, .iconst 0, 1), (1, .istore_n 3, 1), (2, .iconst 1, 1), (3, .istore 4, 2), (5, .iload 4, 2), (7, .ifCond .eq 188, 3), (195, .return_, 1), (10, .aload_n 0, 1), (11, .getfield 267, 3), (14, .ifCond .ne 181, 3), (17, .aload_n 0, 1), (18, .invokevirtual 325, 3), (21, .istore 5, 2), (23, .aload_n 0, 1), (24, .dup, 1), (25, .getfield 264, 3), (28, .iconst 1, 1), (29, .isub, 1), (30, .putfield 264, 3), (33, .iconst 0, 1), (34, .istore 6, 2), (36, .iload 6, 2), (38, .iload_n 3, 1), (39, .if_icmp .ge 33, 3)] = true ∧ dOk cX12_takeTypes [(42, .aload_n 0, 1), (43, .getfield 267, 3), (46, .ifCond .ne 26, 3), (49, .aload_n 0, 1), (50, .getfield 149, 3), (53, .iload 6, 2), (55, .iaload, 1), (56, .iload 5, 2), (58, .if_icmp .ne 8, 3), (66, .iinc 6 1, 3), (69, .goto (-33), 3), (61, .aload_n 0, 1), (62, .iconst 3, 1), (63, .invokevirtual 273, 3), (72, .aload_n 0, 1), (73, .getfield 267, 3), (76, .ifCond .ne 14, 3), (79, .iload_n 3, 1), (80, .bipush 6, 2), (82, .if_icmp .ne 8, 3), (85, .aload_n 0, 1), (86, .iconst 5, 1), (87, .invokevirtual 273, 3), (90, .aload_n 0, 1)] = true ∧ dOk cX12_takeTypes [(91, .dup, 1), (92, .getfield 264, 3), (95, .iconst 1, 1), (96, .iadd, 1), (97, .putfield 264, 3), (100, .aload_n 0, 1), (101, .getfield 267, 3), (104, .ifCond .ne 80, 3), (107, .aload_n 0, 1), (108, .getfield 149, 3), (111, .iload_n 3, 1), (112, .iload 5, 2), (114, .iastore, 1), (115, .iinc 3 1, 3), (118, .iconst 0, 1), (119, .istore 6, 2), (121, .iload 6, 2), (123, .bipush 24, 2), (125, .if_icmp .ge 59, 3), (128, .aload_n 1, 1), (129, .bipush 24, 2), (131, .iload_n 2, 1), (132, .imul, 1), (133, .iload 6, 2)] = true ∧ dOk cX12_takeTypes [(135, .iadd, 1), (136, .aload_n 1, 1), (137, .bipush 24, 2), (139, .iload_n 2, 1), (140, .imul, 1), (141, .iload 6, 2), (143, .iadd, 1), (144, .baload, 1), (145, .ifCond .ne 27, 3), (172, .iconst 1, 1), (173, .goto 4, 3), (177, .bastore, 1), (178, .iinc 6 1, 3), (181, .goto (-60), 3), (148, .aload_n 0, 1), (149, .getfield 49, 3), (152, .bipush 24, 2), (154, .bipush 24, 2), (156, .aload_n 0, 1), (157, .getfield 289, 3), (160, .imul, 1), (161, .iload 5, 2), (163, .iadd, 1), (164, .imul, 1)] = true ∧ dOk cX12_takeTypes [(165, .iload 6, 2), (167, .iadd, 1), (168, .baload, 1), (169, .ifCond .eq 7, 3), (176, .iconst 0, 1), (184, .aload_n 0, 1), (185, .bipush 44, 2), (187, .invokevirtual 328, 3), (190, .istore 4, 2), (192, .goto (-187), 3)] = true := by decide +kernel
theorem dX12_takeTypes_0 : decode cX12_takeTypes 0 = .ok (.iconst 0, 1) := dr9 dk9_dX12_takeTypes_0_0.1 0 (0, .iconst 0, 1) rfl
theorem dX12_takeTypes_1 : decode cX12_takeTypes 1 = .ok (.istore_n 3, 1) := dr9 dk9_dX12_takeTypes_0_0.1 1 (1, .istore_n 3, 1) rfl
theorem dX12_takeTypes_2 : decode cX12_takeTypes 2 = .ok (.iconst 1, 1) := dr9 dk9_dX12_takeTypes_0_0.1 2 (2, .iconst 1, 1) rfl
theorem dX12_takeTypes_3 : decode cX12_takeTypes 3 = .ok (.istore 4, 2) := dr9 dk9_dX12_takeTypes_0_0.1 3 (3, .istore 4, 2) rfl
theorem dX12_takeTypes_5 : decode cX12_takeTypes 5 = .ok (.iload 4, 2) := dr9 dk9_dX12_takeTypes_0_0.1 4 (5, .iload 4, 2) rfl
theorem dX12_takeTypes_7 : decode cX12_takeTypes 7 = .ok (.ifCond .eq 188, 3) := dr9 dk9_dX12_takeTypes_0_0.1 5 (7, .ifCond .eq 188, 3) rfl
theorem dX12_takeTypes_195 : decode cX12_takeTypes 195 = .ok (.return_, 1) := dr9 dk9_dX12_takeTypes_0_0.1 6 (195, .return_, 1) rfl
theorem dX12_takeTypes_10 : decode cX12_takeTypes 10 = .ok (.aload_n 0, 1) := dr9 dk9_dX12_takeTypes_0_0.1 7 (10, .aload_n 0, 1) rfl
theorem dX12_takeTypes_11 : decode cX12_takeTypes 11 = .ok (.getfield 267, 3) := dr9 dk9_dX12_takeTypes_0_0.1 8 (11, .getfield 267, 3) rfl
theorem dX12_takeTypes_14 : decode cX12_takeTypes 14 = .ok (.ifCond .ne 181, 3) := dr9 dk9_dX12_takeTypes_0_0.1 9 (14, .ifCond .ne 181, 3) rfl
theorem dX12_takeTypes_17 : decode cX12_takeTypes 17 = .ok (.aload_n 0, 1) := dr9 dk9_dX12_takeTypes_0_0.1 10 (17, .aload_n 0, 1) rfl
theorem dX12_takeTypes_18 : decode cX12_takeTypes 18 = .ok (.invokevirtual 325, 3) := dr9 dk9_dX12_takeTypes_0_0.1 11 (18, .invokevirtual 325, 3) rfl
theorem dX12_takeTypes_21 : decode cX12_takeTypes 21 = .ok (.istore 5, 2) := dr9 dk9_dX12_takeTypes_0_0.1 12 (21, .istore 5, 2) rfl
theorem dX12_takeTypes_23 : decode cX12_takeTypes 23 = .ok (.aload_n 0, 1) := dr9 dk9_dX12_takeTypes_0_0.1 13 (23, .aload_n 0, 1) rfl
theorem dX12_takeTypes_24 : decode cX12_takeTypes 24 = .ok (.dup, 1) := dr9 dk9_dX12_takeTypes_0_0.1 14 (24, .dup, 1) rfl
theorem dX12_takeTypes_25 : decode cX12_takeTypes 25 = .ok (.getfield 264, 3) := dr9 dk9_dX12_takeTypes_0_0.1 15 (25, .getfield 264, 3) rfl
theorem dX12_takeTypes_28 : decode cX12_takeTypes 28 = .ok (.iconst 1, 1) := dr9 dk9_dX12_takeTypes_0_0.1 16 (28, .iconst 1, 1) rfl
theorem dX12_takeTypes_29 : decode cX12_takeTypes 29 = .ok (.isub, 1) := dr9 dk9_dX12_takeTypes_0_0.1 17 (29, .isub, 1) rfl
theorem dX12_takeTypes_30 : decode cX12_takeTypes 30 = .ok (.putfield 264, 3) := dr9 dk9_dX12_takeTypes_0_0.1 18 (30, .putfield 264, 3) rfl
theorem dX12_takeTypes_33 : decode cX12_takeTypes 33 = .ok (.iconst 0, 1) := dr9 dk9_dX12_takeTypes_0_0.1 19 (33, .iconst 0, 1) rfl
theorem dX12_takeTypes_34 : decode cX12_takeTypes 34 = .ok (.istore 6, 2) := dr9 dk9_dX12_takeTypes_0_0.1 20 (34, .istore 6, 2) rfl
theorem dX12_takeTypes_36 : decode cX12_takeTypes 36 = .ok (.iload 6, 2) := dr9 dk9_dX12_takeTypes_0_0.1 21 (36, .iload 6, 2) rfl
theorem dX12_takeTypes_38 : decode cX12_takeTypes 38 = .ok (.iload_n 3, 1) := dr9 dk9_dX12_takeTypes_0_0.1 22 (38, .iload_n 3, 1) rfl
theorem dX12_takeTypes_39 : decode cX12_takeTypes 39 = .ok (.if_icmp .ge 33, 3) := dr9 dk9_dX12_takeTypes_0_0.1 23 (39, .if_icmp .ge 33, 3) rfl
theorem dX12_takeTypes_42 : decode cX12_takeTypes 42 = .ok (.aload_n 0, 1) := dr9 dk9_dX12_takeTypes_0_0.2.1 0 (42, .aload_n 0, 1) rfl
theorem dX12_takeTypes_43 : decode cX12_takeTypes 43 = .ok (.getfield 267, 3) := dr9 dk9_dX12_takeTypes_0_0.2.1 1 (43, .getfield 267, 3) rfl
theorem dX12_takeTypes_46 : decode cX12_takeTypes 46 = .ok (.ifCond .ne 26, 3) := dr9 dk9_dX12_takeTypes_0_0.2.1 2 (46, .ifCond .ne 26, 3) rfl
theorem dX12_takeTypes_49 : decode cX12_takeTypes 49 = .ok (.aload_n 0, 1) := dr9 dk9_dX12_takeTypes_0_0.2.1 3 (49, .aload_n 0, 1) rfl
theorem dX12_takeTypes_50 : decode cX12_takeTypes 50 = .ok (.getfield 149, 3) := dr9 dk9_dX12_takeTypes_0_0.2.1 4 (50, .getfield 149, 3) rfl
theorem dX12_takeTypes_53 : decode cX12_takeTypes 53 = .ok (.iload 6, 2) := dr9 dk9_dX12_takeTypes_0_0.2.1 5 (53, .iload 6, 2) rfl
theorem dX12_takeTypes_55 : decode cX12_takeTypes 55 = .ok (.iaload, 1) := dr9 dk9_dX12_takeTypes_0_0.2.1 6 (55, .iaload, 1) rfl
theorem dX12_takeTypes_56 : decode cX12_takeTypes 56 = .ok (.iload 5, 2) := dr9 dk9_dX12_takeTypes_0_0.2.1 7 (56, .iload 5, 2) rfl
theorem dX12_takeTypes_58 : decode cX12_takeTypes 58 = .ok (.if_icmp .ne 8, 3) := dr9 dk9_dX12_takeTypes_0_0.2.1 8 (58, .if_icmp .ne 8, 3) rfl
theorem dX12_takeTypes_66 : decode cX12_takeTypes 66 = .ok (.iinc 6 1, 3) := dr9 dk9_dX12_takeTypes_0_0.2.1 9 (66, .iinc 6 1, 3) rfl
theorem dX12_takeTypes_69 : decode cX12_takeTypes 69 = .ok (.goto (-33), 3) := dr9 dk9_dX12_takeTypes_0_0.2.1 10 (69, .goto (-33), 3) rfl
theorem dX12_takeTypes_61 : decode cX12_takeTypes 61 = .ok (.aload_n 0, 1) := dr9 dk9_dX12_takeTypes_0_0.2.1 11 (61, .aload_n 0, 1) rfl
theorem dX12_takeTypes_62 : decode cX12_takeTypes 62 = .ok (.iconst 3, 1) := dr9 dk9_dX12_takeTypes_0_0.2.1 12 (62, .iconst 3, 1) rfl
theorem dX12_takeTypes_63 : decode cX12_takeTypes 63 = .ok (.invokevirtual 273, 3) := dr9 dk9_dX12_takeTypes_0_0.2.1 13 (63, .invokevirtual 273, 3) rfl
theorem dX12_takeTypes_72 : decode cX12_takeTypes 72 = .ok (.aload_n 0, 1) := dr9 dk9_dX12_takeTypes_0_0.2.1 14 (72, .aload_n 0, 1) rfl
theorem dX12_takeTypes_73 : decode cX12_takeTypes 73 = .ok (.getfield 267, 3) := dr9 dk9_dX12_takeTypes_0_0.2.1 15 (73, .getfield 267, 3) rfl
theorem dX12_takeTypes_76 : decode cX12_takeTypes 76 = .ok (.ifCond .ne 14, 3) := dr9 dk9_dX12_takeTypes_0_0.2.1 16 (76, .ifCond .ne 14, 3) rfl
theorem dX12_takeTypes_79 : decode cX12_takeTypes 79 = .ok (.iload_n 3, 1) := dr9 dk9_dX12_takeTypes_0_0.2.1 17 (79, .iload_n 3, 1) rfl
theorem dX12_takeTypes_80 : decode cX12_takeTypes 80 = .ok (.bipush 6, 2) := dr9 dk9_dX12_takeTypes_0_0.2.1 18 (80, .bipush 6, 2) rfl
theorem dX12_takeTypes_82 : decode cX12_takeTypes 82 = .ok (.if_icmp .ne 8, 3) := dr9 dk9_dX12_takeTypes_0_0.2.1 19 (82, .if_icmp .ne 8, 3) rfl
theorem dX12_takeTypes_85 : decode cX12_takeTypes 85 = .ok (.aload_n 0, 1) := dr9 dk9_dX12_takeTypes_0_0.2.1 20 (85, .aload_n 0, 1) rfl
theorem dX12_takeTypes_86 : decode cX12_takeTypes 86 = .ok (.iconst 5, 1) := dr9 dk9_dX12_takeTypes_0_0.2.1 21 (86, .iconst 5, 1) rfl
theorem dX12_takeTypes_87 : decode cX12_takeTypes 87 = .ok (.invokevirtual 273, 3) := dr9 dk9_dX12_takeTypes_0_0.2.1 22 (87, .invokevirtual 273, 3) rfl
theorem dX12_takeTypes_90 : decode cX12_takeTypes 90 = .ok (.aload_n 0, 1) := dr9 dk9_dX12_takeTypes_0_0.2.1 23 (90, .aload_n 0, 1) rfl
theorem dX12_takeTypes_91 : decode cX12_takeTypes 91 = .ok (.dup, 1) := dr9 dk9_dX12_takeTypes_0_0.2.2.1 0 (91, .dup, 1) rfl
theorem dX12_takeTypes_92 : decode cX12_takeTypes 92 = .ok (.getfield 264, 3) := dr9 dk9_dX12_takeTypes_0_0.2.2.1 1 (92, .getfield 264, 3) rfl
theorem dX12_takeTypes_95 : decode cX12_takeTypes 95 = .ok (.iconst 1, 1) := dr9 dk9_dX12_takeTypes_0_0.2.2.1 2 (95, .iconst 1, 1) rfl
theorem dX12_takeTypes_96 : decode cX12_takeTypes 96 = .ok (.iadd, 1) := dr9 dk9_dX12_takeTypes_0_0.2.2.1 3 (96, .iadd, 1) rfl
theorem dX12_takeTypes_97 : decode cX12_takeTypes 97 = .ok (.putfield 264, 3) := dr9 dk9_dX12_takeTypes_0_0.2.2.1 4 (97, .putfield 264, 3) rfl
theorem dX12_takeTypes_100 : decode cX12_takeTypes 100 = .ok (.aload_n 0, 1) := dr9 dk9_dX12_takeTypes_0_0.2.2.1 5 (100, .aload_n 0, 1) rfl
theorem dX12_takeTypes_101 : decode cX12_takeTypes 101 = .ok (.getfield 267, 3) := dr9 dk9_dX12_takeTypes_0_0.2.2.1 6 (101, .getfield 267, 3) rfl
theorem dX12_takeTypes_104 : decode cX12_takeTypes 104 = .ok (.ifCond .ne 80, 3) := dr9 dk9_dX12_takeTypes_0_0.2.2.1 7 (104, .ifCond .ne 80, 3) rfl
theorem dX12_takeTypes_107 : decode cX12_takeTypes 107 = .ok (.aload_n 0, 1) := dr9 dk9_dX12_takeTypes_0_0.2.2.1 8 (107, .aload_n 0, 1) rfl
theorem dX12_takeTypes_108 : decode cX12_takeTypes 108 = .ok (.getfield 149, 3) := dr9 dk9_dX12_takeTypes_0_0.2.2.1 9 (108, .getfield 149, 3) rfl
theorem dX12_takeTypes_111 : decode cX12_takeTypes 111 = .ok (.iload_n 3, 1) := dr9 dk9_dX12_takeTypes_0_0.2.2.1 10 (111, .iload_n 3, 1) rfl
theorem dX12_takeTypes_112 : decode cX12_takeTypes 112 = .ok (.iload 5, 2) := dr9 dk9_dX12_takeTypes_0_0.2.2.1 11 (112, .iload 5, 2) rfl
theorem dX12_takeTypes_114 : decode cX12_takeTypes 114 = .ok (.iastore, 1) := dr9 dk9_dX12_takeTypes_0_0.2.2.1 12 (114, .iastore, 1) rfl
theorem dX12_takeTypes_115 : decode cX12_takeTypes 115 = .ok (.iinc 3 1, 3) := dr9 dk9_dX12_takeTypes_0_0.2.2.1 13 (115, .iinc 3 1, 3) rfl
theorem dX12_takeTypes_118 : decode cX12_takeTypes 118 = .ok (.iconst 0, 1) := dr9 dk9_dX12_takeTypes_0_0.2.2.1 14 (118, .iconst 0, 1) rfl
theorem dX12_takeTypes_119 : decode cX12_takeTypes 119 = .ok (.istore 6, 2) := dr9 dk9_dX12_takeTypes_0_0.2.2.1 15 (119, .istore 6, 2) rfl
theorem dX12_takeTypes_121 : decode cX12_takeTypes 121 = .ok (.iload 6, 2) := dr9 dk9_dX12_takeTypes_0_0.2.2.1 16 (121, .iload 6, 2) rfl
theorem dX12_takeTypes_123 : decode cX12_takeTypes 123 = .ok (.bipush 24, 2) := dr9 dk9_dX12_takeTypes_0_0.2.2.1 17 (123, .bipush 24, 2) rfl
theorem dX12_takeTypes_125 : decode cX12_takeTypes 125 = .ok (.if_icmp .ge 59, 3) := dr9 dk9_dX12_takeTypes_0_0.2.2.1 18 (125, .if_icmp .ge 59, 3) rfl
theorem dX12_takeTypes_128 : decode cX12_takeTypes 128 = .ok (.aload_n 1, 1) := dr9 dk9_dX12_takeTypes_0_0.2.2.1 19 (128, .aload_n 1, 1) rfl
theorem dX12_takeTypes_129 : decode cX12_takeTypes 129 = .ok (.bipush 24, 2) := dr9 dk9_dX12_takeTypes_0_0.2.2.1 20 (129, .bipush 24, 2) rfl
theorem dX12_takeTypes_131 : decode cX12_takeTypes 131 = .ok (.iload_n 2, 1) := dr9 dk9_dX12_takeTypes_0_0.2.2.1 21 (131, .iload_n 2, 1) rfl
theorem dX12_takeTypes_132 : decode cX12_takeTypes 132 = .ok (.imul, 1) := dr9 dk9_dX12_takeTypes_0_0.2.2.1 22 (132, .imul, 1) rfl
theorem dX12_takeTypes_133 : decode cX12_takeTypes 133 = .ok (.iload 6, 2) := dr9 dk9_dX12_takeTypes_0_0.2.2.1 23 (133, .iload 6, 2) rfl
theorem dX12_takeTypes_135 : decode cX12_takeTypes 135 = .ok (.iadd, 1) := dr9 dk9_dX12_takeTypes_0_0.2.2.2.1 0 (135, .iadd, 1) rfl
theorem dX12_takeTypes_136 : decode cX12_takeTypes 136 = .ok (.aload_n 1, 1) := dr9 dk9_dX12_takeTypes_0_0.2.2.2.1 1 (136, .aload_n 1, 1) rfl
theorem dX12_takeTypes_137 : decode cX12_takeTypes 137 = .ok (.bipush 24, 2) := dr9 dk9_dX12_takeTypes_0_0.2.2.2.1 2 (137, .bipush 24, 2) rfl
theorem dX12_takeTypes_139 : decode cX12_takeTypes 139 = .ok (.iload_n 2, 1) := dr9 dk9_dX12_takeTypes_0_0.2.2.2.1 3 (139, .iload_n 2, 1) rfl
theorem dX12_takeTypes_140 : decode cX12_takeTypes 140 = .ok (.imul, 1) := dr9 dk9_dX12_takeTypes_0_0.2.2.2.1 4 (140, .imul, 1) rfl
theorem dX12_takeTypes_141 : decode cX12_takeTypes 141 = .ok (.iload 6, 2) := dr9 dk9_dX12_takeTypes_0_0.2.2.2.1 5 (141, .iload 6, 2) rfl
theorem dX12_takeTypes_143 : decode cX12_takeTypes 143 = .ok (.iadd, 1) := dr9 dk9_dX12_takeTypes_0_0.2.2.2.1 6 (143, .iadd, 1) rfl
theorem dX12_takeTypes_144 : decode cX12_takeTypes 144 = .ok (.baload, 1) := dr9 dk9_dX12_takeTypes_0_0.2.2.2.1 7 (144, .baload, 1) rfl
theorem dX12_takeTypes_145 : decode cX12_takeTypes 145 = .ok (.ifCond .ne 27, 3) := dr9 dk9_dX12_takeTypes_0_0.2.2.2.1 8 (145, .ifCond .ne 27, 3) rfl
theorem dX12_takeTypes_172 : decode cX12_takeTypes 172 = .ok (.iconst 1, 1) := dr9 dk9_dX12_takeTypes_0_0.2.2.2.1 9 (172, .iconst 1, 1) rfl
theorem dX12_takeTypes_173 : decode cX12_takeTypes 173 = .ok (.goto 4, 3) := dr9 dk9_dX12_takeTypes_0_0.2.2.2.1 10 (173, .goto 4, 3) rfl
theorem dX12_takeTypes_177 : decode cX12_takeTypes 177 = .ok (.bastore, 1) := dr9 dk9_dX12_takeTypes_0_0.2.2.2.1 11 (177, .bastore, 1) rfl
theorem dX12_takeTypes_178 : decode cX12_takeTypes 178 = .ok (.iinc 6 1, 3) := dr9 dk9_dX12_takeTypes_0_0.2.2.2.1 12 (178, .iinc 6 1, 3) rfl
theorem dX12_takeTypes_181 : decode cX12_takeTypes 181 = .ok (.goto (-60), 3) := dr9 dk9_dX12_takeTypes_0_0.2.2.2.1 13 (181, .goto (-60), 3) rfl
theorem dX12_takeTypes_148 : decode cX12_takeTypes 148 = .ok (.aload_n 0, 1) := dr9 dk9_dX12_takeTypes_0_0.2.2.2.1 14 (148, .aload_n 0, 1) rfl
theorem dX12_takeTypes_149 : decode cX12_takeTypes 149 = .ok (.getfield 49, 3) := dr9 dk9_dX12_takeTypes_0_0.2.2.2.1 15 (149, .getfield 49, 3) rfl
theorem dX12_takeTypes_152 : decode cX12_takeTypes 152 = .ok (.bipush 24, 2) := dr9 dk9_dX12_takeTypes_0_0.2.2.2.1 16 (152, .bipush 24, 2) rfl
theorem dX12_takeTypes_154 : decode cX12_takeTypes 154 = .ok (.bipush 24, 2) := dr9 dk9_dX12_takeTypes_0_0.2.2.2.1 17 (154, .bipush 24, 2) rfl
theorem dX12_takeTypes_156 : decode cX12_takeTypes 156 = .ok (.aload_n 0, 1) := dr9 dk9_dX12_takeTypes_0_0.2.2.2.1 18 (156, .aload_n 0, 1) rfl
theorem dX12_takeTypes_157 : decode cX12_takeTypes 157 = .ok (.getfield 289, 3) := dr9 dk9_dX12_takeTypes_0_0.2.2.2.1 19 (157, .getfield 289, 3) rfl
theorem dX12_takeTypes_160 : decode cX12_takeTypes 160 = .ok (.imul, 1) := dr9 dk9_dX12_takeTypes_0_0.2.2.2.1 20 (160, .imul, 1) rfl
theorem dX12_takeTypes_161 : decode cX12_takeTypes 161 = .ok (.iload 5, 2) := dr9 dk9_dX12_takeTypes_0_0.2.2.2.1 21 (161, .iload 5, 2) rfl
theorem dX12_takeTypes_163 : decode cX12_takeTypes 163 = .ok (.iadd, 1) := dr9 dk9_dX12_takeTypes_0_0.2.2.2.1 22 (163, .iadd, 1) rfl
theorem dX12_takeTypes_164 : decode cX12_takeTypes 164 = .ok (.imul, 1) := dr9 dk9_dX12_takeTypes_0_0.2.2.2.1 23 (164, .imul, 1) rfl
theorem dX12_takeTypes_165 : decode cX12_takeTypes 165 = .ok (.iload 6, 2) := dr9 dk9_dX12_takeTypes_0_0.2.2.2.2 0 (165, .iload 6, 2) rfl
theorem dX12_takeTypes_167 : decode cX12_takeTypes 167 = .ok (.iadd, 1) := dr9 dk9_dX12_takeTypes_0_0.2.2.2.2 1 (167, .iadd, 1) rfl
theorem dX12_takeTypes_168 : decode cX12_takeTypes 168 = .ok (.baload, 1) := dr9 dk9_dX12_takeTypes_0_0.2.2.2.2 2 (168, .baload, 1) rfl
theorem dX12_takeTypes_169 : decode cX12_takeTypes 169 = .ok (.ifCond .eq 7, 3) := dr9 dk9_dX12_takeTypes_0_0.2.2.2.2 3 (169, .ifCond .eq 7, 3) rfl
theorem dX12_takeTypes_176 : decode cX12_takeTypes 176 = .ok (.iconst 0, 1) := dr9 dk9_dX12_takeTypes_0_0.2.2.2.2 4 (176, .iconst 0, 1) rfl
theorem dX12_takeTypes_184 : decode cX12_takeTypes 184 = .ok (.aload_n 0, 1) := dr9 dk9_dX12_takeTypes_0_0.2.2.2.2 5 (184, .aload_n 0, 1) rfl
theorem dX12_takeTypes_185 : decode cX12_takeTypes 185 = .ok (.bipush 44, 2) := dr9 dk9_dX12_takeTypes_0_0.2.2.2.2 6 (185, .bipush 44, 2) rfl
theorem dX12_takeTypes_187 : decode cX12_takeTypes 187 = .ok (.invokevirtual 328, 3) := dr9 dk9_dX12_takeTypes_0_0.2.2.2.2 7 (187, .invokevirtual 328, 3) rfl
theorem dX12_takeTypes_190 : decode cX12_takeTypes 190 = .ok (.istore 4, 2) := dr9 dk9_dX12_takeTypes_0_0.2.2.2.2 8 (190, .istore 4, 2) rfl
theorem dX12_takeTypes_192 : decode cX12_takeTypes 192 = .ok (.goto (-187), 3) := dr9 dk9_dX12_takeTypes_0_0.2.2.2.2 9 (192, .goto (-187), 3) rfl
theorem dk9_dX12_toldType_0_0 : dOk cX12_toldType [(0, .bipush 24, 2), (2, .aload_n 0, 1), (3, .getfield 289, 3), (6, .imul, 1), (7, .aload_n 0, 1), (8, .getfield 43, 3), (11, .aload_n 0, 1), (12, .getfield 289, 3), (15, .iaload, 1), (16, .iadd, 1), (17, .istore_n 1, 1), (18, .aload_n 0, 1), (19, .aload_n 0, 1), (20, .getfield 43, 3), (23, .aload_n 0, 1), (24, .getfield 289, 3), (27, .iaload, 1), (28, .bipush 24, 2), (30, .if_icmp .ne 7, 3), (37, .iconst 0, 1), (38, .invokevirtual 331, 3), (41, .aload_n 0, 1), (42, .getfield 267, 3), (45, .ifCond .le 4, 3)] = true ∧ dOk cX12_toldType [(49, .aload_n 0, 1), (50, .invokevirtual 335, 3), (53, .lstore_n 2, 1), (54, .iconst 0, 1), (55, .istore 4, 2), (57, .iload 4, 2), (59, .bipush 24, 2), (61, .if_icmp .ge 40, 3), (64, .aload_n 0, 1), (65, .getfield 49, 3), (68, .bipush 24, 2), (70, .iload_n 1, 1), (71, .imul, 1), (72, .iload 4, 2), (74, .iadd, 1), (75, .iload 4, 2), (77, .aload_n 0, 1), (78, .getfield 43, 3), (81, .aload_n 0, 1), (82, .getfield 289, 3), (85, .iaload, 1), (86, .if_icmp .ne 7, 3), (93, .iconst 0, 1), (94, .bastore, 1)] = true ∧ dOk cX12_toldType [(95, .iinc 4 1, 3), (98, .goto (-41), 3), (89, .iconst 1, 1), (90, .goto 4, 3), (101, .aload_n 0, 1), (102, .iconst 1, 1), (103, .invokevirtual 280, 3), (106, .ifCond .eq 12, 3), (109, .aload_n 0, 1), (110, .aload_n 0, 1), (111, .getfield 49, 3), (114, .iload_n 1, 1), (115, .invokevirtual 339, 3), (118, .aload_n 0, 1), (119, .bipush 59, 2), (121, .invokevirtual 343, 3), (124, .aload_n 0, 1), (125, .getfield 46, 3), (128, .iload_n 1, 1), (129, .lload_n 2, 1), (130, .lastore, 1), (131, .aload_n 0, 1), (132, .getfield 43, 3), (135, .aload_n 0, 1)] = true ∧ dOk cX12_toldType [(136, .getfield 289, 3), (139, .dup2, 1), (140, .iaload, 1), (141, .iconst 1, 1), (142, .iadd, 1), (143, .iastore, 1), (144, .return_, 1), (48, .return_, 1), (33, .iconst 1, 1), (34, .goto 4, 3)] = true := by decide +kernel
theorem dX12_toldType_0 : decode cX12_toldType 0 = .ok (.bipush 24, 2) := dr9 dk9_dX12_toldType_0_0.1 0 (0, .bipush 24, 2) rfl
theorem dX12_toldType_2 : decode cX12_toldType 2 = .ok (.aload_n 0, 1) := dr9 dk9_dX12_toldType_0_0.1 1 (2, .aload_n 0, 1) rfl
theorem dX12_toldType_3 : decode cX12_toldType 3 = .ok (.getfield 289, 3) := dr9 dk9_dX12_toldType_0_0.1 2 (3, .getfield 289, 3) rfl
theorem dX12_toldType_6 : decode cX12_toldType 6 = .ok (.imul, 1) := dr9 dk9_dX12_toldType_0_0.1 3 (6, .imul, 1) rfl
theorem dX12_toldType_7 : decode cX12_toldType 7 = .ok (.aload_n 0, 1) := dr9 dk9_dX12_toldType_0_0.1 4 (7, .aload_n 0, 1) rfl
theorem dX12_toldType_8 : decode cX12_toldType 8 = .ok (.getfield 43, 3) := dr9 dk9_dX12_toldType_0_0.1 5 (8, .getfield 43, 3) rfl
theorem dX12_toldType_11 : decode cX12_toldType 11 = .ok (.aload_n 0, 1) := dr9 dk9_dX12_toldType_0_0.1 6 (11, .aload_n 0, 1) rfl
theorem dX12_toldType_12 : decode cX12_toldType 12 = .ok (.getfield 289, 3) := dr9 dk9_dX12_toldType_0_0.1 7 (12, .getfield 289, 3) rfl
theorem dX12_toldType_15 : decode cX12_toldType 15 = .ok (.iaload, 1) := dr9 dk9_dX12_toldType_0_0.1 8 (15, .iaload, 1) rfl
theorem dX12_toldType_16 : decode cX12_toldType 16 = .ok (.iadd, 1) := dr9 dk9_dX12_toldType_0_0.1 9 (16, .iadd, 1) rfl
theorem dX12_toldType_17 : decode cX12_toldType 17 = .ok (.istore_n 1, 1) := dr9 dk9_dX12_toldType_0_0.1 10 (17, .istore_n 1, 1) rfl
theorem dX12_toldType_18 : decode cX12_toldType 18 = .ok (.aload_n 0, 1) := dr9 dk9_dX12_toldType_0_0.1 11 (18, .aload_n 0, 1) rfl
theorem dX12_toldType_19 : decode cX12_toldType 19 = .ok (.aload_n 0, 1) := dr9 dk9_dX12_toldType_0_0.1 12 (19, .aload_n 0, 1) rfl
theorem dX12_toldType_20 : decode cX12_toldType 20 = .ok (.getfield 43, 3) := dr9 dk9_dX12_toldType_0_0.1 13 (20, .getfield 43, 3) rfl
theorem dX12_toldType_23 : decode cX12_toldType 23 = .ok (.aload_n 0, 1) := dr9 dk9_dX12_toldType_0_0.1 14 (23, .aload_n 0, 1) rfl
theorem dX12_toldType_24 : decode cX12_toldType 24 = .ok (.getfield 289, 3) := dr9 dk9_dX12_toldType_0_0.1 15 (24, .getfield 289, 3) rfl
theorem dX12_toldType_27 : decode cX12_toldType 27 = .ok (.iaload, 1) := dr9 dk9_dX12_toldType_0_0.1 16 (27, .iaload, 1) rfl
theorem dX12_toldType_28 : decode cX12_toldType 28 = .ok (.bipush 24, 2) := dr9 dk9_dX12_toldType_0_0.1 17 (28, .bipush 24, 2) rfl
theorem dX12_toldType_30 : decode cX12_toldType 30 = .ok (.if_icmp .ne 7, 3) := dr9 dk9_dX12_toldType_0_0.1 18 (30, .if_icmp .ne 7, 3) rfl
theorem dX12_toldType_37 : decode cX12_toldType 37 = .ok (.iconst 0, 1) := dr9 dk9_dX12_toldType_0_0.1 19 (37, .iconst 0, 1) rfl
theorem dX12_toldType_38 : decode cX12_toldType 38 = .ok (.invokevirtual 331, 3) := dr9 dk9_dX12_toldType_0_0.1 20 (38, .invokevirtual 331, 3) rfl
theorem dX12_toldType_41 : decode cX12_toldType 41 = .ok (.aload_n 0, 1) := dr9 dk9_dX12_toldType_0_0.1 21 (41, .aload_n 0, 1) rfl
theorem dX12_toldType_42 : decode cX12_toldType 42 = .ok (.getfield 267, 3) := dr9 dk9_dX12_toldType_0_0.1 22 (42, .getfield 267, 3) rfl
theorem dX12_toldType_45 : decode cX12_toldType 45 = .ok (.ifCond .le 4, 3) := dr9 dk9_dX12_toldType_0_0.1 23 (45, .ifCond .le 4, 3) rfl
theorem dX12_toldType_49 : decode cX12_toldType 49 = .ok (.aload_n 0, 1) := dr9 dk9_dX12_toldType_0_0.2.1 0 (49, .aload_n 0, 1) rfl
theorem dX12_toldType_50 : decode cX12_toldType 50 = .ok (.invokevirtual 335, 3) := dr9 dk9_dX12_toldType_0_0.2.1 1 (50, .invokevirtual 335, 3) rfl
theorem dX12_toldType_53 : decode cX12_toldType 53 = .ok (.lstore_n 2, 1) := dr9 dk9_dX12_toldType_0_0.2.1 2 (53, .lstore_n 2, 1) rfl
theorem dX12_toldType_54 : decode cX12_toldType 54 = .ok (.iconst 0, 1) := dr9 dk9_dX12_toldType_0_0.2.1 3 (54, .iconst 0, 1) rfl
theorem dX12_toldType_55 : decode cX12_toldType 55 = .ok (.istore 4, 2) := dr9 dk9_dX12_toldType_0_0.2.1 4 (55, .istore 4, 2) rfl
theorem dX12_toldType_57 : decode cX12_toldType 57 = .ok (.iload 4, 2) := dr9 dk9_dX12_toldType_0_0.2.1 5 (57, .iload 4, 2) rfl
theorem dX12_toldType_59 : decode cX12_toldType 59 = .ok (.bipush 24, 2) := dr9 dk9_dX12_toldType_0_0.2.1 6 (59, .bipush 24, 2) rfl
theorem dX12_toldType_61 : decode cX12_toldType 61 = .ok (.if_icmp .ge 40, 3) := dr9 dk9_dX12_toldType_0_0.2.1 7 (61, .if_icmp .ge 40, 3) rfl
theorem dX12_toldType_64 : decode cX12_toldType 64 = .ok (.aload_n 0, 1) := dr9 dk9_dX12_toldType_0_0.2.1 8 (64, .aload_n 0, 1) rfl
theorem dX12_toldType_65 : decode cX12_toldType 65 = .ok (.getfield 49, 3) := dr9 dk9_dX12_toldType_0_0.2.1 9 (65, .getfield 49, 3) rfl
theorem dX12_toldType_68 : decode cX12_toldType 68 = .ok (.bipush 24, 2) := dr9 dk9_dX12_toldType_0_0.2.1 10 (68, .bipush 24, 2) rfl
theorem dX12_toldType_70 : decode cX12_toldType 70 = .ok (.iload_n 1, 1) := dr9 dk9_dX12_toldType_0_0.2.1 11 (70, .iload_n 1, 1) rfl
theorem dX12_toldType_71 : decode cX12_toldType 71 = .ok (.imul, 1) := dr9 dk9_dX12_toldType_0_0.2.1 12 (71, .imul, 1) rfl
theorem dX12_toldType_72 : decode cX12_toldType 72 = .ok (.iload 4, 2) := dr9 dk9_dX12_toldType_0_0.2.1 13 (72, .iload 4, 2) rfl
theorem dX12_toldType_74 : decode cX12_toldType 74 = .ok (.iadd, 1) := dr9 dk9_dX12_toldType_0_0.2.1 14 (74, .iadd, 1) rfl
theorem dX12_toldType_75 : decode cX12_toldType 75 = .ok (.iload 4, 2) := dr9 dk9_dX12_toldType_0_0.2.1 15 (75, .iload 4, 2) rfl
theorem dX12_toldType_77 : decode cX12_toldType 77 = .ok (.aload_n 0, 1) := dr9 dk9_dX12_toldType_0_0.2.1 16 (77, .aload_n 0, 1) rfl
theorem dX12_toldType_78 : decode cX12_toldType 78 = .ok (.getfield 43, 3) := dr9 dk9_dX12_toldType_0_0.2.1 17 (78, .getfield 43, 3) rfl
theorem dX12_toldType_81 : decode cX12_toldType 81 = .ok (.aload_n 0, 1) := dr9 dk9_dX12_toldType_0_0.2.1 18 (81, .aload_n 0, 1) rfl
theorem dX12_toldType_82 : decode cX12_toldType 82 = .ok (.getfield 289, 3) := dr9 dk9_dX12_toldType_0_0.2.1 19 (82, .getfield 289, 3) rfl
theorem dX12_toldType_85 : decode cX12_toldType 85 = .ok (.iaload, 1) := dr9 dk9_dX12_toldType_0_0.2.1 20 (85, .iaload, 1) rfl
theorem dX12_toldType_86 : decode cX12_toldType 86 = .ok (.if_icmp .ne 7, 3) := dr9 dk9_dX12_toldType_0_0.2.1 21 (86, .if_icmp .ne 7, 3) rfl
theorem dX12_toldType_93 : decode cX12_toldType 93 = .ok (.iconst 0, 1) := dr9 dk9_dX12_toldType_0_0.2.1 22 (93, .iconst 0, 1) rfl
theorem dX12_toldType_94 : decode cX12_toldType 94 = .ok (.bastore, 1) := dr9 dk9_dX12_toldType_0_0.2.1 23 (94, .bastore, 1) rfl
theorem dX12_toldType_95 : decode cX12_toldType 95 = .ok (.iinc 4 1, 3) := dr9 dk9_dX12_toldType_0_0.2.2.1 0 (95, .iinc 4 1, 3) rfl
theorem dX12_toldType_98 : decode cX12_toldType 98 = .ok (.goto (-41), 3) := dr9 dk9_dX12_toldType_0_0.2.2.1 1 (98, .goto (-41), 3) rfl
theorem dX12_toldType_89 : decode cX12_toldType 89 = .ok (.iconst 1, 1) := dr9 dk9_dX12_toldType_0_0.2.2.1 2 (89, .iconst 1, 1) rfl
theorem dX12_toldType_90 : decode cX12_toldType 90 = .ok (.goto 4, 3) := dr9 dk9_dX12_toldType_0_0.2.2.1 3 (90, .goto 4, 3) rfl
theorem dX12_toldType_101 : decode cX12_toldType 101 = .ok (.aload_n 0, 1) := dr9 dk9_dX12_toldType_0_0.2.2.1 4 (101, .aload_n 0, 1) rfl
theorem dX12_toldType_102 : decode cX12_toldType 102 = .ok (.iconst 1, 1) := dr9 dk9_dX12_toldType_0_0.2.2.1 5 (102, .iconst 1, 1) rfl
theorem dX12_toldType_103 : decode cX12_toldType 103 = .ok (.invokevirtual 280, 3) := dr9 dk9_dX12_toldType_0_0.2.2.1 6 (103, .invokevirtual 280, 3) rfl
theorem dX12_toldType_106 : decode cX12_toldType 106 = .ok (.ifCond .eq 12, 3) := dr9 dk9_dX12_toldType_0_0.2.2.1 7 (106, .ifCond .eq 12, 3) rfl
theorem dX12_toldType_109 : decode cX12_toldType 109 = .ok (.aload_n 0, 1) := dr9 dk9_dX12_toldType_0_0.2.2.1 8 (109, .aload_n 0, 1) rfl
theorem dX12_toldType_110 : decode cX12_toldType 110 = .ok (.aload_n 0, 1) := dr9 dk9_dX12_toldType_0_0.2.2.1 9 (110, .aload_n 0, 1) rfl
theorem dX12_toldType_111 : decode cX12_toldType 111 = .ok (.getfield 49, 3) := dr9 dk9_dX12_toldType_0_0.2.2.1 10 (111, .getfield 49, 3) rfl
theorem dX12_toldType_114 : decode cX12_toldType 114 = .ok (.iload_n 1, 1) := dr9 dk9_dX12_toldType_0_0.2.2.1 11 (114, .iload_n 1, 1) rfl
theorem dX12_toldType_115 : decode cX12_toldType 115 = .ok (.invokevirtual 339, 3) := dr9 dk9_dX12_toldType_0_0.2.2.1 12 (115, .invokevirtual 339, 3) rfl
theorem dX12_toldType_118 : decode cX12_toldType 118 = .ok (.aload_n 0, 1) := dr9 dk9_dX12_toldType_0_0.2.2.1 13 (118, .aload_n 0, 1) rfl
theorem dX12_toldType_119 : decode cX12_toldType 119 = .ok (.bipush 59, 2) := dr9 dk9_dX12_toldType_0_0.2.2.1 14 (119, .bipush 59, 2) rfl
theorem dX12_toldType_121 : decode cX12_toldType 121 = .ok (.invokevirtual 343, 3) := dr9 dk9_dX12_toldType_0_0.2.2.1 15 (121, .invokevirtual 343, 3) rfl
theorem dX12_toldType_124 : decode cX12_toldType 124 = .ok (.aload_n 0, 1) := dr9 dk9_dX12_toldType_0_0.2.2.1 16 (124, .aload_n 0, 1) rfl
theorem dX12_toldType_125 : decode cX12_toldType 125 = .ok (.getfield 46, 3) := dr9 dk9_dX12_toldType_0_0.2.2.1 17 (125, .getfield 46, 3) rfl
theorem dX12_toldType_128 : decode cX12_toldType 128 = .ok (.iload_n 1, 1) := dr9 dk9_dX12_toldType_0_0.2.2.1 18 (128, .iload_n 1, 1) rfl
theorem dX12_toldType_129 : decode cX12_toldType 129 = .ok (.lload_n 2, 1) := dr9 dk9_dX12_toldType_0_0.2.2.1 19 (129, .lload_n 2, 1) rfl
theorem dX12_toldType_130 : decode cX12_toldType 130 = .ok (.lastore, 1) := dr9 dk9_dX12_toldType_0_0.2.2.1 20 (130, .lastore, 1) rfl
theorem dX12_toldType_131 : decode cX12_toldType 131 = .ok (.aload_n 0, 1) := dr9 dk9_dX12_toldType_0_0.2.2.1 21 (131, .aload_n 0, 1) rfl
theorem dX12_toldType_132 : decode cX12_toldType 132 = .ok (.getfield 43, 3) := dr9 dk9_dX12_toldType_0_0.2.2.1 22 (132, .getfield 43, 3) rfl
theorem dX12_toldType_135 : decode cX12_toldType 135 = .ok (.aload_n 0, 1) := dr9 dk9_dX12_toldType_0_0.2.2.1 23 (135, .aload_n 0, 1) rfl
theorem dX12_toldType_136 : decode cX12_toldType 136 = .ok (.getfield 289, 3) := dr9 dk9_dX12_toldType_0_0.2.2.2 0 (136, .getfield 289, 3) rfl
theorem dX12_toldType_139 : decode cX12_toldType 139 = .ok (.dup2, 1) := dr9 dk9_dX12_toldType_0_0.2.2.2 1 (139, .dup2, 1) rfl
theorem dX12_toldType_140 : decode cX12_toldType 140 = .ok (.iaload, 1) := dr9 dk9_dX12_toldType_0_0.2.2.2 2 (140, .iaload, 1) rfl
theorem dX12_toldType_141 : decode cX12_toldType 141 = .ok (.iconst 1, 1) := dr9 dk9_dX12_toldType_0_0.2.2.2 3 (141, .iconst 1, 1) rfl
theorem dX12_toldType_142 : decode cX12_toldType 142 = .ok (.iadd, 1) := dr9 dk9_dX12_toldType_0_0.2.2.2 4 (142, .iadd, 1) rfl
theorem dX12_toldType_143 : decode cX12_toldType 143 = .ok (.iastore, 1) := dr9 dk9_dX12_toldType_0_0.2.2.2 5 (143, .iastore, 1) rfl
theorem dX12_toldType_144 : decode cX12_toldType 144 = .ok (.return_, 1) := dr9 dk9_dX12_toldType_0_0.2.2.2 6 (144, .return_, 1) rfl
theorem dX12_toldType_48 : decode cX12_toldType 48 = .ok (.return_, 1) := dr9 dk9_dX12_toldType_0_0.2.2.2 7 (48, .return_, 1) rfl
theorem dX12_toldType_33 : decode cX12_toldType 33 = .ok (.iconst 1, 1) := dr9 dk9_dX12_toldType_0_0.2.2.2 8 (33, .iconst 1, 1) rfl
theorem dX12_toldType_34 : decode cX12_toldType 34 = .ok (.goto 4, 3) := dr9 dk9_dX12_toldType_0_0.2.2.2 9 (34, .goto 4, 3) rfl
theorem dk9_dX12_toldSetting_0_0 : dOk cX12_toldSetting [(0, .bipush 12, 2), (2, .aload_n 0, 1), (3, .getfield 289, 3), (6, .imul, 1), (7, .aload_n 0, 1), (8, .getfield 53, 3), (11, .aload_n 0, 1), (12, .getfield 289, 3), (15, .iaload, 1), (16, .iadd, 1), (17, .istore_n 1, 1), (18, .aload_n 0, 1), (19, .aload_n 0, 1), (20, .getfield 53, 3), (23, .aload_n 0, 1), (24, .getfield 289, 3), (27, .iaload, 1), (28, .bipush 12, 2), (30, .if_icmp .ne 7, 3), (37, .iconst 0, 1), (38, .invokevirtual 331, 3), (41, .aload_n 0, 1), (42, .getfield 267, 3), (45, .ifCond .le 4, 3)] = true ∧ dOk cX12_toldSetting [(49, .aload_n 0, 1), (50, .getfield 56, 3), (53, .iload_n 1, 1), (54, .aload_n 0, 1), (55, .invokevirtual 335, 3), (58, .lastore, 1), (59, .aload_n 0, 1), (60, .getfield 59, 3), (63, .iload_n 1, 1), (64, .aload_n 0, 1), (65, .iconst 0, 1), (66, .ldc_w 346, 3), (69, .invokevirtual 347, 3), (72, .iastore, 1), (73, .aload_n 0, 1), (74, .bipush 59, 2), (76, .invokevirtual 343, 3), (79, .aload_n 0, 1), (80, .getfield 53, 3), (83, .aload_n 0, 1), (84, .getfield 289, 3), (87, .dup2, 1), (88, .iaload, 1), (89, .iconst 1, 1)] = true ∧ dOk cX12_toldSetting [(90, .iadd, 1), (91, .iastore, 1), (92, .return_, 1), (48, .return_, 1), (33, .iconst 1, 1), (34, .goto 4, 3)] = true := by decide +kernel
theorem dX12_toldSetting_0 : decode cX12_toldSetting 0 = .ok (.bipush 12, 2) := dr9 dk9_dX12_toldSetting_0_0.1 0 (0, .bipush 12, 2) rfl
theorem dX12_toldSetting_2 : decode cX12_toldSetting 2 = .ok (.aload_n 0, 1) := dr9 dk9_dX12_toldSetting_0_0.1 1 (2, .aload_n 0, 1) rfl
theorem dX12_toldSetting_3 : decode cX12_toldSetting 3 = .ok (.getfield 289, 3) := dr9 dk9_dX12_toldSetting_0_0.1 2 (3, .getfield 289, 3) rfl
theorem dX12_toldSetting_6 : decode cX12_toldSetting 6 = .ok (.imul, 1) := dr9 dk9_dX12_toldSetting_0_0.1 3 (6, .imul, 1) rfl
theorem dX12_toldSetting_7 : decode cX12_toldSetting 7 = .ok (.aload_n 0, 1) := dr9 dk9_dX12_toldSetting_0_0.1 4 (7, .aload_n 0, 1) rfl
theorem dX12_toldSetting_8 : decode cX12_toldSetting 8 = .ok (.getfield 53, 3) := dr9 dk9_dX12_toldSetting_0_0.1 5 (8, .getfield 53, 3) rfl
theorem dX12_toldSetting_11 : decode cX12_toldSetting 11 = .ok (.aload_n 0, 1) := dr9 dk9_dX12_toldSetting_0_0.1 6 (11, .aload_n 0, 1) rfl
theorem dX12_toldSetting_12 : decode cX12_toldSetting 12 = .ok (.getfield 289, 3) := dr9 dk9_dX12_toldSetting_0_0.1 7 (12, .getfield 289, 3) rfl
theorem dX12_toldSetting_15 : decode cX12_toldSetting 15 = .ok (.iaload, 1) := dr9 dk9_dX12_toldSetting_0_0.1 8 (15, .iaload, 1) rfl
theorem dX12_toldSetting_16 : decode cX12_toldSetting 16 = .ok (.iadd, 1) := dr9 dk9_dX12_toldSetting_0_0.1 9 (16, .iadd, 1) rfl
theorem dX12_toldSetting_17 : decode cX12_toldSetting 17 = .ok (.istore_n 1, 1) := dr9 dk9_dX12_toldSetting_0_0.1 10 (17, .istore_n 1, 1) rfl
theorem dX12_toldSetting_18 : decode cX12_toldSetting 18 = .ok (.aload_n 0, 1) := dr9 dk9_dX12_toldSetting_0_0.1 11 (18, .aload_n 0, 1) rfl
theorem dX12_toldSetting_19 : decode cX12_toldSetting 19 = .ok (.aload_n 0, 1) := dr9 dk9_dX12_toldSetting_0_0.1 12 (19, .aload_n 0, 1) rfl
theorem dX12_toldSetting_20 : decode cX12_toldSetting 20 = .ok (.getfield 53, 3) := dr9 dk9_dX12_toldSetting_0_0.1 13 (20, .getfield 53, 3) rfl
theorem dX12_toldSetting_23 : decode cX12_toldSetting 23 = .ok (.aload_n 0, 1) := dr9 dk9_dX12_toldSetting_0_0.1 14 (23, .aload_n 0, 1) rfl
theorem dX12_toldSetting_24 : decode cX12_toldSetting 24 = .ok (.getfield 289, 3) := dr9 dk9_dX12_toldSetting_0_0.1 15 (24, .getfield 289, 3) rfl
theorem dX12_toldSetting_27 : decode cX12_toldSetting 27 = .ok (.iaload, 1) := dr9 dk9_dX12_toldSetting_0_0.1 16 (27, .iaload, 1) rfl
theorem dX12_toldSetting_28 : decode cX12_toldSetting 28 = .ok (.bipush 12, 2) := dr9 dk9_dX12_toldSetting_0_0.1 17 (28, .bipush 12, 2) rfl
theorem dX12_toldSetting_30 : decode cX12_toldSetting 30 = .ok (.if_icmp .ne 7, 3) := dr9 dk9_dX12_toldSetting_0_0.1 18 (30, .if_icmp .ne 7, 3) rfl
theorem dX12_toldSetting_37 : decode cX12_toldSetting 37 = .ok (.iconst 0, 1) := dr9 dk9_dX12_toldSetting_0_0.1 19 (37, .iconst 0, 1) rfl
theorem dX12_toldSetting_38 : decode cX12_toldSetting 38 = .ok (.invokevirtual 331, 3) := dr9 dk9_dX12_toldSetting_0_0.1 20 (38, .invokevirtual 331, 3) rfl
theorem dX12_toldSetting_41 : decode cX12_toldSetting 41 = .ok (.aload_n 0, 1) := dr9 dk9_dX12_toldSetting_0_0.1 21 (41, .aload_n 0, 1) rfl
theorem dX12_toldSetting_42 : decode cX12_toldSetting 42 = .ok (.getfield 267, 3) := dr9 dk9_dX12_toldSetting_0_0.1 22 (42, .getfield 267, 3) rfl
theorem dX12_toldSetting_45 : decode cX12_toldSetting 45 = .ok (.ifCond .le 4, 3) := dr9 dk9_dX12_toldSetting_0_0.1 23 (45, .ifCond .le 4, 3) rfl
theorem dX12_toldSetting_49 : decode cX12_toldSetting 49 = .ok (.aload_n 0, 1) := dr9 dk9_dX12_toldSetting_0_0.2.1 0 (49, .aload_n 0, 1) rfl
theorem dX12_toldSetting_50 : decode cX12_toldSetting 50 = .ok (.getfield 56, 3) := dr9 dk9_dX12_toldSetting_0_0.2.1 1 (50, .getfield 56, 3) rfl
theorem dX12_toldSetting_53 : decode cX12_toldSetting 53 = .ok (.iload_n 1, 1) := dr9 dk9_dX12_toldSetting_0_0.2.1 2 (53, .iload_n 1, 1) rfl
theorem dX12_toldSetting_54 : decode cX12_toldSetting 54 = .ok (.aload_n 0, 1) := dr9 dk9_dX12_toldSetting_0_0.2.1 3 (54, .aload_n 0, 1) rfl
theorem dX12_toldSetting_55 : decode cX12_toldSetting 55 = .ok (.invokevirtual 335, 3) := dr9 dk9_dX12_toldSetting_0_0.2.1 4 (55, .invokevirtual 335, 3) rfl
theorem dX12_toldSetting_58 : decode cX12_toldSetting 58 = .ok (.lastore, 1) := dr9 dk9_dX12_toldSetting_0_0.2.1 5 (58, .lastore, 1) rfl
theorem dX12_toldSetting_59 : decode cX12_toldSetting 59 = .ok (.aload_n 0, 1) := dr9 dk9_dX12_toldSetting_0_0.2.1 6 (59, .aload_n 0, 1) rfl
theorem dX12_toldSetting_60 : decode cX12_toldSetting 60 = .ok (.getfield 59, 3) := dr9 dk9_dX12_toldSetting_0_0.2.1 7 (60, .getfield 59, 3) rfl
theorem dX12_toldSetting_63 : decode cX12_toldSetting 63 = .ok (.iload_n 1, 1) := dr9 dk9_dX12_toldSetting_0_0.2.1 8 (63, .iload_n 1, 1) rfl
theorem dX12_toldSetting_64 : decode cX12_toldSetting 64 = .ok (.aload_n 0, 1) := dr9 dk9_dX12_toldSetting_0_0.2.1 9 (64, .aload_n 0, 1) rfl
theorem dX12_toldSetting_65 : decode cX12_toldSetting 65 = .ok (.iconst 0, 1) := dr9 dk9_dX12_toldSetting_0_0.2.1 10 (65, .iconst 0, 1) rfl
theorem dX12_toldSetting_66 : decode cX12_toldSetting 66 = .ok (.ldc_w 346, 3) := dr9 dk9_dX12_toldSetting_0_0.2.1 11 (66, .ldc_w 346, 3) rfl
theorem dX12_toldSetting_69 : decode cX12_toldSetting 69 = .ok (.invokevirtual 347, 3) := dr9 dk9_dX12_toldSetting_0_0.2.1 12 (69, .invokevirtual 347, 3) rfl
theorem dX12_toldSetting_72 : decode cX12_toldSetting 72 = .ok (.iastore, 1) := dr9 dk9_dX12_toldSetting_0_0.2.1 13 (72, .iastore, 1) rfl
theorem dX12_toldSetting_73 : decode cX12_toldSetting 73 = .ok (.aload_n 0, 1) := dr9 dk9_dX12_toldSetting_0_0.2.1 14 (73, .aload_n 0, 1) rfl
theorem dX12_toldSetting_74 : decode cX12_toldSetting 74 = .ok (.bipush 59, 2) := dr9 dk9_dX12_toldSetting_0_0.2.1 15 (74, .bipush 59, 2) rfl
theorem dX12_toldSetting_76 : decode cX12_toldSetting 76 = .ok (.invokevirtual 343, 3) := dr9 dk9_dX12_toldSetting_0_0.2.1 16 (76, .invokevirtual 343, 3) rfl
theorem dX12_toldSetting_79 : decode cX12_toldSetting 79 = .ok (.aload_n 0, 1) := dr9 dk9_dX12_toldSetting_0_0.2.1 17 (79, .aload_n 0, 1) rfl
theorem dX12_toldSetting_80 : decode cX12_toldSetting 80 = .ok (.getfield 53, 3) := dr9 dk9_dX12_toldSetting_0_0.2.1 18 (80, .getfield 53, 3) rfl
theorem dX12_toldSetting_83 : decode cX12_toldSetting 83 = .ok (.aload_n 0, 1) := dr9 dk9_dX12_toldSetting_0_0.2.1 19 (83, .aload_n 0, 1) rfl
theorem dX12_toldSetting_84 : decode cX12_toldSetting 84 = .ok (.getfield 289, 3) := dr9 dk9_dX12_toldSetting_0_0.2.1 20 (84, .getfield 289, 3) rfl
theorem dX12_toldSetting_87 : decode cX12_toldSetting 87 = .ok (.dup2, 1) := dr9 dk9_dX12_toldSetting_0_0.2.1 21 (87, .dup2, 1) rfl
theorem dX12_toldSetting_88 : decode cX12_toldSetting 88 = .ok (.iaload, 1) := dr9 dk9_dX12_toldSetting_0_0.2.1 22 (88, .iaload, 1) rfl
theorem dX12_toldSetting_89 : decode cX12_toldSetting 89 = .ok (.iconst 1, 1) := dr9 dk9_dX12_toldSetting_0_0.2.1 23 (89, .iconst 1, 1) rfl
theorem dX12_toldSetting_90 : decode cX12_toldSetting 90 = .ok (.iadd, 1) := dr9 dk9_dX12_toldSetting_0_0.2.2 0 (90, .iadd, 1) rfl
theorem dX12_toldSetting_91 : decode cX12_toldSetting 91 = .ok (.iastore, 1) := dr9 dk9_dX12_toldSetting_0_0.2.2 1 (91, .iastore, 1) rfl
theorem dX12_toldSetting_92 : decode cX12_toldSetting 92 = .ok (.return_, 1) := dr9 dk9_dX12_toldSetting_0_0.2.2 2 (92, .return_, 1) rfl
theorem dX12_toldSetting_48 : decode cX12_toldSetting 48 = .ok (.return_, 1) := dr9 dk9_dX12_toldSetting_0_0.2.2 3 (48, .return_, 1) rfl
theorem dX12_toldSetting_33 : decode cX12_toldSetting 33 = .ok (.iconst 1, 1) := dr9 dk9_dX12_toldSetting_0_0.2.2 4 (33, .iconst 1, 1) rfl
theorem dX12_toldSetting_34 : decode cX12_toldSetting 34 = .ok (.goto 4, 3) := dr9 dk9_dX12_toldSetting_0_0.2.2 5 (34, .goto 4, 3) rfl
theorem dk9_dX12_emit_0_0 : dOk cX12_emit [(0, .aload_n 0, 1), (1, .getfield 140, 3), (4, .aload_n 0, 1), (5, .getfield 295, 3), (8, .aload_n 0, 1), (9, .getfield 292, 3), (12, .iadd, 1), (13, .iload_n 1, 1), (14, .iastore, 1), (15, .aload_n 0, 1), (16, .getfield 143, 3), (19, .aload_n 0, 1), (20, .getfield 295, 3), (23, .aload_n 0, 1), (24, .getfield 292, 3), (27, .iadd, 1), (28, .iload_n 2, 1), (29, .iastore, 1), (30, .aload_n 0, 1), (31, .getfield 146, 3), (34, .aload_n 0, 1), (35, .getfield 295, 3), (38, .aload_n 0, 1), (39, .getfield 292, 3)] = true ∧ dOk cX12_emit [(42, .iadd, 1), (43, .iload_n 3, 1), (44, .iastore, 1), (45, .aload_n 0, 1), (46, .dup, 1), (47, .getfield 292, 3), (50, .iconst 1, 1), (51, .iadd, 1), (52, .putfield 292, 3), (55, .aload_n 0, 1), (56, .getfield 295, 3), (59, .aload_n 0, 1), (60, .getfield 292, 3), (63, .iadd, 1), (64, .iconst 1, 1), (65, .isub, 1), (66, .ireturn, 1)] = true := by decide +kernel
theorem dX12_emit_0 : decode cX12_emit 0 = .ok (.aload_n 0, 1) := dr9 dk9_dX12_emit_0_0.1 0 (0, .aload_n 0, 1) rfl
theorem dX12_emit_1 : decode cX12_emit 1 = .ok (.getfield 140, 3) := dr9 dk9_dX12_emit_0_0.1 1 (1, .getfield 140, 3) rfl
theorem dX12_emit_4 : decode cX12_emit 4 = .ok (.aload_n 0, 1) := dr9 dk9_dX12_emit_0_0.1 2 (4, .aload_n 0, 1) rfl
theorem dX12_emit_5 : decode cX12_emit 5 = .ok (.getfield 295, 3) := dr9 dk9_dX12_emit_0_0.1 3 (5, .getfield 295, 3) rfl
theorem dX12_emit_8 : decode cX12_emit 8 = .ok (.aload_n 0, 1) := dr9 dk9_dX12_emit_0_0.1 4 (8, .aload_n 0, 1) rfl
theorem dX12_emit_9 : decode cX12_emit 9 = .ok (.getfield 292, 3) := dr9 dk9_dX12_emit_0_0.1 5 (9, .getfield 292, 3) rfl
theorem dX12_emit_12 : decode cX12_emit 12 = .ok (.iadd, 1) := dr9 dk9_dX12_emit_0_0.1 6 (12, .iadd, 1) rfl
theorem dX12_emit_13 : decode cX12_emit 13 = .ok (.iload_n 1, 1) := dr9 dk9_dX12_emit_0_0.1 7 (13, .iload_n 1, 1) rfl
theorem dX12_emit_14 : decode cX12_emit 14 = .ok (.iastore, 1) := dr9 dk9_dX12_emit_0_0.1 8 (14, .iastore, 1) rfl
theorem dX12_emit_15 : decode cX12_emit 15 = .ok (.aload_n 0, 1) := dr9 dk9_dX12_emit_0_0.1 9 (15, .aload_n 0, 1) rfl
theorem dX12_emit_16 : decode cX12_emit 16 = .ok (.getfield 143, 3) := dr9 dk9_dX12_emit_0_0.1 10 (16, .getfield 143, 3) rfl
theorem dX12_emit_19 : decode cX12_emit 19 = .ok (.aload_n 0, 1) := dr9 dk9_dX12_emit_0_0.1 11 (19, .aload_n 0, 1) rfl
theorem dX12_emit_20 : decode cX12_emit 20 = .ok (.getfield 295, 3) := dr9 dk9_dX12_emit_0_0.1 12 (20, .getfield 295, 3) rfl
theorem dX12_emit_23 : decode cX12_emit 23 = .ok (.aload_n 0, 1) := dr9 dk9_dX12_emit_0_0.1 13 (23, .aload_n 0, 1) rfl
theorem dX12_emit_24 : decode cX12_emit 24 = .ok (.getfield 292, 3) := dr9 dk9_dX12_emit_0_0.1 14 (24, .getfield 292, 3) rfl
theorem dX12_emit_27 : decode cX12_emit 27 = .ok (.iadd, 1) := dr9 dk9_dX12_emit_0_0.1 15 (27, .iadd, 1) rfl
theorem dX12_emit_28 : decode cX12_emit 28 = .ok (.iload_n 2, 1) := dr9 dk9_dX12_emit_0_0.1 16 (28, .iload_n 2, 1) rfl
theorem dX12_emit_29 : decode cX12_emit 29 = .ok (.iastore, 1) := dr9 dk9_dX12_emit_0_0.1 17 (29, .iastore, 1) rfl
theorem dX12_emit_30 : decode cX12_emit 30 = .ok (.aload_n 0, 1) := dr9 dk9_dX12_emit_0_0.1 18 (30, .aload_n 0, 1) rfl
theorem dX12_emit_31 : decode cX12_emit 31 = .ok (.getfield 146, 3) := dr9 dk9_dX12_emit_0_0.1 19 (31, .getfield 146, 3) rfl
theorem dX12_emit_34 : decode cX12_emit 34 = .ok (.aload_n 0, 1) := dr9 dk9_dX12_emit_0_0.1 20 (34, .aload_n 0, 1) rfl
theorem dX12_emit_35 : decode cX12_emit 35 = .ok (.getfield 295, 3) := dr9 dk9_dX12_emit_0_0.1 21 (35, .getfield 295, 3) rfl
theorem dX12_emit_38 : decode cX12_emit 38 = .ok (.aload_n 0, 1) := dr9 dk9_dX12_emit_0_0.1 22 (38, .aload_n 0, 1) rfl
theorem dX12_emit_39 : decode cX12_emit 39 = .ok (.getfield 292, 3) := dr9 dk9_dX12_emit_0_0.1 23 (39, .getfield 292, 3) rfl
theorem dX12_emit_42 : decode cX12_emit 42 = .ok (.iadd, 1) := dr9 dk9_dX12_emit_0_0.2 0 (42, .iadd, 1) rfl
theorem dX12_emit_43 : decode cX12_emit 43 = .ok (.iload_n 3, 1) := dr9 dk9_dX12_emit_0_0.2 1 (43, .iload_n 3, 1) rfl
theorem dX12_emit_44 : decode cX12_emit 44 = .ok (.iastore, 1) := dr9 dk9_dX12_emit_0_0.2 2 (44, .iastore, 1) rfl
theorem dX12_emit_45 : decode cX12_emit 45 = .ok (.aload_n 0, 1) := dr9 dk9_dX12_emit_0_0.2 3 (45, .aload_n 0, 1) rfl
theorem dX12_emit_46 : decode cX12_emit 46 = .ok (.dup, 1) := dr9 dk9_dX12_emit_0_0.2 4 (46, .dup, 1) rfl
theorem dX12_emit_47 : decode cX12_emit 47 = .ok (.getfield 292, 3) := dr9 dk9_dX12_emit_0_0.2 5 (47, .getfield 292, 3) rfl
theorem dX12_emit_50 : decode cX12_emit 50 = .ok (.iconst 1, 1) := dr9 dk9_dX12_emit_0_0.2 6 (50, .iconst 1, 1) rfl
theorem dX12_emit_51 : decode cX12_emit 51 = .ok (.iadd, 1) := dr9 dk9_dX12_emit_0_0.2 7 (51, .iadd, 1) rfl
theorem dX12_emit_52 : decode cX12_emit 52 = .ok (.putfield 292, 3) := dr9 dk9_dX12_emit_0_0.2 8 (52, .putfield 292, 3) rfl
theorem dX12_emit_55 : decode cX12_emit 55 = .ok (.aload_n 0, 1) := dr9 dk9_dX12_emit_0_0.2 9 (55, .aload_n 0, 1) rfl
theorem dX12_emit_56 : decode cX12_emit 56 = .ok (.getfield 295, 3) := dr9 dk9_dX12_emit_0_0.2 10 (56, .getfield 295, 3) rfl
theorem dX12_emit_59 : decode cX12_emit 59 = .ok (.aload_n 0, 1) := dr9 dk9_dX12_emit_0_0.2 11 (59, .aload_n 0, 1) rfl
theorem dX12_emit_60 : decode cX12_emit 60 = .ok (.getfield 292, 3) := dr9 dk9_dX12_emit_0_0.2 12 (60, .getfield 292, 3) rfl
theorem dX12_emit_63 : decode cX12_emit 63 = .ok (.iadd, 1) := dr9 dk9_dX12_emit_0_0.2 13 (63, .iadd, 1) rfl
theorem dX12_emit_64 : decode cX12_emit 64 = .ok (.iconst 1, 1) := dr9 dk9_dX12_emit_0_0.2 14 (64, .iconst 1, 1) rfl
theorem dX12_emit_65 : decode cX12_emit 65 = .ok (.isub, 1) := dr9 dk9_dX12_emit_0_0.2 15 (65, .isub, 1) rfl
theorem dX12_emit_66 : decode cX12_emit 66 = .ok (.ireturn, 1) := dr9 dk9_dX12_emit_0_0.2 16 (66, .ireturn, 1) rfl
abbrev r_s_takeTypes_typeIs : Room := { frames := 3, cells := 0, slots := 0, locals := 71 }
abbrev q_s_takeTypes_typeIs (D : va_G) (ks : KS) (ad : Nat → Nat) (kk : Nat → ClassId) (V : Vf) (L : Lf) (p1 : Int32) (n : Nat) (A : Nat → Prop) : Array Value → State → Outcome → State → Prop := va_Qv (fun (u : Vf × Lf) => rgd bM u.1 ∧ agr [(0, 7), (0, 8)] [15, 21, 53] V u.1 ∧ u.2 = L ∧ (Imp ((u.1 0 8).toInt = 0) (0 ≤ (u.1 0 7).toInt ∧ (u.1 0 7).toInt ≤ n ∧ (V 0 8).toInt = 0 ∧ (V 0 7).toInt ≤ (u.1 0 7).toInt))) (fun u t => gq D A (mw ad kk ks.1 u.1 u.2) (mty kk) t) A
abbrev r_s_takeTypes_componentIs : Room := { frames := 3, cells := 0, slots := 0, locals := 71 }
abbrev q_s_takeTypes_componentIs (D : va_G) (ks : KS) (ad : Nat → Nat) (kk : Nat → ClassId) (V : Vf) (L : Lf) (p1 : Int32) (n : Nat) (A : Nat → Prop) : Array Value → State → Outcome → State → Prop := va_Qv (fun (u : Vf × Lf) => rgd bM u.1 ∧ agr [(0, 7), (0, 8)] [15, 21, 53] V u.1 ∧ u.2 = L ∧ (Imp ((u.1 0 8).toInt = 0) (0 ≤ (u.1 0 7).toInt ∧ (u.1 0 7).toInt ≤ n ∧ (V 0 8).toInt = 0 ∧ (V 0 7).toInt ≤ (u.1 0 7).toInt))) (fun u t => gq D A (mw ad kk ks.1 u.1 u.2) (mty kk) t) A
abbrev r_s_toldType : Room := { frames := 4, cells := 0, slots := 0, locals := 97 }
abbrev q_s_toldType (D : va_G) (ks : KS) (ad : Nat → Nat) (kk : Nat → ClassId) (V : Vf) (L : Lf) (n : Nat) (A : Nat → Prop) : Array Value → State → Outcome → State → Prop := va_Qv (fun (u : Vf × Lf) => rgd bM u.1 ∧ agr [(0, 7), (0, 8)] [13, 14, 15, 21, 53] V u.1 ∧ agL [13, 14, 15, 21, 53] L u.2 ∧ (Imp ((u.1 0 8).toInt = 0) (0 ≤ (u.1 0 7).toInt ∧ (u.1 0 7).toInt ≤ n ∧ (V 0 8).toInt = 0 ∧ (V 0 7).toInt ≤ (u.1 0 7).toInt)) ∧ (Imp ((u.1 0 8).toInt = 0) ((V 0 7).toInt + 1 ≤ (u.1 0 7).toInt))) (fun u t => gq D A (mw ad kk ks.1 u.1 u.2) (mty kk) t) A
abbrev r_s_toldSetting : Room := { frames := 2, cells := 0, slots := 0, locals := 47 }
abbrev q_s_toldSetting (D : va_G) (ks : KS) (ad : Nat → Nat) (kk : Nat → ClassId) (V : Vf) (L : Lf) (n : Nat) (A : Nat → Prop) : Array Value → State → Outcome → State → Prop := va_Qv (fun (u : Vf × Lf) => rgd bM u.1 ∧ agr [(0, 7), (0, 8)] [16, 17, 18] V u.1 ∧ agL [16, 17, 18] L u.2 ∧ (Imp ((u.1 0 8).toInt = 0) (0 ≤ (u.1 0 7).toInt ∧ (u.1 0 7).toInt ≤ n ∧ (V 0 8).toInt = 0 ∧ (V 0 7).toInt ≤ (u.1 0 7).toInt)) ∧ (Imp ((u.1 0 8).toInt = 0) ((V 0 7).toInt + 1 ≤ (u.1 0 7).toInt))) (fun u t => gq D A (mw ad kk ks.1 u.1 u.2) (mty kk) t) A
abbrev r_s_emit : Room := { frames := 0, cells := 0, slots := 0, locals := 0 }
abbrev q_s_emit (D : va_G) (ks : KS) (ad : Nat → Nat) (kk : Nat → ClassId) (V : Vf) (L : Lf) (p0 : Int32) (p1 : Int32) (p2 : Int32) (A : Nat → Prop) : Array Value → State → Outcome → State → Prop := va_Qi (fun (r : Int32) (u : Vf × Lf) => rgd bM u.1 ∧ agr [(0, 48)] [45, 46, 47] V u.1 ∧ u.2 = L ∧ (0 ≤ r.toInt ∧ r.toInt ≤ 20000)) (fun u t => gq D A (mw ad kk ks.1 u.1 u.2) (mty kk) t) A