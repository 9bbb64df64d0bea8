section
theorem w2062 : Cond.code yX12_takeType cX12_takeType 1 (some .int) ∈ GW := gw_k tk9_8 227 (rfl) rfl
theorem w2059 : Cond.methodLink RX12 325 yX12_takeType ∈ GW := gw_k tk9_8 224 (by decide +kernel) rfl
theorem w2061 : Cond.instanceMethod yX12_takeType ∈ GW := gw_k tk9_8 226 (by decide +kernel) rfl
theorem w92 : Cond.selects RX12 yX12_takeType yX12_takeType ∈ GW := gw_mem 92 (by decide +kernel) rfl
theorem hdV_yX12_takeType : yX12_takeType.cls = RX12 ∧ yX12_takeType.cls ≠ "java/lang/invoke/MethodHandle" ∧ yX12_takeType.cls ≠ "java/lang/invoke/VarHandle" ∧ (parseMethodDescriptor yX12_takeType.desc).map (fun d => d.parameters.length) = some 0 := by decide +kernel
theorem w1759 : Cond.fieldLink RX12 149 "WiringHouseModel" "listed" "[I" ∈ GW := gw_k tk9_7 164 (by decide +kernel) rfl
theorem w1721 : Cond.fieldLink RX12 49 "WiringHouseModel" "typeIs" "[Z" ∈ GW := gw_k tk9_7 126 (by decide +kernel) rfl
theorem w2070 : Cond.code yX12_hasSign cX12_hasSign 3 (some .boolean) ∈ GW := gw_k tk9_8 235 (rfl) rfl
theorem w2067 : Cond.methodLink RX12 328 yX12_hasSign ∈ GW := gw_k tk9_8 232 (by decide +kernel) rfl
theorem w2069 : Cond.instanceMethod yX12_hasSign ∈ GW := gw_k tk9_8 234 (by decide +kernel) rfl
theorem w94 : Cond.selects RX12 yX12_hasSign yX12_hasSign ∈ GW := gw_mem 94 (by decide +kernel) rfl
theorem hdV_yX12_hasSign : yX12_hasSign.cls = RX12 ∧ yX12_hasSign.cls ≠ "java/lang/invoke/MethodHandle" ∧ yX12_hasSign.cls ≠ "java/lang/invoke/VarHandle" ∧ (parseMethodDescriptor yX12_hasSign.desc).map (fun d => d.parameters.length) = some 1 := by decide +kernel
theorem w2034 : Cond.code yX12_begins cX12_begins 2 none ∈ GW := gw_k tk9_8 199 (rfl) rfl
theorem w2031 : Cond.methodLink RX12 331 yX12_begins ∈ GW := gw_k tk9_8 196 (by decide +kernel) rfl
theorem w2033 : Cond.instanceMethod yX12_begins ∈ GW := gw_k tk9_8 198 (by decide +kernel) rfl
theorem w85 : Cond.selects RX12 yX12_begins yX12_begins ∈ GW := gw_mem 85 (by decide +kernel) rfl
theorem hdV_yX12_begins : yX12_begins.cls = RX12 ∧ yX12_begins.cls ≠ "java/lang/invoke/MethodHandle" ∧ yX12_begins.cls ≠ "java/lang/invoke/VarHandle" ∧ (parseMethodDescriptor yX12_begins.desc).map (fun d => d.parameters.length) = some 1 := by decide +kernel
theorem w2042 : Cond.code yX12_newName cX12_newName 1 (some .long) ∈ GW := gw_k tk9_8 207 (rfl) rfl
theorem w2039 : Cond.methodLink RX12 335 yX12_newName ∈ GW := gw_k tk9_8 204 (by decide +kernel) rfl
theorem w2041 : Cond.instanceMethod yX12_newName ∈ GW := gw_k tk9_8 206 (by decide +kernel) rfl
theorem w87 : Cond.selects RX12 yX12_newName yX12_newName ∈ GW := gw_mem 87 (by decide +kernel) rfl
theorem hdV_yX12_newName : yX12_newName.cls = RX12 ∧ yX12_newName.cls ≠ "java/lang/invoke/MethodHandle" ∧ yX12_newName.cls ≠ "java/lang/invoke/VarHandle" ∧ (parseMethodDescriptor yX12_newName.desc).map (fun d => d.parameters.length) = some 0 := by decide +kernel
theorem w2058 : Cond.code yX12_takeTypes cX12_takeTypes 7 none ∈ GW := gw_k tk9_8 223 (rfl) rfl
theorem w2055 : Cond.methodLink RX12 339 yX12_takeTypes ∈ GW := gw_k tk9_8 220 (by decide +kernel) rfl
theorem w2057 : Cond.instanceMethod yX12_takeTypes ∈ GW := gw_k tk9_8 222 (by decide +kernel) rfl
theorem w91 : Cond.selects RX12 yX12_takeTypes yX12_takeTypes ∈ GW := gw_mem 91 (by decide +kernel) rfl
theorem hdV_yX12_takeTypes : yX12_takeTypes.cls = RX12 ∧ yX12_takeTypes.cls ≠ "java/lang/invoke/MethodHandle" ∧ yX12_takeTypes.cls ≠ "java/lang/invoke/VarHandle" ∧ (parseMethodDescriptor yX12_takeTypes.desc).map (fun d => d.parameters.length) = some 2 := by decide +kernel
theorem w2078 : Cond.code yX12_takeSign cX12_takeSign 2 none ∈ GW := gw_k tk9_9 3 (rfl) rfl
theorem w2075 : Cond.methodLink RX12 343 yX12_takeSign ∈ GW := gw_k tk9_9 0 (by decide +kernel) rfl
theorem w2077 : Cond.instanceMethod yX12_takeSign ∈ GW := gw_k tk9_9 2 (by decide +kernel) rfl
theorem w96 : Cond.selects RX12 yX12_takeSign yX12_takeSign ∈ GW := gw_mem 96 (by decide +kernel) rfl
theorem hdV_yX12_takeSign : yX12_takeSign.cls = RX12 ∧ yX12_takeSign.cls ≠ "java/lang/invoke/MethodHandle" ∧ yX12_takeSign.cls ≠ "java/lang/invoke/VarHandle" ∧ (parseMethodDescriptor yX12_takeSign.desc).map (fun d => d.parameters.length) = some 1 := by decide +kernel
theorem w1724 : Cond.fieldLink RX12 59 "WiringHouseModel" "settingValue" "[I" ∈ GW := gw_k tk9_7 129 (by decide +kernel) rfl
theorem w2083 : Cond.constant RX12 346 999999999 ∈ GW := gw_k tk9_9 8 (by decide +kernel) rfl
theorem w2087 : Cond.code yX12_takeNumber cX12_takeNumber 3 (some .int) ∈ GW := gw_k tk9_9 12 (rfl) rfl
theorem w2084 : Cond.methodLink RX12 347 yX12_takeNumber ∈ GW := gw_k tk9_9 9 (by decide +kernel) rfl
theorem w2086 : Cond.instanceMethod yX12_takeNumber ∈ GW := gw_k tk9_9 11 (by decide +kernel) rfl
theorem w98 : Cond.selects RX12 yX12_takeNumber yX12_takeNumber ∈ GW := gw_mem 98 (by decide +kernel) rfl
theorem hdV_yX12_takeNumber : yX12_takeNumber.cls = RX12 ∧ yX12_takeNumber.cls ≠ "java/lang/invoke/MethodHandle" ∧ yX12_takeNumber.cls ≠ "java/lang/invoke/VarHandle" ∧ (parseMethodDescriptor yX12_takeNumber.desc).map (fun d => d.parameters.length) = some 2 := by decide +kernel
theorem w1751 : Cond.fieldLink RX12 140 "WiringHouseModel" "op" "[I" ∈ GW := gw_k tk9_7 156 (by decide +kernel) rfl
theorem w1755 : Cond.fieldLink RX12 295 "WiringHouseModel" "codesFrom" "I" ∈ GW := gw_k tk9_7 160 (by decide +kernel) rfl
theorem w1754 : Cond.fieldLink RX12 292 "WiringHouseModel" "codes" "I" ∈ GW := gw_k tk9_7 159 (by decide +kernel) rfl
theorem w1752 : Cond.fieldLink RX12 143 "WiringHouseModel" "one" "[I" ∈ GW := gw_k tk9_7 157 (by decide +kernel) rfl
theorem w1753 : Cond.fieldLink RX12 146 "WiringHouseModel" "two" "[I" ∈ GW := gw_k tk9_7 158 (by decide +kernel) rfl
theorem dk9_dX12_takeTypes_0_0 : dOk cX12_takeTypes [(0, .iconst 0, 1), (1, .istore_n 3, 1), (2, .iconst 1, 1), (3, .istore 4, 2), (5, .iload 4, 2), (7, .ifCond .eq 188, 3), (195, .return_, 1), (10, .aload_n 0, 1), (11, .getfield 267, 3), (14, .ifCond .ne 181, 3), (17, .aload_n 0, 1), (18, .invokevirtual 325, 3), (21, .istore 5, 2), (23, .aload_n 0, 1), (24, .dup, 1), (25, .getfield 264, 3), (28, .iconst 1, 1), (29, .isub, 1), (30, .putfield 264, 3), (33, .iconst 0, 1), (34, .istore 6, 2), (36, .iload 6, 2), (38, .iload_n 3, 1), (39, .if_icmp .ge 33, 3)] = true ∧ dOk cX12_takeTypes [(42, .aload_n 0, 1), (43, .getfield 267, 3), (46, .ifCond .ne 26, 3), (49, .aload_n 0, 1), (50, .getfield 149, 3), (53, .iload 6, 2), (55, .iaload, 1), (56, .iload 5, 2), (58, .if_icmp .ne 8, 3), (66, .iinc 6 1, 3), (69, .goto (-33), 3), (61, .aload_n 0, 1), (62, .iconst 3, 1), (63, .invokevirtual 273, 3), (72, .aload_n 0, 1), (73, .getfield 267, 3), (76, .ifCond .ne 14, 3), (79, .iload_n 3, 1), (80, .bipush 6, 2), (82, .if_icmp .ne 8, 3), (85, .aload_n 0, 1), (86, .iconst 5, 1), (87, .invokevirtual 273, 3), (90, .aload_n 0, 1)] = true ∧ dOk cX12_takeTypes [(91, .dup, 1), (92, .getfield 264, 3), (95, .iconst 1, 1), (96, .iadd, 1), (97, .putfield 264, 3), (100, .aload_n 0, 1), (101, .getfield 267, 3), (104, .ifCond .ne 80, 3), (107, .aload_n 0, 1), (108, .getfield 149, 3), (111, .iload_n 3, 1), (112, .iload 5, 2), (114, .iastore, 1), (115, .iinc 3 1, 3), (118, .iconst 0, 1), (119, .istore 6, 2), (121, .iload 6, 2), (123, .bipush 24, 2), (125, .if_icmp .ge 59, 3), (128, .aload_n 1, 1), (129, .bipush 24, 2), (131, .iload_n 2, 1), (132, .imul, 1), (133, .iload 6, 2)] = true ∧ dOk cX12_takeTypes [(135, .iadd, 1), (136, .aload_n 1, 1), (137, .bipush 24, 2), (139, .iload_n 2, 1), (140, .imul, 1), (141, .iload 6, 2), (143, .iadd, 1), (144, .baload, 1), (145, .ifCond .ne 27, 3), (172, .iconst 1, 1), (173, .goto 4, 3), (177, .bastore, 1), (178, .iinc 6 1, 3), (181, .goto (-60), 3), (148, .aload_n 0, 1), (149, .getfield 49, 3), (152, .bipush 24, 2), (154, .bipush 24, 2), (156, .aload_n 0, 1), (157, .getfield 289, 3), (160, .imul, 1), (161, .iload 5, 2), (163, .iadd, 1), (164, .imul, 1)] = true ∧ dOk cX12_takeTypes [(165, .iload 6, 2), (167, .iadd, 1), (168, .baload, 1), (169, .ifCond .eq 7, 3), (176, .iconst 0, 1), (184, .aload_n 0, 1), (185, .bipush 44, 2), (187, .invokevirtual 328, 3), (190, .istore 4, 2), (192, .goto (-187), 3)] = true := by decide +kernel
theorem dX12_takeTypes_0 : decode cX12_takeTypes 0 = .ok (.iconst 0, 1) := dr9 dk9_dX12_takeTypes_0_0.1 0 (0, .iconst 0, 1) rfl
theorem dX12_takeTypes_1 : decode cX12_takeTypes 1 = .ok (.istore_n 3, 1) := dr9 dk9_dX12_takeTypes_0_0.1 1 (1, .istore_n 3, 1) rfl
theorem dX12_takeTypes_2 : decode cX12_takeTypes 2 = .ok (.iconst 1, 1) := dr9 dk9_dX12_takeTypes_0_0.1 2 (2, .iconst 1, 1) rfl
theorem dX12_takeTypes_3 : decode cX12_takeTypes 3 = .ok (.istore 4, 2) := dr9 dk9_dX12_takeTypes_0_0.1 3 (3, .istore 4, 2) rfl
theorem dX12_takeTypes_5 : decode cX12_takeTypes 5 = .ok (.iload 4, 2) := dr9 dk9_dX12_takeTypes_0_0.1 4 (5, .iload 4, 2) rfl
theorem dX12_takeTypes_7 : decode cX12_takeTypes 7 = .ok (.ifCond .eq 188, 3) := dr9 dk9_dX12_takeTypes_0_0.1 5 (7, .ifCond .eq 188, 3) rfl
theorem dX12_takeTypes_195 : decode cX12_takeTypes 195 = .ok (.return_, 1) := dr9 dk9_dX12_takeTypes_0_0.1 6 (195, .return_, 1) rfl
theorem dX12_takeTypes_10 : decode cX12_takeTypes 10 = .ok (.aload_n 0, 1) := dr9 dk9_dX12_takeTypes_0_0.1 7 (10, .aload_n 0, 1) rfl
theorem dX12_takeTypes_11 : decode cX12_takeTypes 11 = .ok (.getfield 267, 3) := dr9 dk9_dX12_takeTypes_0_0.1 8 (11, .getfield 267, 3) rfl
theorem dX12_takeTypes_14 : decode cX12_takeTypes 14 = .ok (.ifCond .ne 181, 3) := dr9 dk9_dX12_takeTypes_0_0.1 9 (14, .ifCond .ne 181, 3) rfl
theorem dX12_takeTypes_17 : decode cX12_takeTypes 17 = .ok (.aload_n 0, 1) := dr9 dk9_dX12_takeTypes_0_0.1 10 (17, .aload_n 0, 1) rfl
theorem dX12_takeTypes_18 : decode cX12_takeTypes 18 = .ok (.invokevirtual 325, 3) := dr9 dk9_dX12_takeTypes_0_0.1 11 (18, .invokevirtual 325, 3) rfl
theorem dX12_takeTypes_21 : decode cX12_takeTypes 21 = .ok (.istore 5, 2) := dr9 dk9_dX12_takeTypes_0_0.1 12 (21, .istore 5, 2) rfl
theorem dX12_takeTypes_23 : decode cX12_takeTypes 23 = .ok (.aload_n 0, 1) := dr9 dk9_dX12_takeTypes_0_0.1 13 (23, .aload_n 0, 1) rfl
theorem dX12_takeTypes_24 : decode cX12_takeTypes 24 = .ok (.dup, 1) := dr9 dk9_dX12_takeTypes_0_0.1 14 (24, .dup, 1) rfl
theorem dX12_takeTypes_25 : decode cX12_takeTypes 25 = .ok (.getfield 264, 3) := dr9 dk9_dX12_takeTypes_0_0.1 15 (25, .getfield 264, 3) rfl
theorem dX12_takeTypes_28 : decode cX12_takeTypes 28 = .ok (.iconst 1, 1) := dr9 dk9_dX12_takeTypes_0_0.1 16 (28, .iconst 1, 1) rfl
theorem dX12_takeTypes_29 : decode cX12_takeTypes 29 = .ok (.isub, 1) := dr9 dk9_dX12_takeTypes_0_0.1 17 (29, .isub, 1) rfl
theorem dX12_takeTypes_30 : decode cX12_takeTypes 30 = .ok (.putfield 264, 3) := dr9 dk9_dX12_takeTypes_0_0.1 18 (30, .putfield 264, 3) rfl
theorem dX12_takeTypes_33 : decode cX12_takeTypes 33 = .ok (.iconst 0, 1) := dr9 dk9_dX12_takeTypes_0_0.1 19 (33, .iconst 0, 1) rfl
theorem dX12_takeTypes_34 : decode cX12_takeTypes 34 = .ok (.istore 6, 2) := dr9 dk9_dX12_takeTypes_0_0.1 20 (34, .istore 6, 2) rfl
theorem dX12_takeTypes_36 : decode cX12_takeTypes 36 = .ok (.iload 6, 2) := dr9 dk9_dX12_takeTypes_0_0.1 21 (36, .iload 6, 2) rfl
theorem dX12_takeTypes_38 : decode cX12_takeTypes 38 = .ok (.iload_n 3, 1) := dr9 dk9_dX12_takeTypes_0_0.1 22 (38, .iload_n 3, 1) rfl
theorem dX12_takeTypes_39 : decode cX12_takeTypes 39 = .ok (.if_icmp .ge 33, 3) := dr9 dk9_dX12_takeTypes_0_0.1 23 (39, .if_icmp .ge 33, 3) rfl
theorem dX12_takeTypes_42 : decode cX12_takeTypes 42 = .ok (.aload_n 0, 1) := dr9 dk9_dX12_takeTypes_0_0.2.1 0 (42, .aload_n 0, 1) rfl
theorem dX12_takeTypes_43 : decode cX12_takeTypes 43 = .ok (.getfield 267, 3) := dr9 dk9_dX12_takeTypes_0_0.2.1 1 (43, .getfield 267, 3) rfl
theorem dX12_takeTypes_46 : decode cX12_takeTypes 46 = .ok (.ifCond .ne 26, 3) := dr9 dk9_dX12_takeTypes_0_0.2.1 2 (46, .ifCond .ne 26, 3) rfl
theorem dX12_takeTypes_49 : decode cX12_takeTypes 49 = .ok (.aload_n 0, 1) := dr9 dk9_dX12_takeTypes_0_0.2.1 3 (49, .aload_n 0, 1) rfl
theorem dX12_takeTypes_50 : decode cX12_takeTypes 50 = .ok (.getfield 149, 3) := dr9 dk9_dX12_takeTypes_0_0.2.1 4 (50, .getfield 149, 3) rfl
theorem dX12_takeTypes_53 : decode cX12_takeTypes 53 = .ok (.iload 6, 2) := dr9 dk9_dX12_takeTypes_0_0.2.1 5 (53, .iload 6, 2) rfl
theorem dX12_takeTypes_55 : decode cX12_takeTypes 55 = .ok (.iaload, 1) := dr9 dk9_dX12_takeTypes_0_0.2.1 6 (55, .iaload, 1) rfl
theorem dX12_takeTypes_56 : decode cX12_takeTypes 56 = .ok (.iload 5, 2) := dr9 dk9_dX12_takeTypes_0_0.2.1 7 (56, .iload 5, 2) rfl
theorem dX12_takeTypes_58 : decode cX12_takeTypes 58 = .ok (.if_icmp .ne 8, 3) := dr9 dk9_dX12_takeTypes_0_0.2.1 8 (58, .if_icmp .ne 8, 3) rfl
theorem dX12_takeTypes_66 : decode cX12_takeTypes 66 = .ok (.iinc 6 1, 3) := dr9 dk9_dX12_takeTypes_0_0.2.1 9 (66, .iinc 6 1, 3) rfl
theorem dX12_takeTypes_69 : decode cX12_takeTypes 69 = .ok (.goto (-33), 3) := dr9 dk9_dX12_takeTypes_0_0.2.1 10 (69, .goto (-33), 3) rfl
theorem dX12_takeTypes_61 : decode cX12_takeTypes 61 = .ok (.aload_n 0, 1) := dr9 dk9_dX12_takeTypes_0_0.2.1 11 (61, .aload_n 0, 1) rfl
theorem dX12_takeTypes_62 : decode cX12_takeTypes 62 = .ok (.iconst 3, 1) := dr9 dk9_dX12_takeTypes_0_0.2.1 12 (62, .iconst 3, 1) rfl
theorem dX12_takeTypes_63 : decode cX12_takeTypes 63 = .ok (.invokevirtual 273, 3) := dr9 dk9_dX12_takeTypes_0_0.2.1 13 (63, .invokevirtual 273, 3) rfl
theorem dX12_takeTypes_72 : decode cX12_takeTypes 72 = .ok (.aload_n 0, 1) := dr9 dk9_dX12_takeTypes_0_0.2.1 14 (72, .aload_n 0, 1) rfl
theorem dX12_takeTypes_73 : decode cX12_takeTypes 73 = .ok (.getfield 267, 3) := dr9 dk9_dX12_takeTypes_0_0.2.1 15 (73, .getfield 267, 3) rfl
theorem dX12_takeTypes_76 : decode cX12_takeTypes 76 = .ok (.ifCond .ne 14, 3) := dr9 dk9_dX12_takeTypes_0_0.2.1 16 (76, .ifCond .ne 14, 3) rfl
theorem dX12_takeTypes_79 : decode cX12_takeTypes 79 = .ok (.iload_n 3, 1) := dr9 dk9_dX12_takeTypes_0_0.2.1 17 (79, .iload_n 3, 1) rfl
theorem dX12_takeTypes_80 : decode cX12_takeTypes 80 = .ok (.bipush 6, 2) := dr9 dk9_dX12_takeTypes_0_0.2.1 18 (80, .bipush 6, 2) rfl
theorem dX12_takeTypes_82 : decode cX12_takeTypes 82 = .ok (.if_icmp .ne 8, 3) := dr9 dk9_dX12_takeTypes_0_0.2.1 19 (82, .if_icmp .ne 8, 3) rfl
theorem dX12_takeTypes_85 : decode cX12_takeTypes 85 = .ok (.aload_n 0, 1) := dr9 dk9_dX12_takeTypes_0_0.2.1 20 (85, .aload_n 0, 1) rfl
theorem dX12_takeTypes_86 : decode cX12_takeTypes 86 = .ok (.iconst 5, 1) := dr9 dk9_dX12_takeTypes_0_0.2.1 21 (86, .iconst 5, 1) rfl
theorem dX12_takeTypes_87 : decode cX12_takeTypes 87 = .ok (.invokevirtual 273, 3) := dr9 dk9_dX12_takeTypes_0_0.2.1 22 (87, .invokevirtual 273, 3) rfl
theorem dX12_takeTypes_90 : decode cX12_takeTypes 90 = .ok (.aload_n 0, 1) := dr9 dk9_dX12_takeTypes_0_0.2.1 23 (90, .aload_n 0, 1) rfl
theorem dX12_takeTypes_91 : decode cX12_takeTypes 91 = .ok (.dup, 1) := dr9 dk9_dX12_takeTypes_0_0.2.2.1 0 (91, .dup, 1) rfl
theorem dX12_takeTypes_92 : decode cX12_takeTypes 92 = .ok (.getfield 264, 3) := dr9 dk9_dX12_takeTypes_0_0.2.2.1 1 (92, .getfield 264, 3) rfl
theorem dX12_takeTypes_95 : decode cX12_takeTypes 95 = .ok (.iconst 1, 1) := dr9 dk9_dX12_takeTypes_0_0.2.2.1 2 (95, .iconst 1, 1) rfl
theorem dX12_takeTypes_96 : decode cX12_takeTypes 96 = .ok (.iadd, 1) := dr9 dk9_dX12_takeTypes_0_0.2.2.1 3 (96, .iadd, 1) rfl
theorem dX12_takeTypes_97 : decode cX12_takeTypes 97 = .ok (.putfield 264, 3) := dr9 dk9_dX12_takeTypes_0_0.2.2.1 4 (97, .putfield 264, 3) rfl
theorem dX12_takeTypes_100 : decode cX12_takeTypes 100 = .ok (.aload_n 0, 1) := dr9 dk9_dX12_takeTypes_0_0.2.2.1 5 (100, .aload_n 0, 1) rfl
theorem dX12_takeTypes_101 : decode cX12_takeTypes 101 = .ok (.getfield 267, 3) := dr9 dk9_dX12_takeTypes_0_0.2.2.1 6 (101, .getfield 267, 3) rfl
theorem dX12_takeTypes_104 : decode cX12_takeTypes 104 = .ok (.ifCond .ne 80, 3) := dr9 dk9_dX12_takeTypes_0_0.2.2.1 7 (104, .ifCond .ne 80, 3) rfl
theorem dX12_takeTypes_107 : decode cX12_takeTypes 107 = .ok (.aload_n 0, 1) := dr9 dk9_dX12_takeTypes_0_0.2.2.1 8 (107, .aload_n 0, 1) rfl
theorem dX12_takeTypes_108 : decode cX12_takeTypes 108 = .ok (.getfield 149, 3) := dr9 dk9_dX12_takeTypes_0_0.2.2.1 9 (108, .getfield 149, 3) rfl
theorem dX12_takeTypes_111 : decode cX12_takeTypes 111 = .ok (.iload_n 3, 1) := dr9 dk9_dX12_takeTypes_0_0.2.2.1 10 (111, .iload_n 3, 1) rfl
theorem dX12_takeTypes_112 : decode cX12_takeTypes 112 = .ok (.iload 5, 2) := dr9 dk9_dX12_takeTypes_0_0.2.2.1 11 (112, .iload 5, 2) rfl
theorem dX12_takeTypes_114 : decode cX12_takeTypes 114 = .ok (.iastore, 1) := dr9 dk9_dX12_takeTypes_0_0.2.2.1 12 (114, .iastore, 1) rfl
theorem dX12_takeTypes_115 : decode cX12_takeTypes 115 = .ok (.iinc 3 1, 3) := dr9 dk9_dX12_takeTypes_0_0.2.2.1 13 (115, .iinc 3 1, 3) rfl
theorem dX12_takeTypes_118 : decode cX12_takeTypes 118 = .ok (.iconst 0, 1) := dr9 dk9_dX12_takeTypes_0_0.2.2.1 14 (118, .iconst 0, 1) rfl
theorem dX12_takeTypes_119 : decode cX12_takeTypes 119 = .ok (.istore 6, 2) := dr9 dk9_dX12_takeTypes_0_0.2.2.1 15 (119, .istore 6, 2) rfl
theorem dX12_takeTypes_121 : decode cX12_takeTypes 121 = .ok (.iload 6, 2) := dr9 dk9_dX12_takeTypes_0_0.2.2.1 16 (121, .iload 6, 2) rfl
theorem dX12_takeTypes_123 : decode cX12_takeTypes 123 = .ok (.bipush 24, 2) := dr9 dk9_dX12_takeTypes_0_0.2.2.1 17 (123, .bipush 24, 2) rfl
theorem dX12_takeTypes_125 : decode cX12_takeTypes 125 = .ok (.if_icmp .ge 59, 3) := dr9 dk9_dX12_takeTypes_0_0.2.2.1 18 (125, .if_icmp .ge 59, 3) rfl
theorem dX12_takeTypes_128 : decode cX12_takeTypes 128 = .ok (.aload_n 1, 1) := dr9 dk9_dX12_takeTypes_0_0.2.2.1 19 (128, .aload_n 1, 1) rfl
theorem dX12_takeTypes_129 : decode cX12_takeTypes 129 = .ok (.bipush 24, 2) := dr9 dk9_dX12_takeTypes_0_0.2.2.1 20 (129, .bipush 24, 2) rfl
theorem dX12_takeTypes_131 : decode cX12_takeTypes 131 = .ok (.iload_n 2, 1) := dr9 dk9_dX12_takeTypes_0_0.2.2.1 21 (131, .iload_n 2, 1) rfl
theorem dX12_takeTypes_132 : decode cX12_takeTypes 132 = .ok (.imul, 1) := dr9 dk9_dX12_takeTypes_0_0.2.2.1 22 (132, .imul, 1) rfl
theorem dX12_takeTypes_133 : decode cX12_takeTypes 133 = .ok (.iload 6, 2) := dr9 dk9_dX12_takeTypes_0_0.2.2.1 23 (133, .iload 6, 2) rfl
theorem dX12_takeTypes_135 : decode cX12_takeTypes 135 = .ok (.iadd, 1) := dr9 dk9_dX12_takeTypes_0_0.2.2.2.1 0 (135, .iadd, 1) rfl
theorem dX12_takeTypes_136 : decode cX12_takeTypes 136 = .ok (.aload_n 1, 1) := dr9 dk9_dX12_takeTypes_0_0.2.2.2.1 1 (136, .aload_n 1, 1) rfl
theorem dX12_takeTypes_137 : decode cX12_takeTypes 137 = .ok (.bipush 24, 2) := dr9 dk9_dX12_takeTypes_0_0.2.2.2.1 2 (137, .bipush 24, 2) rfl
theorem dX12_takeTypes_139 : decode cX12_takeTypes 139 = .ok (.iload_n 2, 1) := dr9 dk9_dX12_takeTypes_0_0.2.2.2.1 3 (139, .iload_n 2, 1) rfl
theorem dX12_takeTypes_140 : decode cX12_takeTypes 140 = .ok (.imul, 1) := dr9 dk9_dX12_takeTypes_0_0.2.2.2.1 4 (140, .imul, 1) rfl
theorem dX12_takeTypes_141 : decode cX12_takeTypes 141 = .ok (.iload 6, 2) := dr9 dk9_dX12_takeTypes_0_0.2.2.2.1 5 (141, .iload 6, 2) rfl
theorem dX12_takeTypes_143 : decode cX12_takeTypes 143 = .ok (.iadd, 1) := dr9 dk9_dX12_takeTypes_0_0.2.2.2.1 6 (143, .iadd, 1) rfl
theorem dX12_takeTypes_144 : decode cX12_takeTypes 144 = .ok (.baload, 1) := dr9 dk9_dX12_takeTypes_0_0.2.2.2.1 7 (144, .baload, 1) rfl
theorem dX12_takeTypes_145 : decode cX12_takeTypes 145 = .ok (.ifCond .ne 27, 3) := dr9 dk9_dX12_takeTypes_0_0.2.2.2.1 8 (145, .ifCond .ne 27, 3) rfl
theorem dX12_takeTypes_172 : decode cX12_takeTypes 172 = .ok (.iconst 1, 1) := dr9 dk9_dX12_takeTypes_0_0.2.2.2.1 9 (172, .iconst 1, 1) rfl
theorem dX12_takeTypes_173 : decode cX12_takeTypes 173 = .ok (.goto 4, 3) := dr9 dk9_dX12_takeTypes_0_0.2.2.2.1 10 (173, .goto 4, 3) rfl
theorem dX12_takeTypes_177 : decode cX12_takeTypes 177 = .ok (.bastore, 1) := dr9 dk9_dX12_takeTypes_0_0.2.2.2.1 11 (177, .bastore, 1) rfl
theorem dX12_takeTypes_178 : decode cX12_takeTypes 178 = .ok (.iinc 6 1, 3) := dr9 dk9_dX12_takeTypes_0_0.2.2.2.1 12 (178, .iinc 6 1, 3) rfl
theorem dX12_takeTypes_181 : decode cX12_takeTypes 181 = .ok (.goto (-60), 3) := dr9 dk9_dX12_takeTypes_0_0.2.2.2.1 13 (181, .goto (-60), 3) rfl
theorem dX12_takeTypes_148 : decode cX12_takeTypes 148 = .ok (.aload_n 0, 1) := dr9 dk9_dX12_takeTypes_0_0.2.2.2.1 14 (148, .aload_n 0, 1) rfl
theorem dX12_takeTypes_149 : decode cX12_takeTypes 149 = .ok (.getfield 49, 3) := dr9 dk9_dX12_takeTypes_0_0.2.2.2.1 15 (149, .getfield 49, 3) rfl
theorem dX12_takeTypes_152 : decode cX12_takeTypes 152 = .ok (.bipush 24, 2) := dr9 dk9_dX12_takeTypes_0_0.2.2.2.1 16 (152, .bipush 24, 2) rfl
theorem dX12_takeTypes_154 : decode cX12_takeTypes 154 = .ok (.bipush 24, 2) := dr9 dk9_dX12_takeTypes_0_0.2.2.2.1 17 (154, .bipush 24, 2) rfl
theorem dX12_takeTypes_156 : decode cX12_takeTypes 156 = .ok (.aload_n 0, 1) := dr9 dk9_dX12_takeTypes_0_0.2.2.2.1 18 (156, .aload_n 0, 1) rfl
theorem dX12_takeTypes_157 : decode cX12_takeTypes 157 = .ok (.getfield 289, 3) := dr9 dk9_dX12_takeTypes_0_0.2.2.2.1 19 (157, .getfield 289, 3) rfl
theorem dX12_takeTypes_160 : decode cX12_takeTypes 160 = .ok (.imul, 1) := dr9 dk9_dX12_takeTypes_0_0.2.2.2.1 20 (160, .imul, 1) rfl
theorem dX12_takeTypes_161 : decode cX12_takeTypes 161 = .ok (.iload 5, 2) := dr9 dk9_dX12_takeTypes_0_0.2.2.2.1 21 (161, .iload 5, 2) rfl
theorem dX12_takeTypes_163 : decode cX12_takeTypes 163 = .ok (.iadd, 1) := dr9 dk9_dX12_takeTypes_0_0.2.2.2.1 22 (163, .iadd, 1) rfl
theorem dX12_takeTypes_164 : decode cX12_takeTypes 164 = .ok (.imul, 1) := dr9 dk9_dX12_takeTypes_0_0.2.2.2.1 23 (164, .imul, 1) rfl
theorem dX12_takeTypes_165 : decode cX12_takeTypes 165 = .ok (.iload 6, 2) := dr9 dk9_dX12_takeTypes_0_0.2.2.2.2 0 (165, .iload 6, 2) rfl
theorem dX12_takeTypes_167 : decode cX12_takeTypes 167 = .ok (.iadd, 1) := dr9 dk9_dX12_takeTypes_0_0.2.2.2.2 1 (167, .iadd, 1) rfl
theorem dX12_takeTypes_168 : decode cX12_takeTypes 168 = .ok (.baload, 1) := dr9 dk9_dX12_takeTypes_0_0.2.2.2.2 2 (168, .baload, 1) rfl
theorem dX12_takeTypes_169 : decode cX12_takeTypes 169 = .ok (.ifCond .eq 7, 3) := dr9 dk9_dX12_takeTypes_0_0.2.2.2.2 3 (169, .ifCond .eq 7, 3) rfl
theorem dX12_takeTypes_176 : decode cX12_takeTypes 176 = .ok (.iconst 0, 1) := dr9 dk9_dX12_takeTypes_0_0.2.2.2.2 4 (176, .iconst 0, 1) rfl
theorem dX12_takeTypes_184 : decode cX12_takeTypes 184 = .ok (.aload_n 0, 1) := dr9 dk9_dX12_takeTypes_0_0.2.2.2.2 5 (184, .aload_n 0, 1) rfl
theorem dX12_takeTypes_185 : decode cX12_takeTypes 185 = .ok (.bipush 44, 2) := dr9 dk9_dX12_takeTypes_0_0.2.2.2.2 6 (185, .bipush 44, 2) rfl
theorem dX12_takeTypes_187 : decode cX12_takeTypes 187 = .ok (.invokevirtual 328, 3) := dr9 dk9_dX12_takeTypes_0_0.2.2.2.2 7 (187, .invokevirtual 328, 3) rfl
theorem dX12_takeTypes_190 : decode cX12_takeTypes 190 = .ok (.istore 4, 2) := dr9 dk9_dX12_takeTypes_0_0.2.2.2.2 8 (190, .istore 4, 2) rfl
theorem dX12_takeTypes_192 : decode cX12_takeTypes 192 = .ok (.goto (-187), 3) := dr9 dk9_dX12_takeTypes_0_0.2.2.2.2 9 (192, .goto (-187), 3) rfl
theorem dk9_dX12_toldType_0_0 : dOk cX12_toldType [(0, .bipush 24, 2), (2, .aload_n 0, 1), (3, .getfield 289, 3), (6, .imul, 1), (7, .aload_n 0, 1), (8, .getfield 43, 3), (11, .aload_n 0, 1), (12, .getfield 289, 3), (15, .iaload, 1), (16, .iadd, 1), (17, .istore_n 1, 1), (18, .aload_n 0, 1), (19, .aload_n 0, 1), (20, .getfield 43, 3), (23, .aload_n 0, 1), (24, .getfield 289, 3), (27, .iaload, 1), (28, .bipush 24, 2), (30, .if_icmp .ne 7, 3), (37, .iconst 0, 1), (38, .invokevirtual 331, 3), (41, .aload_n 0, 1), (42, .getfield 267, 3), (45, .ifCond .le 4, 3)] = true ∧ dOk cX12_toldType [(49, .aload_n 0, 1), (50, .invokevirtual 335, 3), (53, .lstore_n 2, 1), (54, .iconst 0, 1), (55, .istore 4, 2), (57, .iload 4, 2), (59, .bipush 24, 2), (61, .if_icmp .ge 40, 3), (64, .aload_n 0, 1), (65, .getfield 49, 3), (68, .bipush 24, 2), (70, .iload_n 1, 1), (71, .imul, 1), (72, .iload 4, 2), (74, .iadd, 1), (75, .iload 4, 2), (77, .aload_n 0, 1), (78, .getfield 43, 3), (81, .aload_n 0, 1), (82, .getfield 289, 3), (85, .iaload, 1), (86, .if_icmp .ne 7, 3), (93, .iconst 0, 1), (94, .bastore, 1)] = true ∧ dOk cX12_toldType [(95, .iinc 4 1, 3), (98, .goto (-41), 3), (89, .iconst 1, 1), (90, .goto 4, 3), (101, .aload_n 0, 1), (102, .iconst 1, 1), (103, .invokevirtual 280, 3), (106, .ifCond .eq 12, 3), (109, .aload_n 0, 1), (110, .aload_n 0, 1), (111, .getfield 49, 3), (114, .iload_n 1, 1), (115, .invokevirtual 339, 3), (118, .aload_n 0, 1), (119, .bipush 59, 2), (121, .invokevirtual 343, 3), (124, .aload_n 0, 1), (125, .getfield 46, 3), (128, .iload_n 1, 1), (129, .lload_n 2, 1), (130, .lastore, 1), (131, .aload_n 0, 1), (132, .getfield 43, 3), (135, .aload_n 0, 1)] = true ∧ dOk cX12_toldType [(136, .getfield 289, 3), (139, .dup2, 1), (140, .iaload, 1), (141, .iconst 1, 1), (142, .iadd, 1), (143, .iastore, 1), (144, .return_, 1), (48, .return_, 1), (33, .iconst 1, 1), (34, .goto 4, 3)] = true := by decide +kernel
theorem dX12_toldType_0 : decode cX12_toldType 0 = .ok (.bipush 24, 2) := dr9 dk9_dX12_toldType_0_0.1 0 (0, .bipush 24, 2) rfl
theorem dX12_toldType_2 : decode cX12_toldType 2 = .ok (.aload_n 0, 1) := dr9 dk9_dX12_toldType_0_0.1 1 (2, .aload_n 0, 1) rfl
theorem dX12_toldType_3 : decode cX12_toldType 3 = .ok (.getfield 289, 3) := dr9 dk9_dX12_toldType_0_0.1 2 (3, .getfield 289, 3) rfl
theorem dX12_toldType_6 : decode cX12_toldType 6 = .ok (.imul, 1) := dr9 dk9_dX12_toldType_0_0.1 3 (6, .imul, 1) rfl
theorem dX12_toldType_7 : decode cX12_toldType 7 = .ok (.aload_n 0, 1) := dr9 dk9_dX12_toldType_0_0.1 4 (7, .aload_n 0, 1) rfl
theorem dX12_toldType_8 : decode cX12_toldType 8 = .ok (.getfield 43, 3) := dr9 dk9_dX12_toldType_0_0.1 5 (8, .getfield 43, 3) rfl
theorem dX12_toldType_11 : decode cX12_toldType 11 = .ok (.aload_n 0, 1) := dr9 dk9_dX12_toldType_0_0.1 6 (11, .aload_n 0, 1) rfl
theorem dX12_toldType_12 : decode cX12_toldType 12 = .ok (.getfield 289, 3) := dr9 dk9_dX12_toldType_0_0.1 7 (12, .getfield 289, 3) rfl
theorem dX12_toldType_15 : decode cX12_toldType 15 = .ok (.iaload, 1) := dr9 dk9_dX12_toldType_0_0.1 8 (15, .iaload, 1) rfl
theorem dX12_toldType_16 : decode cX12_toldType 16 = .ok (.iadd, 1) := dr9 dk9_dX12_toldType_0_0.1 9 (16, .iadd, 1) rfl
theorem dX12_toldType_17 : decode cX12_toldType 17 = .ok (.istore_n 1, 1) := dr9 dk9_dX12_toldType_0_0.1 10 (17, .istore_n 1, 1) rfl
theorem dX12_toldType_18 : decode cX12_toldType 18 = .ok (.aload_n 0, 1) := dr9 dk9_dX12_toldType_0_0.1 11 (18, .aload_n 0, 1) rfl
theorem dX12_toldType_19 : decode cX12_toldType 19 = .ok (.aload_n 0, 1) := dr9 dk9_dX12_toldType_0_0.1 12 (19, .aload_n 0, 1) rfl
theorem dX12_toldType_20 : decode cX12_toldType 20 = .ok (.getfield 43, 3) := dr9 dk9_dX12_toldType_0_0.1 13 (20, .getfield 43, 3) rfl
theorem dX12_toldType_23 : decode cX12_toldType 23 = .ok (.aload_n 0, 1) := dr9 dk9_dX12_toldType_0_0.1 14 (23, .aload_n 0, 1) rfl
theorem dX12_toldType_24 : decode cX12_toldType 24 = .ok (.getfield 289, 3) := dr9 dk9_dX12_toldType_0_0.1 15 (24, .getfield 289, 3) rfl
theorem dX12_toldType_27 : decode cX12_toldType 27 = .ok (.iaload, 1) := dr9 dk9_dX12_toldType_0_0.1 16 (27, .iaload, 1) rfl
theorem dX12_toldType_28 : decode cX12_toldType 28 = .ok (.bipush 24, 2) := dr9 dk9_dX12_toldType_0_0.1 17 (28, .bipush 24, 2) rfl
theorem dX12_toldType_30 : decode cX12_toldType 30 = .ok (.if_icmp .ne 7, 3) := dr9 dk9_dX12_toldType_0_0.1 18 (30, .if_icmp .ne 7, 3) rfl
theorem dX12_toldType_37 : decode cX12_toldType 37 = .ok (.iconst 0, 1) := dr9 dk9_dX12_toldType_0_0.1 19 (37, .iconst 0, 1) rfl
theorem dX12_toldType_38 : decode cX12_toldType 38 = .ok (.invokevirtual 331, 3) := dr9 dk9_dX12_toldType_0_0.1 20 (38, .invokevirtual 331, 3) rfl
theorem dX12_toldType_41 : decode cX12_toldType 41 = .ok (.aload_n 0, 1) := dr9 dk9_dX12_toldType_0_0.1 21 (41, .aload_n 0, 1) rfl
theorem dX12_toldType_42 : decode cX12_toldType 42 = .ok (.getfield 267, 3) := dr9 dk9_dX12_toldType_0_0.1 22 (42, .getfield 267, 3) rfl
theorem dX12_toldType_45 : decode cX12_toldType 45 = .ok (.ifCond .le 4, 3) := dr9 dk9_dX12_toldType_0_0.1 23 (45, .ifCond .le 4, 3) rfl
theorem dX12_toldType_49 : decode cX12_toldType 49 = .ok (.aload_n 0, 1) := dr9 dk9_dX12_toldType_0_0.2.1 0 (49, .aload_n 0, 1) rfl
theorem dX12_toldType_50 : decode cX12_toldType 50 = .ok (.invokevirtual 335, 3) := dr9 dk9_dX12_toldType_0_0.2.1 1 (50, .invokevirtual 335, 3) rfl
theorem dX12_toldType_53 : decode cX12_toldType 53 = .ok (.lstore_n 2, 1) := dr9 dk9_dX12_toldType_0_0.2.1 2 (53, .lstore_n 2, 1) rfl
theorem dX12_toldType_54 : decode cX12_toldType 54 = .ok (.iconst 0, 1) := dr9 dk9_dX12_toldType_0_0.2.1 3 (54, .iconst 0, 1) rfl
theorem dX12_toldType_55 : decode cX12_toldType 55 = .ok (.istore 4, 2) := dr9 dk9_dX12_toldType_0_0.2.1 4 (55, .istore 4, 2) rfl
theorem dX12_toldType_57 : decode cX12_toldType 57 = .ok (.iload 4, 2) := dr9 dk9_dX12_toldType_0_0.2.1 5 (57, .iload 4, 2) rfl
theorem dX12_toldType_59 : decode cX12_toldType 59 = .ok (.bipush 24, 2) := dr9 dk9_dX12_toldType_0_0.2.1 6 (59, .bipush 24, 2) rfl
theorem dX12_toldType_61 : decode cX12_toldType 61 = .ok (.if_icmp .ge 40, 3) := dr9 dk9_dX12_toldType_0_0.2.1 7 (61, .if_icmp .ge 40, 3) rfl
theorem dX12_toldType_64 : decode cX12_toldType 64 = .ok (.aload_n 0, 1) := dr9 dk9_dX12_toldType_0_0.2.1 8 (64, .aload_n 0, 1) rfl
theorem dX12_toldType_65 : decode cX12_toldType 65 = .ok (.getfield 49, 3) := dr9 dk9_dX12_toldType_0_0.2.1 9 (65, .getfield 49, 3) rfl
theorem dX12_toldType_68 : decode cX12_toldType 68 = .ok (.bipush 24, 2) := dr9 dk9_dX12_toldType_0_0.2.1 10 (68, .bipush 24, 2) rfl
theorem dX12_toldType_70 : decode cX12_toldType 70 = .ok (.iload_n 1, 1) := dr9 dk9_dX12_toldType_0_0.2.1 11 (70, .iload_n 1, 1) rfl
theorem dX12_toldType_71 : decode cX12_toldType 71 = .ok (.imul, 1) := dr9 dk9_dX12_toldType_0_0.2.1 12 (71, .imul, 1) rfl
theorem dX12_toldType_72 : decode cX12_toldType 72 = .ok (.iload 4, 2) := dr9 dk9_dX12_toldType_0_0.2.1 13 (72, .iload 4, 2) rfl
theorem dX12_toldType_74 : decode cX12_toldType 74 = .ok (.iadd, 1) := dr9 dk9_dX12_toldType_0_0.2.1 14 (74, .iadd, 1) rfl
theorem dX12_toldType_75 : decode cX12_toldType 75 = .ok (.iload 4, 2) := dr9 dk9_dX12_toldType_0_0.2.1 15 (75, .iload 4, 2) rfl
theorem dX12_toldType_77 : decode cX12_toldType 77 = .ok (.aload_n 0, 1) := dr9 dk9_dX12_toldType_0_0.2.1 16 (77, .aload_n 0, 1) rfl
theorem dX12_toldType_78 : decode cX12_toldType 78 = .ok (.getfield 43, 3) := dr9 dk9_dX12_toldType_0_0.2.1 17 (78, .getfield 43, 3) rfl
theorem dX12_toldType_81 : decode cX12_toldType 81 = .ok (.aload_n 0, 1) := dr9 dk9_dX12_toldType_0_0.2.1 18 (81, .aload_n 0, 1) rfl
theorem dX12_toldType_82 : decode cX12_toldType 82 = .ok (.getfield 289, 3) := dr9 dk9_dX12_toldType_0_0.2.1 19 (82, .getfield 289, 3) rfl
theorem dX12_toldType_85 : decode cX12_toldType 85 = .ok (.iaload, 1) := dr9 dk9_dX12_toldType_0_0.2.1 20 (85, .iaload, 1) rfl
theorem dX12_toldType_86 : decode cX12_toldType 86 = .ok (.if_icmp .ne 7, 3) := dr9 dk9_dX12_toldType_0_0.2.1 21 (86, .if_icmp .ne 7, 3) rfl
theorem dX12_toldType_93 : decode cX12_toldType 93 = .ok (.iconst 0, 1) := dr9 dk9_dX12_toldType_0_0.2.1 22 (93, .iconst 0, 1) rfl
theorem dX12_toldType_94 : decode cX12_toldType 94 = .ok (.bastore, 1) := dr9 dk9_dX12_toldType_0_0.2.1 23 (94, .bastore, 1) rfl
theorem dX12_toldType_95 : decode cX12_toldType 95 = .ok (.iinc 4 1, 3) := dr9 dk9_dX12_toldType_0_0.2.2.1 0 (95, .iinc 4 1, 3) rfl
theorem dX12_toldType_98 : decode cX12_toldType 98 = .ok (.goto (-41), 3) := dr9 dk9_dX12_toldType_0_0.2.2.1 1 (98, .goto (-41), 3) rfl
theorem dX12_toldType_89 : decode cX12_toldType 89 = .ok (.iconst 1, 1) := dr9 dk9_dX12_toldType_0_0.2.2.1 2 (89, .iconst 1, 1) rfl
theorem dX12_toldType_90 : decode cX12_toldType 90 = .ok (.goto 4, 3) := dr9 dk9_dX12_toldType_0_0.2.2.1 3 (90, .goto 4, 3) rfl
theorem dX12_toldType_101 : decode cX12_toldType 101 = .ok (.aload_n 0, 1) := dr9 dk9_dX12_toldType_0_0.2.2.1 4 (101, .aload_n 0, 1) rfl
theorem dX12_toldType_102 : decode cX12_toldType 102 = .ok (.iconst 1, 1) := dr9 dk9_dX12_toldType_0_0.2.2.1 5 (102, .iconst 1, 1) rfl
theorem dX12_toldType_103 : decode cX12_toldType 103 = .ok (.invokevirtual 280, 3) := dr9 dk9_dX12_toldType_0_0.2.2.1 6 (103, .invokevirtual 280, 3) rfl
theorem dX12_toldType_106 : decode cX12_toldType 106 = .ok (.ifCond .eq 12, 3) := dr9 dk9_dX12_toldType_0_0.2.2.1 7 (106, .ifCond .eq 12, 3) rfl
theorem dX12_toldType_109 : decode cX12_toldType 109 = .ok (.aload_n 0, 1) := dr9 dk9_dX12_toldType_0_0.2.2.1 8 (109, .aload_n 0, 1) rfl
theorem dX12_toldType_110 : decode cX12_toldType 110 = .ok (.aload_n 0, 1) := dr9 dk9_dX12_toldType_0_0.2.2.1 9 (110, .aload_n 0, 1) rfl
theorem dX12_toldType_111 : decode cX12_toldType 111 = .ok (.getfield 49, 3) := dr9 dk9_dX12_toldType_0_0.2.2.1 10 (111, .getfield 49, 3) rfl
theorem dX12_toldType_114 : decode cX12_toldType 114 = .ok (.iload_n 1, 1) := dr9 dk9_dX12_toldType_0_0.2.2.1 11 (114, .iload_n 1, 1) rfl
theorem dX12_toldType_115 : decode cX12_toldType 115 = .ok (.invokevirtual 339, 3) := dr9 dk9_dX12_toldType_0_0.2.2.1 12 (115, .invokevirtual 339, 3) rfl
theorem dX12_toldType_118 : decode cX12_toldType 118 = .ok (.aload_n 0, 1) := dr9 dk9_dX12_toldType_0_0.2.2.1 13 (118, .aload_n 0, 1) rfl
theorem dX12_toldType_119 : decode cX12_toldType 119 = .ok (.bipush 59, 2) := dr9 dk9_dX12_toldType_0_0.2.2.1 14 (119, .bipush 59, 2) rfl
theorem dX12_toldType_121 : decode cX12_toldType 121 = .ok (.invokevirtual 343, 3) := dr9 dk9_dX12_toldType_0_0.2.2.1 15 (121, .invokevirtual 343, 3) rfl
theorem dX12_toldType_124 : decode cX12_toldType 124 = .ok (.aload_n 0, 1) := dr9 dk9_dX12_toldType_0_0.2.2.1 16 (124, .aload_n 0, 1) rfl
theorem dX12_toldType_125 : decode cX12_toldType 125 = .ok (.getfield 46, 3) := dr9 dk9_dX12_toldType_0_0.2.2.1 17 (125, .getfield 46, 3) rfl
theorem dX12_toldType_128 : decode cX12_toldType 128 = .ok (.iload_n 1, 1) := dr9 dk9_dX12_toldType_0_0.2.2.1 18 (128, .iload_n 1, 1) rfl
theorem dX12_toldType_129 : decode cX12_toldType 129 = .ok (.lload_n 2, 1) := dr9 dk9_dX12_toldType_0_0.2.2.1 19 (129, .lload_n 2, 1) rfl
theorem dX12_toldType_130 : decode cX12_toldType 130 = .ok (.lastore, 1) := dr9 dk9_dX12_toldType_0_0.2.2.1 20 (130, .lastore, 1) rfl
theorem dX12_toldType_131 : decode cX12_toldType 131 = .ok (.aload_n 0, 1) := dr9 dk9_dX12_toldType_0_0.2.2.1 21 (131, .aload_n 0, 1) rfl
theorem dX12_toldType_132 : decode cX12_toldType 132 = .ok (.getfield 43, 3) := dr9 dk9_dX12_toldType_0_0.2.2.1 22 (132, .getfield 43, 3) rfl
theorem dX12_toldType_135 : decode cX12_toldType 135 = .ok (.aload_n 0, 1) := dr9 dk9_dX12_toldType_0_0.2.2.1 23 (135, .aload_n 0, 1) rfl
theorem dX12_toldType_136 : decode cX12_toldType 136 = .ok (.getfield 289, 3) := dr9 dk9_dX12_toldType_0_0.2.2.2 0 (136, .getfield 289, 3) rfl
theorem dX12_toldType_139 : decode cX12_toldType 139 = .ok (.dup2, 1) := dr9 dk9_dX12_toldType_0_0.2.2.2 1 (139, .dup2, 1) rfl
theorem dX12_toldType_140 : decode cX12_toldType 140 = .ok (.iaload, 1) := dr9 dk9_dX12_toldType_0_0.2.2.2 2 (140, .iaload, 1) rfl
theorem dX12_toldType_141 : decode cX12_toldType 141 = .ok (.iconst 1, 1) := dr9 dk9_dX12_toldType_0_0.2.2.2 3 (141, .iconst 1, 1) rfl
theorem dX12_toldType_142 : decode cX12_toldType 142 = .ok (.iadd, 1) := dr9 dk9_dX12_toldType_0_0.2.2.2 4 (142, .iadd, 1) rfl
theorem dX12_toldType_143 : decode cX12_toldType 143 = .ok (.iastore, 1) := dr9 dk9_dX12_toldType_0_0.2.2.2 5 (143, .iastore, 1) rfl
theorem dX12_toldType_144 : decode cX12_toldType 144 = .ok (.return_, 1) := dr9 dk9_dX12_toldType_0_0.2.2.2 6 (144, .return_, 1) rfl
theorem dX12_toldType_48 : decode cX12_toldType 48 = .ok (.return_, 1) := dr9 dk9_dX12_toldType_0_0.2.2.2 7 (48, .return_, 1) rfl
theorem dX12_toldType_33 : decode cX12_toldType 33 = .ok (.iconst 1, 1) := dr9 dk9_dX12_toldType_0_0.2.2.2 8 (33, .iconst 1, 1) rfl
theorem dX12_toldType_34 : decode cX12_toldType 34 = .ok (.goto 4, 3) := dr9 dk9_dX12_toldType_0_0.2.2.2 9 (34, .goto 4, 3) rfl
theorem dk9_dX12_toldSetting_0_0 : dOk cX12_toldSetting [(0, .bipush 12, 2), (2, .aload_n 0, 1), (3, .getfield 289, 3), (6, .imul, 1), (7, .aload_n 0, 1), (8, .getfield 53, 3), (11, .aload_n 0, 1), (12, .getfield 289, 3), (15, .iaload, 1), (16, .iadd, 1), (17, .istore_n 1, 1), (18, .aload_n 0, 1), (19, .aload_n 0, 1), (20, .getfield 53, 3), (23, .aload_n 0, 1), (24, .getfield 289, 3), (27, .iaload, 1), (28, .bipush 12, 2), (30, .if_icmp .ne 7, 3), (37, .iconst 0, 1), (38, .invokevirtual 331, 3), (41, .aload_n 0, 1), (42, .getfield 267, 3), (45, .ifCond .le 4, 3)] = true ∧ dOk cX12_toldSetting [(49, .aload_n 0, 1), (50, .getfield 56, 3), (53, .iload_n 1, 1), (54, .aload_n 0, 1), (55, .invokevirtual 335, 3), (58, .lastore, 1), (59, .aload_n 0, 1), (60, .getfield 59, 3), (63, .iload_n 1, 1), (64, .aload_n 0, 1), (65, .iconst 0, 1), (66, .ldc_w 346, 3), (69, .invokevirtual 347, 3), (72, .iastore, 1), (73, .aload_n 0, 1), (74, .bipush 59, 2), (76, .invokevirtual 343, 3), (79, .aload_n 0, 1), (80, .getfield 53, 3), (83, .aload_n 0, 1), (84, .getfield 289, 3), (87, .dup2, 1), (88, .iaload, 1), (89, .iconst 1, 1)] = true ∧ dOk cX12_toldSetting [(90, .iadd, 1), (91, .iastore, 1), (92, .return_, 1), (48, .return_, 1), (33, .iconst 1, 1), (34, .goto 4, 3)] = true := by decide +kernel
theorem dX12_toldSetting_0 : decode cX12_toldSetting 0 = .ok (.bipush 12, 2) := dr9 dk9_dX12_toldSetting_0_0.1 0 (0, .bipush 12, 2) rfl
theorem dX12_toldSetting_2 : decode cX12_toldSetting 2 = .ok (.aload_n 0, 1) := dr9 dk9_dX12_toldSetting_0_0.1 1 (2, .aload_n 0, 1) rfl
theorem dX12_toldSetting_3 : decode cX12_toldSetting 3 = .ok (.getfield 289, 3) := dr9 dk9_dX12_toldSetting_0_0.1 2 (3, .getfield 289, 3) rfl
theorem dX12_toldSetting_6 : decode cX12_toldSetting 6 = .ok (.imul, 1) := dr9 dk9_dX12_toldSetting_0_0.1 3 (6, .imul, 1) rfl
theorem dX12_toldSetting_7 : decode cX12_toldSetting 7 = .ok (.aload_n 0, 1) := dr9 dk9_dX12_toldSetting_0_0.1 4 (7, .aload_n 0, 1) rfl
theorem dX12_toldSetting_8 : decode cX12_toldSetting 8 = .ok (.getfield 53, 3) := dr9 dk9_dX12_toldSetting_0_0.1 5 (8, .getfield 53, 3) rfl
theorem dX12_toldSetting_11 : decode cX12_toldSetting 11 = .ok (.aload_n 0, 1) := dr9 dk9_dX12_toldSetting_0_0.1 6 (11, .aload_n 0, 1) rfl
theorem dX12_toldSetting_12 : decode cX12_toldSetting 12 = .ok (.getfield 289, 3) := dr9 dk9_dX12_toldSetting_0_0.1 7 (12, .getfield 289, 3) rfl
theorem dX12_toldSetting_15 : decode cX12_toldSetting 15 = .ok (.iaload, 1) := dr9 dk9_dX12_toldSetting_0_0.1 8 (15, .iaload, 1) rfl
theorem dX12_toldSetting_16 : decode cX12_toldSetting 16 = .ok (.iadd, 1) := dr9 dk9_dX12_toldSetting_0_0.1 9 (16, .iadd, 1) rfl
theorem dX12_toldSetting_17 : decode cX12_toldSetting 17 = .ok (.istore_n 1, 1) := dr9 dk9_dX12_toldSetting_0_0.1 10 (17, .istore_n 1, 1) rfl
theorem dX12_toldSetting_18 : decode cX12_toldSetting 18 = .ok (.aload_n 0, 1) := dr9 dk9_dX12_toldSetting_0_0.1 11 (18, .aload_n 0, 1) rfl
theorem dX12_toldSetting_19 : decode cX12_toldSetting 19 = .ok (.aload_n 0, 1) := dr9 dk9_dX12_toldSetting_0_0.1 12 (19, .aload_n 0, 1) rfl
theorem dX12_toldSetting_20 : decode cX12_toldSetting 20 = .ok (.getfield 53, 3) := dr9 dk9_dX12_toldSetting_0_0.1 13 (20, .getfield 53, 3) rfl
theorem dX12_toldSetting_23 : decode cX12_toldSetting 23 = .ok (.aload_n 0, 1) := dr9 dk9_dX12_toldSetting_0_0.1 14 (23, .aload_n 0, 1) rfl
theorem dX12_toldSetting_24 : decode cX12_toldSetting 24 = .ok (.getfield 289, 3) := dr9 dk9_dX12_toldSetting_0_0.1 15 (24, .getfield 289, 3) rfl
theorem dX12_toldSetting_27 : decode cX12_toldSetting 27 = .ok (.iaload, 1) := dr9 dk9_dX12_toldSetting_0_0.1 16 (27, .iaload, 1) rfl
theorem dX12_toldSetting_28 : decode cX12_toldSetting 28 = .ok (.bipush 12, 2) := dr9 dk9_dX12_toldSetting_0_0.1 17 (28, .bipush 12, 2) rfl
theorem dX12_toldSetting_30 : decode cX12_toldSetting 30 = .ok (.if_icmp .ne 7, 3) := dr9 dk9_dX12_toldSetting_0_0.1 18 (30, .if_icmp .ne 7, 3) rfl
theorem dX12_toldSetting_37 : decode cX12_toldSetting 37 = .ok (.iconst 0, 1) := dr9 dk9_dX12_toldSetting_0_0.1 19 (37, .iconst 0, 1) rfl
theorem dX12_toldSetting_38 : decode cX12_toldSetting 38 = .ok (.invokevirtual 331, 3) := dr9 dk9_dX12_toldSetting_0_0.1 20 (38, .invokevirtual 331, 3) rfl
theorem dX12_toldSetting_41 : decode cX12_toldSetting 41 = .ok (.aload_n 0, 1) := dr9 dk9_dX12_toldSetting_0_0.1 21 (41, .aload_n 0, 1) rfl
theorem dX12_toldSetting_42 : decode cX12_toldSetting 42 = .ok (.getfield 267, 3) := dr9 dk9_dX12_toldSetting_0_0.1 22 (42, .getfield 267, 3) rfl
theorem dX12_toldSetting_45 : decode cX12_toldSetting 45 = .ok (.ifCond .le 4, 3) := dr9 dk9_dX12_toldSetting_0_0.1 23 (45, .ifCond .le 4, 3) rfl
theorem dX12_toldSetting_49 : decode cX12_toldSetting 49 = .ok (.aload_n 0, 1) := dr9 dk9_dX12_toldSetting_0_0.2.1 0 (49, .aload_n 0, 1) rfl
theorem dX12_toldSetting_50 : decode cX12_toldSetting 50 = .ok (.getfield 56, 3) := dr9 dk9_dX12_toldSetting_0_0.2.1 1 (50, .getfield 56, 3) rfl
theorem dX12_toldSetting_53 : decode cX12_toldSetting 53 = .ok (.iload_n 1, 1) := dr9 dk9_dX12_toldSetting_0_0.2.1 2 (53, .iload_n 1, 1) rfl
theorem dX12_toldSetting_54 : decode cX12_toldSetting 54 = .ok (.aload_n 0, 1) := dr9 dk9_dX12_toldSetting_0_0.2.1 3 (54, .aload_n 0, 1) rfl
theorem dX12_toldSetting_55 : decode cX12_toldSetting 55 = .ok (.invokevirtual 335, 3) := dr9 dk9_dX12_toldSetting_0_0.2.1 4 (55, .invokevirtual 335, 3) rfl
theorem dX12_toldSetting_58 : decode cX12_toldSetting 58 = .ok (.lastore, 1) := dr9 dk9_dX12_toldSetting_0_0.2.1 5 (58, .lastore, 1) rfl
theorem dX12_toldSetting_59 : decode cX12_toldSetting 59 = .ok (.aload_n 0, 1) := dr9 dk9_dX12_toldSetting_0_0.2.1 6 (59, .aload_n 0, 1) rfl
theorem dX12_toldSetting_60 : decode cX12_toldSetting 60 = .ok (.getfield 59, 3) := dr9 dk9_dX12_toldSetting_0_0.2.1 7 (60, .getfield 59, 3) rfl
theorem dX12_toldSetting_63 : decode cX12_toldSetting 63 = .ok (.iload_n 1, 1) := dr9 dk9_dX12_toldSetting_0_0.2.1 8 (63, .iload_n 1, 1) rfl
theorem dX12_toldSetting_64 : decode cX12_toldSetting 64 = .ok (.aload_n 0, 1) := dr9 dk9_dX12_toldSetting_0_0.2.1 9 (64, .aload_n 0, 1) rfl
theorem dX12_toldSetting_65 : decode cX12_toldSetting 65 = .ok (.iconst 0, 1) := dr9 dk9_dX12_toldSetting_0_0.2.1 10 (65, .iconst 0, 1) rfl
theorem dX12_toldSetting_66 : decode cX12_toldSetting 66 = .ok (.ldc_w 346, 3) := dr9 dk9_dX12_toldSetting_0_0.2.1 11 (66, .ldc_w 346, 3) rfl
theorem dX12_toldSetting_69 : decode cX12_toldSetting 69 = .ok (.invokevirtual 347, 3) := dr9 dk9_dX12_toldSetting_0_0.2.1 12 (69, .invokevirtual 347, 3) rfl
theorem dX12_toldSetting_72 : decode cX12_toldSetting 72 = .ok (.iastore, 1) := dr9 dk9_dX12_toldSetting_0_0.2.1 13 (72, .iastore, 1) rfl
theorem dX12_toldSetting_73 : decode cX12_toldSetting 73 = .ok (.aload_n 0, 1) := dr9 dk9_dX12_toldSetting_0_0.2.1 14 (73, .aload_n 0, 1) rfl
theorem dX12_toldSetting_74 : decode cX12_toldSetting 74 = .ok (.bipush 59, 2) := dr9 dk9_dX12_toldSetting_0_0.2.1 15 (74, .bipush 59, 2) rfl
theorem dX12_toldSetting_76 : decode cX12_toldSetting 76 = .ok (.invokevirtual 343, 3) := dr9 dk9_dX12_toldSetting_0_0.2.1 16 (76, .invokevirtual 343, 3) rfl
theorem dX12_toldSetting_79 : decode cX12_toldSetting 79 = .ok (.aload_n 0, 1) := dr9 dk9_dX12_toldSetting_0_0.2.1 17 (79, .aload_n 0, 1) rfl
theorem dX12_toldSetting_80 : decode cX12_toldSetting 80 = .ok (.getfield 53, 3) := dr9 dk9_dX12_toldSetting_0_0.2.1 18 (80, .getfield 53, 3) rfl
theorem dX12_toldSetting_83 : decode cX12_toldSetting 83 = .ok (.aload_n 0, 1) := dr9 dk9_dX12_toldSetting_0_0.2.1 19 (83, .aload_n 0, 1) rfl
theorem dX12_toldSetting_84 : decode cX12_toldSetting 84 = .ok (.getfield 289, 3) := dr9 dk9_dX12_toldSetting_0_0.2.1 20 (84, .getfield 289, 3) rfl
theorem dX12_toldSetting_87 : decode cX12_toldSetting 87 = .ok (.dup2, 1) := dr9 dk9_dX12_toldSetting_0_0.2.1 21 (87, .dup2, 1) rfl
theorem dX12_toldSetting_88 : decode cX12_toldSetting 88 = .ok (.iaload, 1) := dr9 dk9_dX12_toldSetting_0_0.2.1 22 (88, .iaload, 1) rfl
theorem dX12_toldSetting_89 : decode cX12_toldSetting 89 = .ok (.iconst 1, 1) := dr9 dk9_dX12_toldSetting_0_0.2.1 23 (89, .iconst 1, 1) rfl
theorem dX12_toldSetting_90 : decode cX12_toldSetting 90 = .ok (.iadd, 1) := dr9 dk9_dX12_toldSetting_0_0.2.2 0 (90, .iadd, 1) rfl
theorem dX12_toldSetting_91 : decode cX12_toldSetting 91 = .ok (.iastore, 1) := dr9 dk9_dX12_toldSetting_0_0.2.2 1 (91, .iastore, 1) rfl
theorem dX12_toldSetting_92 : decode cX12_toldSetting 92 = .ok (.return_, 1) := dr9 dk9_dX12_toldSetting_0_0.2.2 2 (92, .return_, 1) rfl
theorem dX12_toldSetting_48 : decode cX12_toldSetting 48 = .ok (.return_, 1) := dr9 dk9_dX12_toldSetting_0_0.2.2 3 (48, .return_, 1) rfl
theorem dX12_toldSetting_33 : decode cX12_toldSetting 33 = .ok (.iconst 1, 1) := dr9 dk9_dX12_toldSetting_0_0.2.2 4 (33, .iconst 1, 1) rfl
theorem dX12_toldSetting_34 : decode cX12_toldSetting 34 = .ok (.goto 4, 3) := dr9 dk9_dX12_toldSetting_0_0.2.2 5 (34, .goto 4, 3) rfl
theorem dk9_dX12_emit_0_0 : dOk cX12_emit [(0, .aload_n 0, 1), (1, .getfield 140, 3), (4, .aload_n 0, 1), (5, .getfield 295, 3), (8, .aload_n 0, 1), (9, .getfield 292, 3), (12, .iadd, 1), (13, .iload_n 1, 1), (14, .iastore, 1), (15, .aload_n 0, 1), (16, .getfield 143, 3), (19, .aload_n 0, 1), (20, .getfield 295, 3), (23, .aload_n 0, 1), (24, .getfield 292, 3), (27, .iadd, 1), (28, .iload_n 2, 1), (29, .iastore, 1), (30, .aload_n 0, 1), (31, .getfield 146, 3), (34, .aload_n 0, 1), (35, .getfield 295, 3), (38, .aload_n 0, 1), (39, .getfield 292, 3)] = true ∧ dOk cX12_emit [(42, .iadd, 1), (43, .iload_n 3, 1), (44, .iastore, 1), (45, .aload_n 0, 1), (46, .dup, 1), (47, .getfield 292, 3), (50, .iconst 1, 1), (51, .iadd, 1), (52, .putfield 292, 3), (55, .aload_n 0, 1), (56, .getfield 295, 3), (59, .aload_n 0, 1), (60, .getfield 292, 3), (63, .iadd, 1), (64, .iconst 1, 1), (65, .isub, 1), (66, .ireturn, 1)] = true := by decide +kernel
theorem dX12_emit_0 : decode cX12_emit 0 = .ok (.aload_n 0, 1) := dr9 dk9_dX12_emit_0_0.1 0 (0, .aload_n 0, 1) rfl
theorem dX12_emit_1 : decode cX12_emit 1 = .ok (.getfield 140, 3) := dr9 dk9_dX12_emit_0_0.1 1 (1, .getfield 140, 3) rfl
theorem dX12_emit_4 : decode cX12_emit 4 = .ok (.aload_n 0, 1) := dr9 dk9_dX12_emit_0_0.1 2 (4, .aload_n 0, 1) rfl
theorem dX12_emit_5 : decode cX12_emit 5 = .ok (.getfield 295, 3) := dr9 dk9_dX12_emit_0_0.1 3 (5, .getfield 295, 3) rfl
theorem dX12_emit_8 : decode cX12_emit 8 = .ok (.aload_n 0, 1) := dr9 dk9_dX12_emit_0_0.1 4 (8, .aload_n 0, 1) rfl
theorem dX12_emit_9 : decode cX12_emit 9 = .ok (.getfield 292, 3) := dr9 dk9_dX12_emit_0_0.1 5 (9, .getfield 292, 3) rfl
theorem dX12_emit_12 : decode cX12_emit 12 = .ok (.iadd, 1) := dr9 dk9_dX12_emit_0_0.1 6 (12, .iadd, 1) rfl
theorem dX12_emit_13 : decode cX12_emit 13 = .ok (.iload_n 1, 1) := dr9 dk9_dX12_emit_0_0.1 7 (13, .iload_n 1, 1) rfl
theorem dX12_emit_14 : decode cX12_emit 14 = .ok (.iastore, 1) := dr9 dk9_dX12_emit_0_0.1 8 (14, .iastore, 1) rfl
theorem dX12_emit_15 : decode cX12_emit 15 = .ok (.aload_n 0, 1) := dr9 dk9_dX12_emit_0_0.1 9 (15, .aload_n 0, 1) rfl
theorem dX12_emit_16 : decode cX12_emit 16 = .ok (.getfield 143, 3) := dr9 dk9_dX12_emit_0_0.1 10 (16, .getfield 143, 3) rfl
theorem dX12_emit_19 : decode cX12_emit 19 = .ok (.aload_n 0, 1) := dr9 dk9_dX12_emit_0_0.1 11 (19, .aload_n 0, 1) rfl
theorem dX12_emit_20 : decode cX12_emit 20 = .ok (.getfield 295, 3) := dr9 dk9_dX12_emit_0_0.1 12 (20, .getfield 295, 3) rfl
theorem dX12_emit_23 : decode cX12_emit 23 = .ok (.aload_n 0, 1) := dr9 dk9_dX12_emit_0_0.1 13 (23, .aload_n 0, 1) rfl
theorem dX12_emit_24 : decode cX12_emit 24 = .ok (.getfield 292, 3) := dr9 dk9_dX12_emit_0_0.1 14 (24, .getfield 292, 3) rfl
theorem dX12_emit_27 : decode cX12_emit 27 = .ok (.iadd, 1) := dr9 dk9_dX12_emit_0_0.1 15 (27, .iadd, 1) rfl
theorem dX12_emit_28 : decode cX12_emit 28 = .ok (.iload_n 2, 1) := dr9 dk9_dX12_emit_0_0.1 16 (28, .iload_n 2, 1) rfl
theorem dX12_emit_29 : decode cX12_emit 29 = .ok (.iastore, 1) := dr9 dk9_dX12_emit_0_0.1 17 (29, .iastore, 1) rfl
theorem dX12_emit_30 : decode cX12_emit 30 = .ok (.aload_n 0, 1) := dr9 dk9_dX12_emit_0_0.1 18 (30, .aload_n 0, 1) rfl
theorem dX12_emit_31 : decode cX12_emit 31 = .ok (.getfield 146, 3) := dr9 dk9_dX12_emit_0_0.1 19 (31, .getfield 146, 3) rfl
theorem dX12_emit_34 : decode cX12_emit 34 = .ok (.aload_n 0, 1) := dr9 dk9_dX12_emit_0_0.1 20 (34, .aload_n 0, 1) rfl
theorem dX12_emit_35 : decode cX12_emit 35 = .ok (.getfield 295, 3) := dr9 dk9_dX12_emit_0_0.1 21 (35, .getfield 295, 3) rfl
theorem dX12_emit_38 : decode cX12_emit 38 = .ok (.aload_n 0, 1) := dr9 dk9_dX12_emit_0_0.1 22 (38, .aload_n 0, 1) rfl
theorem dX12_emit_39 : decode cX12_emit 39 = .ok (.getfield 292, 3) := dr9 dk9_dX12_emit_0_0.1 23 (39, .getfield 292, 3) rfl
theorem dX12_emit_42 : decode cX12_emit 42 = .ok (.iadd, 1) := dr9 dk9_dX12_emit_0_0.2 0 (42, .iadd, 1) rfl
theorem dX12_emit_43 : decode cX12_emit 43 = .ok (.iload_n 3, 1) := dr9 dk9_dX12_emit_0_0.2 1 (43, .iload_n 3, 1) rfl
theorem dX12_emit_44 : decode cX12_emit 44 = .ok (.iastore, 1) := dr9 dk9_dX12_emit_0_0.2 2 (44, .iastore, 1) rfl
theorem dX12_emit_45 : decode cX12_emit 45 = .ok (.aload_n 0, 1) := dr9 dk9_dX12_emit_0_0.2 3 (45, .aload_n 0, 1) rfl
theorem dX12_emit_46 : decode cX12_emit 46 = .ok (.dup, 1) := dr9 dk9_dX12_emit_0_0.2 4 (46, .dup, 1) rfl
theorem dX12_emit_47 : decode cX12_emit 47 = .ok (.getfield 292, 3) := dr9 dk9_dX12_emit_0_0.2 5 (47, .getfield 292, 3) rfl
theorem dX12_emit_50 : decode cX12_emit 50 = .ok (.iconst 1, 1) := dr9 dk9_dX12_emit_0_0.2 6 (50, .iconst 1, 1) rfl
theorem dX12_emit_51 : decode cX12_emit 51 = .ok (.iadd, 1) := dr9 dk9_dX12_emit_0_0.2 7 (51, .iadd, 1) rfl
theorem dX12_emit_52 : decode cX12_emit 52 = .ok (.putfield 292, 3) := dr9 dk9_dX12_emit_0_0.2 8 (52, .putfield 292, 3) rfl
theorem dX12_emit_55 : decode cX12_emit 55 = .ok (.aload_n 0, 1) := dr9 dk9_dX12_emit_0_0.2 9 (55, .aload_n 0, 1) rfl
theorem dX12_emit_56 : decode cX12_emit 56 = .ok (.getfield 295, 3) := dr9 dk9_dX12_emit_0_0.2 10 (56, .getfield 295, 3) rfl
theorem dX12_emit_59 : decode cX12_emit 59 = .ok (.aload_n 0, 1) := dr9 dk9_dX12_emit_0_0.2 11 (59, .aload_n 0, 1) rfl
theorem dX12_emit_60 : decode cX12_emit 60 = .ok (.getfield 292, 3) := dr9 dk9_dX12_emit_0_0.2 12 (60, .getfield 292, 3) rfl
theorem dX12_emit_63 : decode cX12_emit 63 = .ok (.iadd, 1) := dr9 dk9_dX12_emit_0_0.2 13 (63, .iadd, 1) rfl
theorem dX12_emit_64 : decode cX12_emit 64 = .ok (.iconst 1, 1) := dr9 dk9_dX12_emit_0_0.2 14 (64, .iconst 1, 1) rfl
theorem dX12_emit_65 : decode cX12_emit 65 = .ok (.isub, 1) := dr9 dk9_dX12_emit_0_0.2 15 (65, .isub, 1) rfl
theorem dX12_emit_66 : decode cX12_emit 66 = .ok (.ireturn, 1) := dr9 dk9_dX12_emit_0_0.2 16 (66, .ireturn, 1) rfl
abbrev r_s_takeTypes_typeIs : Room := { frames := 3, cells := 0, slots := 0, locals := 71 }
abbrev q_s_takeTypes_typeIs (D : va_G) (ks : KS) (ad : Nat → Nat) (kk : Nat → ClassId) (V : Vf) (L : Lf) (p1 : Int32) (n : Nat) (A : Nat → Prop) : Array Value → State → Outcome → State → Prop := va_Qv (fun (u : Vf × Lf) => rgd bM u.1 ∧ agr [(0, 7), (0, 8)] [15, 21, 53] V u.1 ∧ u.2 = L ∧ (Imp ((u.1 0 8).toInt = 0) (0 ≤ (u.1 0 7).toInt ∧ (u.1 0 7).toInt ≤ n ∧ (V 0 8).toInt = 0 ∧ (V 0 7).toInt ≤ (u.1 0 7).toInt))) (fun u t => gq D A (mw ad kk ks.1 u.1 u.2) (mty kk) t) A
abbrev r_s_takeTypes_componentIs : Room := { frames := 3, cells := 0, slots := 0, locals := 71 }
abbrev q_s_takeTypes_componentIs (D : va_G) (ks : KS) (ad : Nat → Nat) (kk : Nat → ClassId) (V : Vf) (L : Lf) (p1 : Int32) (n : Nat) (A : Nat → Prop) : Array Value → State → Outcome → State → Prop := va_Qv (fun (u : Vf × Lf) => rgd bM u.1 ∧ agr [(0, 7), (0, 8)] [15, 21, 53] V u.1 ∧ u.2 = L ∧ (Imp ((u.1 0 8).toInt = 0) (0 ≤ (u.1 0 7).toInt ∧ (u.1 0 7).toInt ≤ n ∧ (V 0 8).toInt = 0 ∧ (V 0 7).toInt ≤ (u.1 0 7).toInt))) (fun u t => gq D A (mw ad kk ks.1 u.1 u.2) (mty kk) t) A
abbrev r_s_toldType : Room := { frames := 4, cells := 0, slots := 0, locals := 97 }
abbrev q_s_toldType (D : va_G) (ks : KS) (ad : Nat → Nat) (kk : Nat → ClassId) (V : Vf) (L : Lf) (n : Nat) (A : Nat → Prop) : Array Value → State → Outcome → State → Prop := va_Qv (fun (u : Vf × Lf) => rgd bM u.1 ∧ agr [(0, 7), (0, 8)] [13, 14, 15, 21, 53] V u.1 ∧ agL [13, 14, 15, 21, 53] L u.2 ∧ (Imp ((u.1 0 8).toInt = 0) (0 ≤ (u.1 0 7).toInt ∧ (u.1 0 7).toInt ≤ n ∧ (V 0 8).toInt = 0 ∧ (V 0 7).toInt ≤ (u.1 0 7).toInt)) ∧ (Imp ((u.1 0 8).toInt = 0) ((V 0 7).toInt + 1 ≤ (u.1 0 7).toInt))) (fun u t => gq D A (mw ad kk ks.1 u.1 u.2) (mty kk) t) A
abbrev r_s_toldSetting : Room := { frames := 2, cells := 0, slots := 0, locals := 47 }
abbrev q_s_toldSetting (D : va_G) (ks : KS) (ad : Nat → Nat) (kk : Nat → ClassId) (V : Vf) (L : Lf) (n : Nat) (A : Nat → Prop) : Array Value → State → Outcome → State → Prop := va_Qv (fun (u : Vf × Lf) => rgd bM u.1 ∧ agr [(0, 7), (0, 8)] [16, 17, 18] V u.1 ∧ agL [16, 17, 18] L u.2 ∧ (Imp ((u.1 0 8).toInt = 0) (0 ≤ (u.1 0 7).toInt ∧ (u.1 0 7).toInt ≤ n ∧ (V 0 8).toInt = 0 ∧ (V 0 7).toInt ≤ (u.1 0 7).toInt)) ∧ (Imp ((u.1 0 8).toInt = 0) ((V 0 7).toInt + 1 ≤ (u.1 0 7).toInt))) (fun u t => gq D A (mw ad kk ks.1 u.1 u.2) (mty kk) t) A
abbrev r_s_emit : Room := { frames := 0, cells := 0, slots := 0, locals := 0 }
abbrev q_s_emit (D : va_G) (ks : KS) (ad : Nat → Nat) (kk : Nat → ClassId) (V : Vf) (L : Lf) (p0 : Int32) (p1 : Int32) (p2 : Int32) (A : Nat → Prop) : Array Value → State → Outcome → State → Prop := va_Qi (fun (r : Int32) (u : Vf × Lf) => rgd bM u.1 ∧ agr [(0, 48)] [45, 46, 47] V u.1 ∧ u.2 = L ∧ (0 ≤ r.toInt ∧ r.toInt ≤ 20000)) (fun u t => gq D A (mw ad kk ks.1 u.1 u.2) (mty kk) t) A
end
section
theorem w1760 : Cond.fieldLink RX12 408 "WiringHouseModel" "isReady" "Z" ∈ GW := gw_k tk9_7 165 (by decide +kernel) rfl
theorem w1761 : Cond.fieldLink RX12 244 "WiringHouseModel" "scopes" "I" ∈ GW := gw_k tk9_7 166 (by decide +kernel) rfl
theorem w1762 : Cond.fieldLink RX12 152 "WiringHouseModel" "isOpen" "[Z" ∈ GW := gw_k tk9_7 167 (by decide +kernel) rfl
theorem w1763 : Cond.fieldLink RX12 155 "WiringHouseModel" "scopeKind" "[I" ∈ GW := gw_k tk9_7 168 (by decide +kernel) rfl
theorem w1765 : Cond.fieldLink RX12 161 "WiringHouseModel" "spoilt" "[Z" ∈ GW := gw_k tk9_7 170 (by decide +kernel) rfl
theorem w1766 : Cond.fieldLink RX12 411 "WiringHouseModel" "objects" "I" ∈ GW := gw_k tk9_7 171 (by decide +kernel) rfl
theorem w1771 : Cond.fieldLink RX12 414 "WiringHouseModel" "makings" "I" ∈ GW := gw_k tk9_7 176 (by decide +kernel) rfl
theorem w1779 : Cond.fieldLink RX12 417 "WiringHouseModel" "closeds" "I" ∈ GW := gw_k tk9_7 184 (by decide +kernel) rfl
theorem w1782 : Cond.fieldLink RX12 420 "WiringHouseModel" "dids" "I" ∈ GW := gw_k tk9_7 187 (by decide +kernel) rfl
theorem w1787 : Cond.fieldLink RX12 435 "WiringHouseModel" "faults" "I" ∈ GW := gw_k tk9_7 192 (by decide +kernel) rfl
theorem w1717 : Cond.fieldLink RX12 286 "WiringHouseModel" "now" "I" ∈ GW := gw_k tk9_7 122 (by decide +kernel) rfl
theorem w1731 : Cond.fieldLink RX12 80 "WiringHouseModel" "whenOf" "[I" ∈ GW := gw_k tk9_7 136 (by decide +kernel) rfl
theorem w1732 : Cond.fieldLink RX12 83 "WiringHouseModel" "whenIs" "[I" ∈ GW := gw_k tk9_7 137 (by decide +kernel) rfl
theorem w1728 : Cond.fieldLink RX12 71 "WiringHouseModel" "scopeOf" "[I" ∈ GW := gw_k tk9_7 133 (by decide +kernel) rfl
theorem w1764 : Cond.fieldLink RX12 158 "WiringHouseModel" "dayOf" "[I" ∈ GW := gw_k tk9_7 169 (by decide +kernel) rfl
theorem w1767 : Cond.fieldLink RX12 164 "WiringHouseModel" "objectOf" "[I" ∈ GW := gw_k tk9_7 172 (by decide +kernel) rfl
theorem w1768 : Cond.fieldLink RX12 167 "WiringHouseModel" "objectIn" "[I" ∈ GW := gw_k tk9_7 173 (by decide +kernel) rfl
theorem w1769 : Cond.fieldLink RX12 170 "WiringHouseModel" "state" "[I" ∈ GW := gw_k tk9_7 174 (by decide +kernel) rfl
theorem w1770 : Cond.fieldLink RX12 173 "WiringHouseModel" "madeAt" "[I" ∈ GW := gw_k tk9_7 175 (by decide +kernel) rfl
theorem w2218 : Cond.code yX12_scope cX12_scope 4 (some .int) ∈ GW := gw_k tk9_9 143 (rfl) rfl
theorem w2215 : Cond.methodLink RX12 571 yX12_scope ∈ GW := gw_k tk9_9 140 (by decide +kernel) rfl
theorem w2217 : Cond.instanceMethod yX12_scope ∈ GW := gw_k tk9_9 142 (by decide +kernel) rfl
theorem w125 : Cond.selects RX12 yX12_scope yX12_scope ∈ GW := gw_mem 125 (by decide +kernel) rfl
theorem hdV_yX12_scope : yX12_scope.cls = RX12 ∧ yX12_scope.cls ≠ "java/lang/invoke/MethodHandle" ∧ yX12_scope.cls ≠ "java/lang/invoke/VarHandle" ∧ (parseMethodDescriptor yX12_scope.desc).map (fun d => d.parameters.length) = some 2 := by decide +kernel
theorem w2226 : Cond.code yX12_isScope cX12_isScope 2 (some .boolean) ∈ GW := gw_k tk9_9 151 (rfl) rfl
theorem w2223 : Cond.methodLink RX12 574 yX12_isScope ∈ GW := gw_k tk9_9 148 (by decide +kernel) rfl
theorem w2225 : Cond.instanceMethod yX12_isScope ∈ GW := gw_k tk9_9 150 (by decide +kernel) rfl
theorem w126 : Cond.selects RX12 yX12_isScope yX12_isScope ∈ GW := gw_mem 126 (by decide +kernel) rfl
theorem hdV_yX12_isScope : yX12_isScope.cls = RX12 ∧ yX12_isScope.cls ≠ "java/lang/invoke/MethodHandle" ∧ yX12_isScope.cls ≠ "java/lang/invoke/VarHandle" ∧ (parseMethodDescriptor yX12_isScope.desc).map (fun d => d.parameters.length) = some 1 := by decide +kernel
theorem w1799 : Cond.fieldLink RX12 520 "WiringHouseModel" "within" "I" ∈ GW := gw_k tk9_7 204 (by decide +kernel) rfl
theorem w1804 : Cond.fieldLink RX12 548 "WiringHouseModel" "top" "I" ∈ GW := gw_k tk9_7 209 (by decide +kernel) rfl
theorem w1801 : Cond.fieldLink RX12 507 "WiringHouseModel" "freshMany" "I" ∈ GW := gw_k tk9_7 206 (by decide +kernel) rfl
theorem w1788 : Cond.fieldLink RX12 201 "WiringHouseModel" "faultKind" "[I" ∈ GW := gw_k tk9_7 193 (by decide +kernel) rfl
theorem w1789 : Cond.fieldLink RX12 204 "WiringHouseModel" "faultOf" "[I" ∈ GW := gw_k tk9_7 194 (by decide +kernel) rfl
theorem w1790 : Cond.fieldLink RX12 207 "WiringHouseModel" "faultNeed" "[I" ∈ GW := gw_k tk9_7 195 (by decide +kernel) rfl
theorem w1791 : Cond.fieldLink RX12 210 "WiringHouseModel" "cycles" "[I" ∈ GW := gw_k tk9_7 196 (by decide +kernel) rfl
theorem w1781 : Cond.fieldLink RX12 186 "WiringHouseModel" "closedKind" "[I" ∈ GW := gw_k tk9_7 186 (by decide +kernel) rfl
theorem w1780 : Cond.fieldLink RX12 183 "WiringHouseModel" "closedWhich" "[I" ∈ GW := gw_k tk9_7 185 (by decide +kernel) rfl
theorem w1785 : Cond.fieldLink RX12 195 "WiringHouseModel" "didArg" "[I" ∈ GW := gw_k tk9_7 190 (by decide +kernel) rfl
theorem w1784 : Cond.fieldLink RX12 192 "WiringHouseModel" "didWhich" "[I" ∈ GW := gw_k tk9_7 189 (by decide +kernel) rfl
theorem w1783 : Cond.fieldLink RX12 189 "WiringHouseModel" "didWhat" "[I" ∈ GW := gw_k tk9_7 188 (by decide +kernel) rfl
theorem w2246 : Cond.code yX12_placeOf cX12_placeOf 4 (some .int) ∈ GW := gw_k tk9_9 171 (rfl) rfl
theorem w2243 : Cond.methodLink RX12 481 yX12_placeOf ∈ GW := gw_k tk9_9 168 (by decide +kernel) rfl
theorem w2245 : Cond.instanceMethod yX12_placeOf ∈ GW := gw_k tk9_9 170 (by decide +kernel) rfl
theorem w130 : Cond.selects RX12 yX12_placeOf yX12_placeOf ∈ GW := gw_mem 130 (by decide +kernel) rfl
theorem hdV_yX12_placeOf : yX12_placeOf.cls = RX12 ∧ yX12_placeOf.cls ≠ "java/lang/invoke/MethodHandle" ∧ yX12_placeOf.cls ≠ "java/lang/invoke/VarHandle" ∧ (parseMethodDescriptor yX12_placeOf.desc).map (fun d => d.parameters.length) = some 2 := by decide +kernel
theorem w1729 : Cond.fieldLink RX12 74 "WiringHouseModel" "calledOf" "[I" ∈ GW := gw_k tk9_7 134 (by decide +kernel) rfl
theorem w1733 : Cond.fieldLink RX12 86 "WiringHouseModel" "needs" "[I" ∈ GW := gw_k tk9_7 138 (by decide +kernel) rfl
theorem w2167 : Cond.code yX12_isThere cX12_isThere 3 (some .boolean) ∈ GW := gw_k tk9_9 92 (rfl) rfl
theorem w2164 : Cond.methodLink RX12 438 yX12_isThere ∈ GW := gw_k tk9_9 89 (by decide +kernel) rfl
theorem w2166 : Cond.instanceMethod yX12_isThere ∈ GW := gw_k tk9_9 91 (by decide +kernel) rfl
theorem w117 : Cond.selects RX12 yX12_isThere yX12_isThere ∈ GW := gw_mem 117 (by decide +kernel) rfl
theorem hdV_yX12_isThere : yX12_isThere.cls = RX12 ∧ yX12_isThere.cls ≠ "java/lang/invoke/MethodHandle" ∧ yX12_isThere.cls ≠ "java/lang/invoke/VarHandle" ∧ (parseMethodDescriptor yX12_isThere.desc).map (fun d => d.parameters.length) = some 1 := by decide +kernel
theorem w1730 : Cond.fieldLink RX12 77 "WiringHouseModel" "rankOf" "[I" ∈ GW := gw_k tk9_7 135 (by decide +kernel) rfl
theorem w1741 : Cond.fieldLink RX12 110 "WiringHouseModel" "methods" "[I" ∈ GW := gw_k tk9_7 146 (by decide +kernel) rfl
theorem w1745 : Cond.fieldLink RX12 122 "WiringHouseModel" "wraps" "[I" ∈ GW := gw_k tk9_7 150 (by decide +kernel) rfl
theorem w1708 : Cond.fieldLink RX12 11 "WiringHouseModel" "taped" "I" ∈ GW := gw_k tk9_7 113 (by decide +kernel) rfl
theorem dk9_dX12_forget_0_0 : dOk cX12_forget [(0, .aload_n 0, 1), (1, .iconst 0, 1), (2, .putfield 408, 3), (5, .aload_n 0, 1), (6, .iconst 1, 1), (7, .putfield 244, 3), (10, .aload_n 0, 1), (11, .getfield 152, 3), (14, .iconst 0, 1), (15, .iconst 1, 1), (16, .bastore, 1), (17, .aload_n 0, 1), (18, .getfield 155, 3), (21, .iconst 0, 1), (22, .iconst 0, 1), (23, .iastore, 1), (24, .iconst 0, 1), (25, .istore_n 1, 1), (26, .iload_n 1, 1), (27, .sipush 960, 3), (30, .if_icmp .ge 16, 3), (33, .aload_n 0, 1), (34, .getfield 161, 3), (37, .iload_n 1, 1)] = true ∧ dOk cX12_forget [(38, .iconst 0, 1), (39, .bastore, 1), (40, .iinc 1 1, 3), (43, .goto (-17), 3), (46, .aload_n 0, 1), (47, .iconst 0, 1), (48, .putfield 411, 3), (51, .aload_n 0, 1), (52, .iconst 0, 1), (53, .putfield 414, 3), (56, .aload_n 0, 1), (57, .iconst 0, 1), (58, .putfield 417, 3), (61, .aload_n 0, 1), (62, .iconst 0, 1), (63, .putfield 420, 3), (66, .aload_n 0, 1), (67, .iconst 0, 1), (68, .putfield 423, 3), (71, .aload_n 0, 1), (72, .iconst 0, 1), (73, .putfield 426, 3), (76, .aload_n 0, 1), (77, .iconst 0, 1)] = true ∧ dOk cX12_forget [(78, .putfield 429, 3), (81, .aload_n 0, 1), (82, .iconst 0, 1), (83, .putfield 432, 3), (86, .aload_n 0, 1), (87, .iconst 0, 1), (88, .putfield 435, 3), (91, .return_, 1)] = true := by decide +kernel
theorem dX12_forget_0 : decode cX12_forget 0 = .ok (.aload_n 0, 1) := dr9 dk9_dX12_forget_0_0.1 0 (0, .aload_n 0, 1) rfl
theorem dX12_forget_1 : decode cX12_forget 1 = .ok (.iconst 0, 1) := dr9 dk9_dX12_forget_0_0.1 1 (1, .iconst 0, 1) rfl
theorem dX12_forget_2 : decode cX12_forget 2 = .ok (.putfield 408, 3) := dr9 dk9_dX12_forget_0_0.1 2 (2, .putfield 408, 3) rfl
theorem dX12_forget_5 : decode cX12_forget 5 = .ok (.aload_n 0, 1) := dr9 dk9_dX12_forget_0_0.1 3 (5, .aload_n 0, 1) rfl
theorem dX12_forget_6 : decode cX12_forget 6 = .ok (.iconst 1, 1) := dr9 dk9_dX12_forget_0_0.1 4 (6, .iconst 1, 1) rfl
theorem dX12_forget_7 : decode cX12_forget 7 = .ok (.putfield 244, 3) := dr9 dk9_dX12_forget_0_0.1 5 (7, .putfield 244, 3) rfl
theorem dX12_forget_10 : decode cX12_forget 10 = .ok (.aload_n 0, 1) := dr9 dk9_dX12_forget_0_0.1 6 (10, .aload_n 0, 1) rfl
theorem dX12_forget_11 : decode cX12_forget 11 = .ok (.getfield 152, 3) := dr9 dk9_dX12_forget_0_0.1 7 (11, .getfield 152, 3) rfl
theorem dX12_forget_14 : decode cX12_forget 14 = .ok (.iconst 0, 1) := dr9 dk9_dX12_forget_0_0.1 8 (14, .iconst 0, 1) rfl
theorem dX12_forget_15 : decode cX12_forget 15 = .ok (.iconst 1, 1) := dr9 dk9_dX12_forget_0_0.1 9 (15, .iconst 1, 1) rfl
theorem dX12_forget_16 : decode cX12_forget 16 = .ok (.bastore, 1) := dr9 dk9_dX12_forget_0_0.1 10 (16, .bastore, 1) rfl
theorem dX12_forget_17 : decode cX12_forget 17 = .ok (.aload_n 0, 1) := dr9 dk9_dX12_forget_0_0.1 11 (17, .aload_n 0, 1) rfl
theorem dX12_forget_18 : decode cX12_forget 18 = .ok (.getfield 155, 3) := dr9 dk9_dX12_forget_0_0.1 12 (18, .getfield 155, 3) rfl
theorem dX12_forget_21 : decode cX12_forget 21 = .ok (.iconst 0, 1) := dr9 dk9_dX12_forget_0_0.1 13 (21, .iconst 0, 1) rfl
theorem dX12_forget_22 : decode cX12_forget 22 = .ok (.iconst 0, 1) := dr9 dk9_dX12_forget_0_0.1 14 (22, .iconst 0, 1) rfl
theorem dX12_forget_23 : decode cX12_forget 23 = .ok (.iastore, 1) := dr9 dk9_dX12_forget_0_0.1 15 (23, .iastore, 1) rfl
theorem dX12_forget_24 : decode cX12_forget 24 = .ok (.iconst 0, 1) := dr9 dk9_dX12_forget_0_0.1 16 (24, .iconst 0, 1) rfl
theorem dX12_forget_25 : decode cX12_forget 25 = .ok (.istore_n 1, 1) := dr9 dk9_dX12_forget_0_0.1 17 (25, .istore_n 1, 1) rfl
theorem dX12_forget_26 : decode cX12_forget 26 = .ok (.iload_n 1, 1) := dr9 dk9_dX12_forget_0_0.1 18 (26, .iload_n 1, 1) rfl
theorem dX12_forget_27 : decode cX12_forget 27 = .ok (.sipush 960, 3) := dr9 dk9_dX12_forget_0_0.1 19 (27, .sipush 960, 3) rfl
theorem dX12_forget_30 : decode cX12_forget 30 = .ok (.if_icmp .ge 16, 3) := dr9 dk9_dX12_forget_0_0.1 20 (30, .if_icmp .ge 16, 3) rfl
theorem dX12_forget_33 : decode cX12_forget 33 = .ok (.aload_n 0, 1) := dr9 dk9_dX12_forget_0_0.1 21 (33, .aload_n 0, 1) rfl
theorem dX12_forget_34 : decode cX12_forget 34 = .ok (.getfield 161, 3) := dr9 dk9_dX12_forget_0_0.1 22 (34, .getfield 161, 3) rfl
theorem dX12_forget_37 : decode cX12_forget 37 = .ok (.iload_n 1, 1) := dr9 dk9_dX12_forget_0_0.1 23 (37, .iload_n 1, 1) rfl
theorem dX12_forget_38 : decode cX12_forget 38 = .ok (.iconst 0, 1) := dr9 dk9_dX12_forget_0_0.2.1 0 (38, .iconst 0, 1) rfl
theorem dX12_forget_39 : decode cX12_forget 39 = .ok (.bastore, 1) := dr9 dk9_dX12_forget_0_0.2.1 1 (39, .bastore, 1) rfl
theorem dX12_forget_40 : decode cX12_forget 40 = .ok (.iinc 1 1, 3) := dr9 dk9_dX12_forget_0_0.2.1 2 (40, .iinc 1 1, 3) rfl
theorem dX12_forget_43 : decode cX12_forget 43 = .ok (.goto (-17), 3) := dr9 dk9_dX12_forget_0_0.2.1 3 (43, .goto (-17), 3) rfl
theorem dX12_forget_46 : decode cX12_forget 46 = .ok (.aload_n 0, 1) := dr9 dk9_dX12_forget_0_0.2.1 4 (46, .aload_n 0, 1) rfl
theorem dX12_forget_47 : decode cX12_forget 47 = .ok (.iconst 0, 1) := dr9 dk9_dX12_forget_0_0.2.1 5 (47, .iconst 0, 1) rfl
theorem dX12_forget_48 : decode cX12_forget 48 = .ok (.putfield 411, 3) := dr9 dk9_dX12_forget_0_0.2.1 6 (48, .putfield 411, 3) rfl
theorem dX12_forget_51 : decode cX12_forget 51 = .ok (.aload_n 0, 1) := dr9 dk9_dX12_forget_0_0.2.1 7 (51, .aload_n 0, 1) rfl
theorem dX12_forget_52 : decode cX12_forget 52 = .ok (.iconst 0, 1) := dr9 dk9_dX12_forget_0_0.2.1 8 (52, .iconst 0, 1) rfl
theorem dX12_forget_53 : decode cX12_forget 53 = .ok (.putfield 414, 3) := dr9 dk9_dX12_forget_0_0.2.1 9 (53, .putfield 414, 3) rfl
theorem dX12_forget_56 : decode cX12_forget 56 = .ok (.aload_n 0, 1) := dr9 dk9_dX12_forget_0_0.2.1 10 (56, .aload_n 0, 1) rfl
theorem dX12_forget_57 : decode cX12_forget 57 = .ok (.iconst 0, 1) := dr9 dk9_dX12_forget_0_0.2.1 11 (57, .iconst 0, 1) rfl
theorem dX12_forget_58 : decode cX12_forget 58 = .ok (.putfield 417, 3) := dr9 dk9_dX12_forget_0_0.2.1 12 (58, .putfield 417, 3) rfl
theorem dX12_forget_61 : decode cX12_forget 61 = .ok (.aload_n 0, 1) := dr9 dk9_dX12_forget_0_0.2.1 13 (61, .aload_n 0, 1) rfl
theorem dX12_forget_62 : decode cX12_forget 62 = .ok (.iconst 0, 1) := dr9 dk9_dX12_forget_0_0.2.1 14 (62, .iconst 0, 1) rfl
theorem dX12_forget_63 : decode cX12_forget 63 = .ok (.putfield 420, 3) := dr9 dk9_dX12_forget_0_0.2.1 15 (63, .putfield 420, 3) rfl
theorem dX12_forget_66 : decode cX12_forget 66 = .ok (.aload_n 0, 1) := dr9 dk9_dX12_forget_0_0.2.1 16 (66, .aload_n 0, 1) rfl
theorem dX12_forget_67 : decode cX12_forget 67 = .ok (.iconst 0, 1) := dr9 dk9_dX12_forget_0_0.2.1 17 (67, .iconst 0, 1) rfl
theorem dX12_forget_68 : decode cX12_forget 68 = .ok (.putfield 423, 3) := dr9 dk9_dX12_forget_0_0.2.1 18 (68, .putfield 423, 3) rfl
theorem dX12_forget_71 : decode cX12_forget 71 = .ok (.aload_n 0, 1) := dr9 dk9_dX12_forget_0_0.2.1 19 (71, .aload_n 0, 1) rfl
theorem dX12_forget_72 : decode cX12_forget 72 = .ok (.iconst 0, 1) := dr9 dk9_dX12_forget_0_0.2.1 20 (72, .iconst 0, 1) rfl
theorem dX12_forget_73 : decode cX12_forget 73 = .ok (.putfield 426, 3) := dr9 dk9_dX12_forget_0_0.2.1 21 (73, .putfield 426, 3) rfl
theorem dX12_forget_76 : decode cX12_forget 76 = .ok (.aload_n 0, 1) := dr9 dk9_dX12_forget_0_0.2.1 22 (76, .aload_n 0, 1) rfl
theorem dX12_forget_77 : decode cX12_forget 77 = .ok (.iconst 0, 1) := dr9 dk9_dX12_forget_0_0.2.1 23 (77, .iconst 0, 1) rfl
theorem dX12_forget_78 : decode cX12_forget 78 = .ok (.putfield 429, 3) := dr9 dk9_dX12_forget_0_0.2.2 0 (78, .putfield 429, 3) rfl
theorem dX12_forget_81 : decode cX12_forget 81 = .ok (.aload_n 0, 1) := dr9 dk9_dX12_forget_0_0.2.2 1 (81, .aload_n 0, 1) rfl
theorem dX12_forget_82 : decode cX12_forget 82 = .ok (.iconst 0, 1) := dr9 dk9_dX12_forget_0_0.2.2 2 (82, .iconst 0, 1) rfl
theorem dX12_forget_83 : decode cX12_forget 83 = .ok (.putfield 432, 3) := dr9 dk9_dX12_forget_0_0.2.2 3 (83, .putfield 432, 3) rfl
theorem dX12_forget_86 : decode cX12_forget 86 = .ok (.aload_n 0, 1) := dr9 dk9_dX12_forget_0_0.2.2 4 (86, .aload_n 0, 1) rfl
theorem dX12_forget_87 : decode cX12_forget 87 = .ok (.iconst 0, 1) := dr9 dk9_dX12_forget_0_0.2.2 5 (87, .iconst 0, 1) rfl
theorem dX12_forget_88 : decode cX12_forget 88 = .ok (.putfield 435, 3) := dr9 dk9_dX12_forget_0_0.2.2 6 (88, .putfield 435, 3) rfl
theorem dX12_forget_91 : decode cX12_forget 91 = .ok (.return_, 1) := dr9 dk9_dX12_forget_0_0.2.2 7 (91, .return_, 1) rfl
theorem dk9_dX12_isThere_0_0 : dOk cX12_isThere [(0, .bipush 24, 2), (2, .aload_n 0, 1), (3, .getfield 286, 3), (6, .imul, 1), (7, .iload_n 1, 1), (8, .iadd, 1), (9, .istore_n 2, 1), (10, .iload_n 1, 1), (11, .ifCond .lt 57, 3), (68, .iconst 0, 1), (69, .ireturn, 1), (14, .iload_n 1, 1), (15, .aload_n 0, 1), (16, .getfield 62, 3), (19, .aload_n 0, 1), (20, .getfield 286, 3), (23, .iaload, 1), (24, .if_icmp .ge 44, 3), (27, .aload_n 0, 1), (28, .getfield 80, 3), (31, .iload_n 2, 1), (32, .iaload, 1), (33, .ifCond .lt 31, 3), (64, .iconst 1, 1)] = true ∧ dOk cX12_isThere [(65, .goto 4, 3), (36, .aload_n 0, 1), (37, .getfield 59, 3), (40, .bipush 12, 2), (42, .aload_n 0, 1), (43, .getfield 286, 3), (46, .imul, 1), (47, .aload_n 0, 1), (48, .getfield 80, 3), (51, .iload_n 2, 1), (52, .iaload, 1), (53, .iadd, 1), (54, .iaload, 1), (55, .aload_n 0, 1), (56, .getfield 83, 3), (59, .iload_n 2, 1), (60, .iaload, 1), (61, .if_icmp .ne 7, 3)] = true := by decide +kernel
theorem dX12_isThere_0 : decode cX12_isThere 0 = .ok (.bipush 24, 2) := dr9 dk9_dX12_isThere_0_0.1 0 (0, .bipush 24, 2) rfl
theorem dX12_isThere_2 : decode cX12_isThere 2 = .ok (.aload_n 0, 1) := dr9 dk9_dX12_isThere_0_0.1 1 (2, .aload_n 0, 1) rfl
theorem dX12_isThere_3 : decode cX12_isThere 3 = .ok (.getfield 286, 3) := dr9 dk9_dX12_isThere_0_0.1 2 (3, .getfield 286, 3) rfl
theorem dX12_isThere_6 : decode cX12_isThere 6 = .ok (.imul, 1) := dr9 dk9_dX12_isThere_0_0.1 3 (6, .imul, 1) rfl
theorem dX12_isThere_7 : decode cX12_isThere 7 = .ok (.iload_n 1, 1) := dr9 dk9_dX12_isThere_0_0.1 4 (7, .iload_n 1, 1) rfl
theorem dX12_isThere_8 : decode cX12_isThere 8 = .ok (.iadd, 1) := dr9 dk9_dX12_isThere_0_0.1 5 (8, .iadd, 1) rfl
theorem dX12_isThere_9 : decode cX12_isThere 9 = .ok (.istore_n 2, 1) := dr9 dk9_dX12_isThere_0_0.1 6 (9, .istore_n 2, 1) rfl
theorem dX12_isThere_10 : decode cX12_isThere 10 = .ok (.iload_n 1, 1) := dr9 dk9_dX12_isThere_0_0.1 7 (10, .iload_n 1, 1) rfl
theorem dX12_isThere_11 : decode cX12_isThere 11 = .ok (.ifCond .lt 57, 3) := dr9 dk9_dX12_isThere_0_0.1 8 (11, .ifCond .lt 57, 3) rfl
theorem dX12_isThere_68 : decode cX12_isThere 68 = .ok (.iconst 0, 1) := dr9 dk9_dX12_isThere_0_0.1 9 (68, .iconst 0, 1) rfl
theorem dX12_isThere_69 : decode cX12_isThere 69 = .ok (.ireturn, 1) := dr9 dk9_dX12_isThere_0_0.1 10 (69, .ireturn, 1) rfl
theorem dX12_isThere_14 : decode cX12_isThere 14 = .ok (.iload_n 1, 1) := dr9 dk9_dX12_isThere_0_0.1 11 (14, .iload_n 1, 1) rfl
theorem dX12_isThere_15 : decode cX12_isThere 15 = .ok (.aload_n 0, 1) := dr9 dk9_dX12_isThere_0_0.1 12 (15, .aload_n 0, 1) rfl
theorem dX12_isThere_16 : decode cX12_isThere 16 = .ok (.getfield 62, 3) := dr9 dk9_dX12_isThere_0_0.1 13 (16, .getfield 62, 3) rfl
theorem dX12_isThere_19 : decode cX12_isThere 19 = .ok (.aload_n 0, 1) := dr9 dk9_dX12_isThere_0_0.1 14 (19, .aload_n 0, 1) rfl
theorem dX12_isThere_20 : decode cX12_isThere 20 = .ok (.getfield 286, 3) := dr9 dk9_dX12_isThere_0_0.1 15 (20, .getfield 286, 3) rfl
theorem dX12_isThere_23 : decode cX12_isThere 23 = .ok (.iaload, 1) := dr9 dk9_dX12_isThere_0_0.1 16 (23, .iaload, 1) rfl
theorem dX12_isThere_24 : decode cX12_isThere 24 = .ok (.if_icmp .ge 44, 3) := dr9 dk9_dX12_isThere_0_0.1 17 (24, .if_icmp .ge 44, 3) rfl
theorem dX12_isThere_27 : decode cX12_isThere 27 = .ok (.aload_n 0, 1) := dr9 dk9_dX12_isThere_0_0.1 18 (27, .aload_n 0, 1) rfl
theorem dX12_isThere_28 : decode cX12_isThere 28 = .ok (.getfield 80, 3) := dr9 dk9_dX12_isThere_0_0.1 19 (28, .getfield 80, 3) rfl
theorem dX12_isThere_31 : decode cX12_isThere 31 = .ok (.iload_n 2, 1) := dr9 dk9_dX12_isThere_0_0.1 20 (31, .iload_n 2, 1) rfl
theorem dX12_isThere_32 : decode cX12_isThere 32 = .ok (.iaload, 1) := dr9 dk9_dX12_isThere_0_0.1 21 (32, .iaload, 1) rfl
theorem dX12_isThere_33 : decode cX12_isThere 33 = .ok (.ifCond .lt 31, 3) := dr9 dk9_dX12_isThere_0_0.1 22 (33, .ifCond .lt 31, 3) rfl
theorem dX12_isThere_64 : decode cX12_isThere 64 = .ok (.iconst 1, 1) := dr9 dk9_dX12_isThere_0_0.1 23 (64, .iconst 1, 1) rfl
theorem dX12_isThere_65 : decode cX12_isThere 65 = .ok (.goto 4, 3) := dr9 dk9_dX12_isThere_0_0.2 0 (65, .goto 4, 3) rfl
theorem dX12_isThere_36 : decode cX12_isThere 36 = .ok (.aload_n 0, 1) := dr9 dk9_dX12_isThere_0_0.2 1 (36, .aload_n 0, 1) rfl
theorem dX12_isThere_37 : decode cX12_isThere 37 = .ok (.getfield 59, 3) := dr9 dk9_dX12_isThere_0_0.2 2 (37, .getfield 59, 3) rfl
theorem dX12_isThere_40 : decode cX12_isThere 40 = .ok (.bipush 12, 2) := dr9 dk9_dX12_isThere_0_0.2 3 (40, .bipush 12, 2) rfl
theorem dX12_isThere_42 : decode cX12_isThere 42 = .ok (.aload_n 0, 1) := dr9 dk9_dX12_isThere_0_0.2 4 (42, .aload_n 0, 1) rfl
theorem dX12_isThere_43 : decode cX12_isThere 43 = .ok (.getfield 286, 3) := dr9 dk9_dX12_isThere_0_0.2 5 (43, .getfield 286, 3) rfl
theorem dX12_isThere_46 : decode cX12_isThere 46 = .ok (.imul, 1) := dr9 dk9_dX12_isThere_0_0.2 6 (46, .imul, 1) rfl
theorem dX12_isThere_47 : decode cX12_isThere 47 = .ok (.aload_n 0, 1) := dr9 dk9_dX12_isThere_0_0.2 7 (47, .aload_n 0, 1) rfl
theorem dX12_isThere_48 : decode cX12_isThere 48 = .ok (.getfield 80, 3) := dr9 dk9_dX12_isThere_0_0.2 8 (48, .getfield 80, 3) rfl
theorem dX12_isThere_51 : decode cX12_isThere 51 = .ok (.iload_n 2, 1) := dr9 dk9_dX12_isThere_0_0.2 9 (51, .iload_n 2, 1) rfl
theorem dX12_isThere_52 : decode cX12_isThere 52 = .ok (.iaload, 1) := dr9 dk9_dX12_isThere_0_0.2 10 (52, .iaload, 1) rfl
theorem dX12_isThere_53 : decode cX12_isThere 53 = .ok (.iadd, 1) := dr9 dk9_dX12_isThere_0_0.2 11 (53, .iadd, 1) rfl
theorem dX12_isThere_54 : decode cX12_isThere 54 = .ok (.iaload, 1) := dr9 dk9_dX12_isThere_0_0.2 12 (54, .iaload, 1) rfl
theorem dX12_isThere_55 : decode cX12_isThere 55 = .ok (.aload_n 0, 1) := dr9 dk9_dX12_isThere_0_0.2 13 (55, .aload_n 0, 1) rfl
theorem dX12_isThere_56 : decode cX12_isThere 56 = .ok (.getfield 83, 3) := dr9 dk9_dX12_isThere_0_0.2 14 (56, .getfield 83, 3) rfl
theorem dX12_isThere_59 : decode cX12_isThere 59 = .ok (.iload_n 2, 1) := dr9 dk9_dX12_isThere_0_0.2 15 (59, .iload_n 2, 1) rfl
theorem dX12_isThere_60 : decode cX12_isThere 60 = .ok (.iaload, 1) := dr9 dk9_dX12_isThere_0_0.2 16 (60, .iaload, 1) rfl
theorem dX12_isThere_61 : decode cX12_isThere 61 = .ok (.if_icmp .ne 7, 3) := dr9 dk9_dX12_isThere_0_0.2 17 (61, .if_icmp .ne 7, 3) rfl
theorem dk9_dX12_placeOf_0_0 : dOk cX12_placeOf [(0, .aload_n 0, 1), (1, .getfield 71, 3), (4, .bipush 24, 2), (6, .aload_n 0, 1), (7, .getfield 286, 3), (10, .imul, 1), (11, .iload_n 1, 1), (12, .iadd, 1), (13, .iaload, 1), (14, .istore_n 3, 1), (15, .iload_n 3, 1), (16, .ifCond .ne 5, 3), (21, .iload_n 3, 1), (22, .iconst 3, 1), (23, .if_icmp .ne 5, 3), (28, .iload_n 3, 1), (29, .iconst 2, 1), (30, .if_icmp .ne 19, 3), (49, .aload_n 0, 1), (50, .getfield 155, 3), (53, .iload_n 2, 1), (54, .iaload, 1), (55, .iconst 1, 1), (56, .if_icmp .ne 7, 3)] = true ∧ dOk cX12_placeOf [(63, .aload_n 0, 1), (64, .getfield 155, 3), (67, .iload_n 2, 1), (68, .iaload, 1), (69, .iconst 2, 1), (70, .if_icmp .ne 12, 3), (82, .iconst (-1), 1), (83, .ireturn, 1), (73, .aload_n 0, 1), (74, .getfield 158, 3), (77, .iload_n 2, 1), (78, .iaload, 1), (79, .goto 4, 3), (59, .iload_n 2, 1), (60, .goto 23, 3), (33, .aload_n 0, 1), (34, .getfield 155, 3), (37, .iload_n 2, 1), (38, .iaload, 1), (39, .iconst 2, 1), (40, .if_icmp .ne 7, 3), (47, .iconst (-1), 1), (48, .ireturn, 1), (43, .iload_n 2, 1)] = true ∧ dOk cX12_placeOf [(44, .goto 4, 3), (26, .iload_n 2, 1), (27, .ireturn, 1), (19, .iconst 0, 1), (20, .ireturn, 1)] = true := by decide +kernel
theorem dX12_placeOf_0 : decode cX12_placeOf 0 = .ok (.aload_n 0, 1) := dr9 dk9_dX12_placeOf_0_0.1 0 (0, .aload_n 0, 1) rfl
theorem dX12_placeOf_1 : decode cX12_placeOf 1 = .ok (.getfield 71, 3) := dr9 dk9_dX12_placeOf_0_0.1 1 (1, .getfield 71, 3) rfl
theorem dX12_placeOf_4 : decode cX12_placeOf 4 = .ok (.bipush 24, 2) := dr9 dk9_dX12_placeOf_0_0.1 2 (4, .bipush 24, 2) rfl
theorem dX12_placeOf_6 : decode cX12_placeOf 6 = .ok (.aload_n 0, 1) := dr9 dk9_dX12_placeOf_0_0.1 3 (6, .aload_n 0, 1) rfl
theorem dX12_placeOf_7 : decode cX12_placeOf 7 = .ok (.getfield 286, 3) := dr9 dk9_dX12_placeOf_0_0.1 4 (7, .getfield 286, 3) rfl
theorem dX12_placeOf_10 : decode cX12_placeOf 10 = .ok (.imul, 1) := dr9 dk9_dX12_placeOf_0_0.1 5 (10, .imul, 1) rfl
theorem dX12_placeOf_11 : decode cX12_placeOf 11 = .ok (.iload_n 1, 1) := dr9 dk9_dX12_placeOf_0_0.1 6 (11, .iload_n 1, 1) rfl
theorem dX12_placeOf_12 : decode cX12_placeOf 12 = .ok (.iadd, 1) := dr9 dk9_dX12_placeOf_0_0.1 7 (12, .iadd, 1) rfl
theorem dX12_placeOf_13 : decode cX12_placeOf 13 = .ok (.iaload, 1) := dr9 dk9_dX12_placeOf_0_0.1 8 (13, .iaload, 1) rfl
theorem dX12_placeOf_14 : decode cX12_placeOf 14 = .ok (.istore_n 3, 1) := dr9 dk9_dX12_placeOf_0_0.1 9 (14, .istore_n 3, 1) rfl
theorem dX12_placeOf_15 : decode cX12_placeOf 15 = .ok (.iload_n 3, 1) := dr9 dk9_dX12_placeOf_0_0.1 10 (15, .iload_n 3, 1) rfl
theorem dX12_placeOf_16 : decode cX12_placeOf 16 = .ok (.ifCond .ne 5, 3) := dr9 dk9_dX12_placeOf_0_0.1 11 (16, .ifCond .ne 5, 3) rfl
theorem dX12_placeOf_21 : decode cX12_placeOf 21 = .ok (.iload_n 3, 1) := dr9 dk9_dX12_placeOf_0_0.1 12 (21, .iload_n 3, 1) rfl
theorem dX12_placeOf_22 : decode cX12_placeOf 22 = .ok (.iconst 3, 1) := dr9 dk9_dX12_placeOf_0_0.1 13 (22, .iconst 3, 1) rfl
theorem dX12_placeOf_23 : decode cX12_placeOf 23 = .ok (.if_icmp .ne 5, 3) := dr9 dk9_dX12_placeOf_0_0.1 14 (23, .if_icmp .ne 5, 3) rfl
theorem dX12_placeOf_28 : decode cX12_placeOf 28 = .ok (.iload_n 3, 1) := dr9 dk9_dX12_placeOf_0_0.1 15 (28, .iload_n 3, 1) rfl
theorem dX12_placeOf_29 : decode cX12_placeOf 29 = .ok (.iconst 2, 1) := dr9 dk9_dX12_placeOf_0_0.1 16 (29, .iconst 2, 1) rfl
theorem dX12_placeOf_30 : decode cX12_placeOf 30 = .ok (.if_icmp .ne 19, 3) := dr9 dk9_dX12_placeOf_0_0.1 17 (30, .if_icmp .ne 19, 3) rfl
theorem dX12_placeOf_49 : decode cX12_placeOf 49 = .ok (.aload_n 0, 1) := dr9 dk9_dX12_placeOf_0_0.1 18 (49, .aload_n 0, 1) rfl
theorem dX12_placeOf_50 : decode cX12_placeOf 50 = .ok (.getfield 155, 3) := dr9 dk9_dX12_placeOf_0_0.1 19 (50, .getfield 155, 3) rfl
theorem dX12_placeOf_53 : decode cX12_placeOf 53 = .ok (.iload_n 2, 1) := dr9 dk9_dX12_placeOf_0_0.1 20 (53, .iload_n 2, 1) rfl
theorem dX12_placeOf_54 : decode cX12_placeOf 54 = .ok (.iaload, 1) := dr9 dk9_dX12_placeOf_0_0.1 21 (54, .iaload, 1) rfl
theorem dX12_placeOf_55 : decode cX12_placeOf 55 = .ok (.iconst 1, 1) := dr9 dk9_dX12_placeOf_0_0.1 22 (55, .iconst 1, 1) rfl
theorem dX12_placeOf_56 : decode cX12_placeOf 56 = .ok (.if_icmp .ne 7, 3) := dr9 dk9_dX12_placeOf_0_0.1 23 (56, .if_icmp .ne 7, 3) rfl
theorem dX12_placeOf_63 : decode cX12_placeOf 63 = .ok (.aload_n 0, 1) := dr9 dk9_dX12_placeOf_0_0.2.1 0 (63, .aload_n 0, 1) rfl
theorem dX12_placeOf_64 : decode cX12_placeOf 64 = .ok (.getfield 155, 3) := dr9 dk9_dX12_placeOf_0_0.2.1 1 (64, .getfield 155, 3) rfl
theorem dX12_placeOf_67 : decode cX12_placeOf 67 = .ok (.iload_n 2, 1) := dr9 dk9_dX12_placeOf_0_0.2.1 2 (67, .iload_n 2, 1) rfl
theorem dX12_placeOf_68 : decode cX12_placeOf 68 = .ok (.iaload, 1) := dr9 dk9_dX12_placeOf_0_0.2.1 3 (68, .iaload, 1) rfl
theorem dX12_placeOf_69 : decode cX12_placeOf 69 = .ok (.iconst 2, 1) := dr9 dk9_dX12_placeOf_0_0.2.1 4 (69, .iconst 2, 1) rfl
theorem dX12_placeOf_70 : decode cX12_placeOf 70 = .ok (.if_icmp .ne 12, 3) := dr9 dk9_dX12_placeOf_0_0.2.1 5 (70, .if_icmp .ne 12, 3) rfl
theorem dX12_placeOf_82 : decode cX12_placeOf 82 = .ok (.iconst (-1), 1) := dr9 dk9_dX12_placeOf_0_0.2.1 6 (82, .iconst (-1), 1) rfl
theorem dX12_placeOf_83 : decode cX12_placeOf 83 = .ok (.ireturn, 1) := dr9 dk9_dX12_placeOf_0_0.2.1 7 (83, .ireturn, 1) rfl
theorem dX12_placeOf_73 : decode cX12_placeOf 73 = .ok (.aload_n 0, 1) := dr9 dk9_dX12_placeOf_0_0.2.1 8 (73, .aload_n 0, 1) rfl
theorem dX12_placeOf_74 : decode cX12_placeOf 74 = .ok (.getfield 158, 3) := dr9 dk9_dX12_placeOf_0_0.2.1 9 (74, .getfield 158, 3) rfl
theorem dX12_placeOf_77 : decode cX12_placeOf 77 = .ok (.iload_n 2, 1) := dr9 dk9_dX12_placeOf_0_0.2.1 10 (77, .iload_n 2, 1) rfl
theorem dX12_placeOf_78 : decode cX12_placeOf 78 = .ok (.iaload, 1) := dr9 dk9_dX12_placeOf_0_0.2.1 11 (78, .iaload, 1) rfl
theorem dX12_placeOf_79 : decode cX12_placeOf 79 = .ok (.goto 4, 3) := dr9 dk9_dX12_placeOf_0_0.2.1 12 (79, .goto 4, 3) rfl
theorem dX12_placeOf_59 : decode cX12_placeOf 59 = .ok (.iload_n 2, 1) := dr9 dk9_dX12_placeOf_0_0.2.1 13 (59, .iload_n 2, 1) rfl
theorem dX12_placeOf_60 : decode cX12_placeOf 60 = .ok (.goto 23, 3) := dr9 dk9_dX12_placeOf_0_0.2.1 14 (60, .goto 23, 3) rfl
theorem dX12_placeOf_33 : decode cX12_placeOf 33 = .ok (.aload_n 0, 1) := dr9 dk9_dX12_placeOf_0_0.2.1 15 (33, .aload_n 0, 1) rfl
theorem dX12_placeOf_34 : decode cX12_placeOf 34 = .ok (.getfield 155, 3) := dr9 dk9_dX12_placeOf_0_0.2.1 16 (34, .getfield 155, 3) rfl
theorem dX12_placeOf_37 : decode cX12_placeOf 37 = .ok (.iload_n 2, 1) := dr9 dk9_dX12_placeOf_0_0.2.1 17 (37, .iload_n 2, 1) rfl
theorem dX12_placeOf_38 : decode cX12_placeOf 38 = .ok (.iaload, 1) := dr9 dk9_dX12_placeOf_0_0.2.1 18 (38, .iaload, 1) rfl
theorem dX12_placeOf_39 : decode cX12_placeOf 39 = .ok (.iconst 2, 1) := dr9 dk9_dX12_placeOf_0_0.2.1 19 (39, .iconst 2, 1) rfl
theorem dX12_placeOf_40 : decode cX12_placeOf 40 = .ok (.if_icmp .ne 7, 3) := dr9 dk9_dX12_placeOf_0_0.2.1 20 (40, .if_icmp .ne 7, 3) rfl
theorem dX12_placeOf_47 : decode cX12_placeOf 47 = .ok (.iconst (-1), 1) := dr9 dk9_dX12_placeOf_0_0.2.1 21 (47, .iconst (-1), 1) rfl
theorem dX12_placeOf_48 : decode cX12_placeOf 48 = .ok (.ireturn, 1) := dr9 dk9_dX12_placeOf_0_0.2.1 22 (48, .ireturn, 1) rfl
theorem dX12_placeOf_43 : decode cX12_placeOf 43 = .ok (.iload_n 2, 1) := dr9 dk9_dX12_placeOf_0_0.2.1 23 (43, .iload_n 2, 1) rfl
theorem dX12_placeOf_44 : decode cX12_placeOf 44 = .ok (.goto 4, 3) := dr9 dk9_dX12_placeOf_0_0.2.2 0 (44, .goto 4, 3) rfl
theorem dX12_placeOf_26 : decode cX12_placeOf 26 = .ok (.iload_n 2, 1) := dr9 dk9_dX12_placeOf_0_0.2.2 1 (26, .iload_n 2, 1) rfl
theorem dX12_placeOf_27 : decode cX12_placeOf 27 = .ok (.ireturn, 1) := dr9 dk9_dX12_placeOf_0_0.2.2 2 (27, .ireturn, 1) rfl
theorem dX12_placeOf_19 : decode cX12_placeOf 19 = .ok (.iconst 0, 1) := dr9 dk9_dX12_placeOf_0_0.2.2 3 (19, .iconst 0, 1) rfl
theorem dX12_placeOf_20 : decode cX12_placeOf 20 = .ok (.ireturn, 1) := dr9 dk9_dX12_placeOf_0_0.2.2 4 (20, .ireturn, 1) rfl
theorem dk9_dX12_objectAt_0_0 : dOk cX12_objectAt [(0, .iconst (-1), 1), (1, .istore_n 3, 1), (2, .iconst 0, 1), (3, .istore 4, 2), (5, .iload 4, 2), (7, .aload_n 0, 1), (8, .getfield 411, 3), (11, .if_icmp .ge 49, 3), (60, .iload_n 3, 1), (61, .ireturn, 1), (14, .aload_n 0, 1), (15, .getfield 164, 3), (18, .iload 4, 2), (20, .iaload, 1), (21, .iload_n 1, 1), (22, .if_icmp .ne 30, 3), (52, .iload_n 3, 1), (53, .istore_n 3, 1), (54, .iinc 4 1, 3), (57, .goto (-52), 3), (25, .aload_n 0, 1), (26, .getfield 167, 3), (29, .iload 4, 2), (31, .iaload, 1)] = true ∧ dOk cX12_objectAt [(32, .iload_n 2, 1), (33, .if_icmp .ne 19, 3), (36, .aload_n 0, 1), (37, .getfield 170, 3), (40, .iload 4, 2), (42, .iaload, 1), (43, .iconst 2, 1), (44, .if_icmp .ge 8, 3), (47, .iload 4, 2), (49, .goto 4, 3)] = true := by decide +kernel
theorem dX12_objectAt_0 : decode cX12_objectAt 0 = .ok (.iconst (-1), 1) := dr9 dk9_dX12_objectAt_0_0.1 0 (0, .iconst (-1), 1) rfl
theorem dX12_objectAt_1 : decode cX12_objectAt 1 = .ok (.istore_n 3, 1) := dr9 dk9_dX12_objectAt_0_0.1 1 (1, .istore_n 3, 1) rfl
theorem dX12_objectAt_2 : decode cX12_objectAt 2 = .ok (.iconst 0, 1) := dr9 dk9_dX12_objectAt_0_0.1 2 (2, .iconst 0, 1) rfl
theorem dX12_objectAt_3 : decode cX12_objectAt 3 = .ok (.istore 4, 2) := dr9 dk9_dX12_objectAt_0_0.1 3 (3, .istore 4, 2) rfl
theorem dX12_objectAt_5 : decode cX12_objectAt 5 = .ok (.iload 4, 2) := dr9 dk9_dX12_objectAt_0_0.1 4 (5, .iload 4, 2) rfl
theorem dX12_objectAt_7 : decode cX12_objectAt 7 = .ok (.aload_n 0, 1) := dr9 dk9_dX12_objectAt_0_0.1 5 (7, .aload_n 0, 1) rfl
theorem dX12_objectAt_8 : decode cX12_objectAt 8 = .ok (.getfield 411, 3) := dr9 dk9_dX12_objectAt_0_0.1 6 (8, .getfield 411, 3) rfl
theorem dX12_objectAt_11 : decode cX12_objectAt 11 = .ok (.if_icmp .ge 49, 3) := dr9 dk9_dX12_objectAt_0_0.1 7 (11, .if_icmp .ge 49, 3) rfl
theorem dX12_objectAt_60 : decode cX12_objectAt 60 = .ok (.iload_n 3, 1) := dr9 dk9_dX12_objectAt_0_0.1 8 (60, .iload_n 3, 1) rfl
theorem dX12_objectAt_61 : decode cX12_objectAt 61 = .ok (.ireturn, 1) := dr9 dk9_dX12_objectAt_0_0.1 9 (61, .ireturn, 1) rfl
theorem dX12_objectAt_14 : decode cX12_objectAt 14 = .ok (.aload_n 0, 1) := dr9 dk9_dX12_objectAt_0_0.1 10 (14, .aload_n 0, 1) rfl
theorem dX12_objectAt_15 : decode cX12_objectAt 15 = .ok (.getfield 164, 3) := dr9 dk9_dX12_objectAt_0_0.1 11 (15, .getfield 164, 3) rfl
theorem dX12_objectAt_18 : decode cX12_objectAt 18 = .ok (.iload 4, 2) := dr9 dk9_dX12_objectAt_0_0.1 12 (18, .iload 4, 2) rfl
theorem dX12_objectAt_20 : decode cX12_objectAt 20 = .ok (.iaload, 1) := dr9 dk9_dX12_objectAt_0_0.1 13 (20, .iaload, 1) rfl
theorem dX12_objectAt_21 : decode cX12_objectAt 21 = .ok (.iload_n 1, 1) := dr9 dk9_dX12_objectAt_0_0.1 14 (21, .iload_n 1, 1) rfl
theorem dX12_objectAt_22 : decode cX12_objectAt 22 = .ok (.if_icmp .ne 30, 3) := dr9 dk9_dX12_objectAt_0_0.1 15 (22, .if_icmp .ne 30, 3) rfl
theorem dX12_objectAt_52 : decode cX12_objectAt 52 = .ok (.iload_n 3, 1) := dr9 dk9_dX12_objectAt_0_0.1 16 (52, .iload_n 3, 1) rfl
theorem dX12_objectAt_53 : decode cX12_objectAt 53 = .ok (.istore_n 3, 1) := dr9 dk9_dX12_objectAt_0_0.1 17 (53, .istore_n 3, 1) rfl
theorem dX12_objectAt_54 : decode cX12_objectAt 54 = .ok (.iinc 4 1, 3) := dr9 dk9_dX12_objectAt_0_0.1 18 (54, .iinc 4 1, 3) rfl
theorem dX12_objectAt_57 : decode cX12_objectAt 57 = .ok (.goto (-52), 3) := dr9 dk9_dX12_objectAt_0_0.1 19 (57, .goto (-52), 3) rfl
theorem dX12_objectAt_25 : decode cX12_objectAt 25 = .ok (.aload_n 0, 1) := dr9 dk9_dX12_objectAt_0_0.1 20 (25, .aload_n 0, 1) rfl
theorem dX12_objectAt_26 : decode cX12_objectAt 26 = .ok (.getfield 167, 3) := dr9 dk9_dX12_objectAt_0_0.1 21 (26, .getfield 167, 3) rfl
theorem dX12_objectAt_29 : decode cX12_objectAt 29 = .ok (.iload 4, 2) := dr9 dk9_dX12_objectAt_0_0.1 22 (29, .iload 4, 2) rfl
theorem dX12_objectAt_31 : decode cX12_objectAt 31 = .ok (.iaload, 1) := dr9 dk9_dX12_objectAt_0_0.1 23 (31, .iaload, 1) rfl
theorem dX12_objectAt_32 : decode cX12_objectAt 32 = .ok (.iload_n 2, 1) := dr9 dk9_dX12_objectAt_0_0.2 0 (32, .iload_n 2, 1) rfl
theorem dX12_objectAt_33 : decode cX12_objectAt 33 = .ok (.if_icmp .ne 19, 3) := dr9 dk9_dX12_objectAt_0_0.2 1 (33, .if_icmp .ne 19, 3) rfl
theorem dX12_objectAt_36 : decode cX12_objectAt 36 = .ok (.aload_n 0, 1) := dr9 dk9_dX12_objectAt_0_0.2 2 (36, .aload_n 0, 1) rfl
theorem dX12_objectAt_37 : decode cX12_objectAt 37 = .ok (.getfield 170, 3) := dr9 dk9_dX12_objectAt_0_0.2 3 (37, .getfield 170, 3) rfl
theorem dX12_objectAt_40 : decode cX12_objectAt 40 = .ok (.iload 4, 2) := dr9 dk9_dX12_objectAt_0_0.2 4 (40, .iload 4, 2) rfl
theorem dX12_objectAt_42 : decode cX12_objectAt 42 = .ok (.iaload, 1) := dr9 dk9_dX12_objectAt_0_0.2 5 (42, .iaload, 1) rfl
theorem dX12_objectAt_43 : decode cX12_objectAt 43 = .ok (.iconst 2, 1) := dr9 dk9_dX12_objectAt_0_0.2 6 (43, .iconst 2, 1) rfl
theorem dX12_objectAt_44 : decode cX12_objectAt 44 = .ok (.if_icmp .ge 8, 3) := dr9 dk9_dX12_objectAt_0_0.2 7 (44, .if_icmp .ge 8, 3) rfl
theorem dX12_objectAt_47 : decode cX12_objectAt 47 = .ok (.iload 4, 2) := dr9 dk9_dX12_objectAt_0_0.2 8 (47, .iload 4, 2) rfl
theorem dX12_objectAt_49 : decode cX12_objectAt 49 = .ok (.goto 4, 3) := dr9 dk9_dX12_objectAt_0_0.2 9 (49, .goto 4, 3) rfl
theorem dk9_dX12_latestIn_0_0 : dOk cX12_latestIn [(0, .iconst (-1), 1), (1, .istore_n 2, 1), (2, .iconst 0, 1), (3, .istore_n 3, 1), (4, .iload_n 3, 1), (5, .aload_n 0, 1), (6, .getfield 411, 3), (9, .if_icmp .ge 54, 3), (63, .iload_n 2, 1), (64, .ireturn, 1), (12, .aload_n 0, 1), (13, .getfield 170, 3), (16, .iload_n 3, 1), (17, .iaload, 1), (18, .iconst 1, 1), (19, .if_icmp .ne 36, 3), (55, .iload_n 2, 1), (56, .istore_n 2, 1), (57, .iinc 3 1, 3), (60, .goto (-56), 3), (22, .aload_n 0, 1), (23, .getfield 167, 3), (26, .iload_n 3, 1), (27, .iaload, 1)] = true ∧ dOk cX12_latestIn [(28, .iload_n 1, 1), (29, .if_icmp .ne 26, 3), (32, .iload_n 2, 1), (33, .ifCond .lt 18, 3), (51, .iload_n 3, 1), (52, .goto 4, 3), (36, .aload_n 0, 1), (37, .getfield 173, 3), (40, .iload_n 3, 1), (41, .iaload, 1), (42, .aload_n 0, 1), (43, .getfield 173, 3), (46, .iload_n 2, 1), (47, .iaload, 1), (48, .if_icmp .le 7, 3)] = true := by decide +kernel
theorem dX12_latestIn_0 : decode cX12_latestIn 0 = .ok (.iconst (-1), 1) := dr9 dk9_dX12_latestIn_0_0.1 0 (0, .iconst (-1), 1) rfl
theorem dX12_latestIn_1 : decode cX12_latestIn 1 = .ok (.istore_n 2, 1) := dr9 dk9_dX12_latestIn_0_0.1 1 (1, .istore_n 2, 1) rfl
theorem dX12_latestIn_2 : decode cX12_latestIn 2 = .ok (.iconst 0, 1) := dr9 dk9_dX12_latestIn_0_0.1 2 (2, .iconst 0, 1) rfl
theorem dX12_latestIn_3 : decode cX12_latestIn 3 = .ok (.istore_n 3, 1) := dr9 dk9_dX12_latestIn_0_0.1 3 (3, .istore_n 3, 1) rfl
theorem dX12_latestIn_4 : decode cX12_latestIn 4 = .ok (.iload_n 3, 1) := dr9 dk9_dX12_latestIn_0_0.1 4 (4, .iload_n 3, 1) rfl
theorem dX12_latestIn_5 : decode cX12_latestIn 5 = .ok (.aload_n 0, 1) := dr9 dk9_dX12_latestIn_0_0.1 5 (5, .aload_n 0, 1) rfl
theorem dX12_latestIn_6 : decode cX12_latestIn 6 = .ok (.getfield 411, 3) := dr9 dk9_dX12_latestIn_0_0.1 6 (6, .getfield 411, 3) rfl
theorem dX12_latestIn_9 : decode cX12_latestIn 9 = .ok (.if_icmp .ge 54, 3) := dr9 dk9_dX12_latestIn_0_0.1 7 (9, .if_icmp .ge 54, 3) rfl
theorem dX12_latestIn_63 : decode cX12_latestIn 63 = .ok (.iload_n 2, 1) := dr9 dk9_dX12_latestIn_0_0.1 8 (63, .iload_n 2, 1) rfl
theorem dX12_latestIn_64 : decode cX12_latestIn 64 = .ok (.ireturn, 1) := dr9 dk9_dX12_latestIn_0_0.1 9 (64, .ireturn, 1) rfl
theorem dX12_latestIn_12 : decode cX12_latestIn 12 = .ok (.aload_n 0, 1) := dr9 dk9_dX12_latestIn_0_0.1 10 (12, .aload_n 0, 1) rfl
theorem dX12_latestIn_13 : decode cX12_latestIn 13 = .ok (.getfield 170, 3) := dr9 dk9_dX12_latestIn_0_0.1 11 (13, .getfield 170, 3) rfl
theorem dX12_latestIn_16 : decode cX12_latestIn 16 = .ok (.iload_n 3, 1) := dr9 dk9_dX12_latestIn_0_0.1 12 (16, .iload_n 3, 1) rfl
theorem dX12_latestIn_17 : decode cX12_latestIn 17 = .ok (.iaload, 1) := dr9 dk9_dX12_latestIn_0_0.1 13 (17, .iaload, 1) rfl
theorem dX12_latestIn_18 : decode cX12_latestIn 18 = .ok (.iconst 1, 1) := dr9 dk9_dX12_latestIn_0_0.1 14 (18, .iconst 1, 1) rfl
theorem dX12_latestIn_19 : decode cX12_latestIn 19 = .ok (.if_icmp .ne 36, 3) := dr9 dk9_dX12_latestIn_0_0.1 15 (19, .if_icmp .ne 36, 3) rfl
theorem dX12_latestIn_55 : decode cX12_latestIn 55 = .ok (.iload_n 2, 1) := dr9 dk9_dX12_latestIn_0_0.1 16 (55, .iload_n 2, 1) rfl
theorem dX12_latestIn_56 : decode cX12_latestIn 56 = .ok (.istore_n 2, 1) := dr9 dk9_dX12_latestIn_0_0.1 17 (56, .istore_n 2, 1) rfl
theorem dX12_latestIn_57 : decode cX12_latestIn 57 = .ok (.iinc 3 1, 3) := dr9 dk9_dX12_latestIn_0_0.1 18 (57, .iinc 3 1, 3) rfl
theorem dX12_latestIn_60 : decode cX12_latestIn 60 = .ok (.goto (-56), 3) := dr9 dk9_dX12_latestIn_0_0.1 19 (60, .goto (-56), 3) rfl
theorem dX12_latestIn_22 : decode cX12_latestIn 22 = .ok (.aload_n 0, 1) := dr9 dk9_dX12_latestIn_0_0.1 20 (22, .aload_n 0, 1) rfl
theorem dX12_latestIn_23 : decode cX12_latestIn 23 = .ok (.getfield 167, 3) := dr9 dk9_dX12_latestIn_0_0.1 21 (23, .getfield 167, 3) rfl
theorem dX12_latestIn_26 : decode cX12_latestIn 26 = .ok (.iload_n 3, 1) := dr9 dk9_dX12_latestIn_0_0.1 22 (26, .iload_n 3, 1) rfl
theorem dX12_latestIn_27 : decode cX12_latestIn 27 = .ok (.iaload, 1) := dr9 dk9_dX12_latestIn_0_0.1 23 (27, .iaload, 1) rfl
theorem dX12_latestIn_28 : decode cX12_latestIn 28 = .ok (.iload_n 1, 1) := dr9 dk9_dX12_latestIn_0_0.2 0 (28, .iload_n 1, 1) rfl
theorem dX12_latestIn_29 : decode cX12_latestIn 29 = .ok (.if_icmp .ne 26, 3) := dr9 dk9_dX12_latestIn_0_0.2 1 (29, .if_icmp .ne 26, 3) rfl
theorem dX12_latestIn_32 : decode cX12_latestIn 32 = .ok (.iload_n 2, 1) := dr9 dk9_dX12_latestIn_0_0.2 2 (32, .iload_n 2, 1) rfl
theorem dX12_latestIn_33 : decode cX12_latestIn 33 = .ok (.ifCond .lt 18, 3) := dr9 dk9_dX12_latestIn_0_0.2 3 (33, .ifCond .lt 18, 3) rfl
theorem dX12_latestIn_51 : decode cX12_latestIn 51 = .ok (.iload_n 3, 1) := dr9 dk9_dX12_latestIn_0_0.2 4 (51, .iload_n 3, 1) rfl
theorem dX12_latestIn_52 : decode cX12_latestIn 52 = .ok (.goto 4, 3) := dr9 dk9_dX12_latestIn_0_0.2 5 (52, .goto 4, 3) rfl
theorem dX12_latestIn_36 : decode cX12_latestIn 36 = .ok (.aload_n 0, 1) := dr9 dk9_dX12_latestIn_0_0.2 6 (36, .aload_n 0, 1) rfl
theorem dX12_latestIn_37 : decode cX12_latestIn 37 = .ok (.getfield 173, 3) := dr9 dk9_dX12_latestIn_0_0.2 7 (37, .getfield 173, 3) rfl
theorem dX12_latestIn_40 : decode cX12_latestIn 40 = .ok (.iload_n 3, 1) := dr9 dk9_dX12_latestIn_0_0.2 8 (40, .iload_n 3, 1) rfl
theorem dX12_latestIn_41 : decode cX12_latestIn 41 = .ok (.iaload, 1) := dr9 dk9_dX12_latestIn_0_0.2 9 (41, .iaload, 1) rfl
theorem dX12_latestIn_42 : decode cX12_latestIn 42 = .ok (.aload_n 0, 1) := dr9 dk9_dX12_latestIn_0_0.2 10 (42, .aload_n 0, 1) rfl
theorem dX12_latestIn_43 : decode cX12_latestIn 43 = .ok (.getfield 173, 3) := dr9 dk9_dX12_latestIn_0_0.2 11 (43, .getfield 173, 3) rfl
theorem dX12_latestIn_46 : decode cX12_latestIn 46 = .ok (.iload_n 2, 1) := dr9 dk9_dX12_latestIn_0_0.2 12 (46, .iload_n 2, 1) rfl
theorem dX12_latestIn_47 : decode cX12_latestIn 47 = .ok (.iaload, 1) := dr9 dk9_dX12_latestIn_0_0.2 13 (47, .iaload, 1) rfl
theorem dX12_latestIn_48 : decode cX12_latestIn 48 = .ok (.if_icmp .le 7, 3) := dr9 dk9_dX12_latestIn_0_0.2 14 (48, .if_icmp .le 7, 3) rfl
theorem dk9_dX12_isScope_0_0 : dOk cX12_isScope [(0, .iload_n 1, 1), (1, .ifCond .lt 24, 3), (25, .iconst 0, 1), (26, .ireturn, 1), (4, .iload_n 1, 1), (5, .aload_n 0, 1), (6, .getfield 244, 3), (9, .if_icmp .ge 16, 3), (12, .aload_n 0, 1), (13, .getfield 152, 3), (16, .iload_n 1, 1), (17, .baload, 1), (18, .ifCond .eq 7, 3), (21, .iconst 1, 1), (22, .goto 4, 3)] = true := by decide +kernel
theorem dX12_isScope_0 : decode cX12_isScope 0 = .ok (.iload_n 1, 1) := dr9 dk9_dX12_isScope_0_0 0 (0, .iload_n 1, 1) rfl
theorem dX12_isScope_1 : decode cX12_isScope 1 = .ok (.ifCond .lt 24, 3) := dr9 dk9_dX12_isScope_0_0 1 (1, .ifCond .lt 24, 3) rfl
theorem dX12_isScope_25 : decode cX12_isScope 25 = .ok (.iconst 0, 1) := dr9 dk9_dX12_isScope_0_0 2 (25, .iconst 0, 1) rfl
theorem dX12_isScope_26 : decode cX12_isScope 26 = .ok (.ireturn, 1) := dr9 dk9_dX12_isScope_0_0 3 (26, .ireturn, 1) rfl
theorem dX12_isScope_4 : decode cX12_isScope 4 = .ok (.iload_n 1, 1) := dr9 dk9_dX12_isScope_0_0 4 (4, .iload_n 1, 1) rfl
theorem dX12_isScope_5 : decode cX12_isScope 5 = .ok (.aload_n 0, 1) := dr9 dk9_dX12_isScope_0_0 5 (5, .aload_n 0, 1) rfl
theorem dX12_isScope_6 : decode cX12_isScope 6 = .ok (.getfield 244, 3) := dr9 dk9_dX12_isScope_0_0 6 (6, .getfield 244, 3) rfl
theorem dX12_isScope_9 : decode cX12_isScope 9 = .ok (.if_icmp .ge 16, 3) := dr9 dk9_dX12_isScope_0_0 7 (9, .if_icmp .ge 16, 3) rfl
theorem dX12_isScope_12 : decode cX12_isScope 12 = .ok (.aload_n 0, 1) := dr9 dk9_dX12_isScope_0_0 8 (12, .aload_n 0, 1) rfl
theorem dX12_isScope_13 : decode cX12_isScope 13 = .ok (.getfield 152, 3) := dr9 dk9_dX12_isScope_0_0 9 (13, .getfield 152, 3) rfl
theorem dX12_isScope_16 : decode cX12_isScope 16 = .ok (.iload_n 1, 1) := dr9 dk9_dX12_isScope_0_0 10 (16, .iload_n 1, 1) rfl
theorem dX12_isScope_17 : decode cX12_isScope 17 = .ok (.baload, 1) := dr9 dk9_dX12_isScope_0_0 11 (17, .baload, 1) rfl
theorem dX12_isScope_18 : decode cX12_isScope 18 = .ok (.ifCond .eq 7, 3) := dr9 dk9_dX12_isScope_0_0 12 (18, .ifCond .eq 7, 3) rfl
theorem dX12_isScope_21 : decode cX12_isScope 21 = .ok (.iconst 1, 1) := dr9 dk9_dX12_isScope_0_0 13 (21, .iconst 1, 1) rfl
theorem dX12_isScope_22 : decode cX12_isScope 22 = .ok (.goto 4, 3) := dr9 dk9_dX12_isScope_0_0 14 (22, .goto 4, 3) rfl
theorem dk9_dX12_setting_0_0 : dOk cX12_setting [(0, .aload_n 0, 1), (1, .iconst 0, 1), (2, .putfield 1, 3), (5, .iload_n 1, 1), (6, .ifCond .lt 23, 3), (29, .iconst 0, 1), (30, .ireturn, 1), (9, .iload_n 1, 1), (10, .aload_n 0, 1), (11, .getfield 53, 3), (14, .aload_n 0, 1), (15, .getfield 286, 3), (18, .iaload, 1), (19, .if_icmp .ge 10, 3), (22, .aload_n 0, 1), (23, .getfield 408, 3), (26, .ifCond .eq 5, 3), (31, .aload_n 0, 1), (32, .getfield 59, 3), (35, .bipush 12, 2), (37, .aload_n 0, 1), (38, .getfield 286, 3), (41, .imul, 1), (42, .iload_n 1, 1)] = true ∧ dOk cX12_setting [(43, .iadd, 1), (44, .iload_n 2, 1), (45, .iastore, 1), (46, .iconst 1, 1), (47, .ireturn, 1)] = true := by decide +kernel
theorem dX12_setting_0 : decode cX12_setting 0 = .ok (.aload_n 0, 1) := dr9 dk9_dX12_setting_0_0.1 0 (0, .aload_n 0, 1) rfl
theorem dX12_setting_1 : decode cX12_setting 1 = .ok (.iconst 0, 1) := dr9 dk9_dX12_setting_0_0.1 1 (1, .iconst 0, 1) rfl
theorem dX12_setting_2 : decode cX12_setting 2 = .ok (.putfield 1, 3) := dr9 dk9_dX12_setting_0_0.1 2 (2, .putfield 1, 3) rfl
theorem dX12_setting_5 : decode cX12_setting 5 = .ok (.iload_n 1, 1) := dr9 dk9_dX12_setting_0_0.1 3 (5, .iload_n 1, 1) rfl
theorem dX12_setting_6 : decode cX12_setting 6 = .ok (.ifCond .lt 23, 3) := dr9 dk9_dX12_setting_0_0.1 4 (6, .ifCond .lt 23, 3) rfl
theorem dX12_setting_29 : decode cX12_setting 29 = .ok (.iconst 0, 1) := dr9 dk9_dX12_setting_0_0.1 5 (29, .iconst 0, 1) rfl
theorem dX12_setting_30 : decode cX12_setting 30 = .ok (.ireturn, 1) := dr9 dk9_dX12_setting_0_0.1 6 (30, .ireturn, 1) rfl
theorem dX12_setting_9 : decode cX12_setting 9 = .ok (.iload_n 1, 1) := dr9 dk9_dX12_setting_0_0.1 7 (9, .iload_n 1, 1) rfl
theorem dX12_setting_10 : decode cX12_setting 10 = .ok (.aload_n 0, 1) := dr9 dk9_dX12_setting_0_0.1 8 (10, .aload_n 0, 1) rfl
theorem dX12_setting_11 : decode cX12_setting 11 = .ok (.getfield 53, 3) := dr9 dk9_dX12_setting_0_0.1 9 (11, .getfield 53, 3) rfl
theorem dX12_setting_14 : decode cX12_setting 14 = .ok (.aload_n 0, 1) := dr9 dk9_dX12_setting_0_0.1 10 (14, .aload_n 0, 1) rfl
theorem dX12_setting_15 : decode cX12_setting 15 = .ok (.getfield 286, 3) := dr9 dk9_dX12_setting_0_0.1 11 (15, .getfield 286, 3) rfl
theorem dX12_setting_18 : decode cX12_setting 18 = .ok (.iaload, 1) := dr9 dk9_dX12_setting_0_0.1 12 (18, .iaload, 1) rfl
theorem dX12_setting_19 : decode cX12_setting 19 = .ok (.if_icmp .ge 10, 3) := dr9 dk9_dX12_setting_0_0.1 13 (19, .if_icmp .ge 10, 3) rfl
theorem dX12_setting_22 : decode cX12_setting 22 = .ok (.aload_n 0, 1) := dr9 dk9_dX12_setting_0_0.1 14 (22, .aload_n 0, 1) rfl
theorem dX12_setting_23 : decode cX12_setting 23 = .ok (.getfield 408, 3) := dr9 dk9_dX12_setting_0_0.1 15 (23, .getfield 408, 3) rfl
theorem dX12_setting_26 : decode cX12_setting 26 = .ok (.ifCond .eq 5, 3) := dr9 dk9_dX12_setting_0_0.1 16 (26, .ifCond .eq 5, 3) rfl
theorem dX12_setting_31 : decode cX12_setting 31 = .ok (.aload_n 0, 1) := dr9 dk9_dX12_setting_0_0.1 17 (31, .aload_n 0, 1) rfl
theorem dX12_setting_32 : decode cX12_setting 32 = .ok (.getfield 59, 3) := dr9 dk9_dX12_setting_0_0.1 18 (32, .getfield 59, 3) rfl
theorem dX12_setting_35 : decode cX12_setting 35 = .ok (.bipush 12, 2) := dr9 dk9_dX12_setting_0_0.1 19 (35, .bipush 12, 2) rfl
theorem dX12_setting_37 : decode cX12_setting 37 = .ok (.aload_n 0, 1) := dr9 dk9_dX12_setting_0_0.1 20 (37, .aload_n 0, 1) rfl
theorem dX12_setting_38 : decode cX12_setting 38 = .ok (.getfield 286, 3) := dr9 dk9_dX12_setting_0_0.1 21 (38, .getfield 286, 3) rfl
theorem dX12_setting_41 : decode cX12_setting 41 = .ok (.imul, 1) := dr9 dk9_dX12_setting_0_0.1 22 (41, .imul, 1) rfl
theorem dX12_setting_42 : decode cX12_setting 42 = .ok (.iload_n 1, 1) := dr9 dk9_dX12_setting_0_0.1 23 (42, .iload_n 1, 1) rfl
theorem dX12_setting_43 : decode cX12_setting 43 = .ok (.iadd, 1) := dr9 dk9_dX12_setting_0_0.2 0 (43, .iadd, 1) rfl
theorem dX12_setting_44 : decode cX12_setting 44 = .ok (.iload_n 2, 1) := dr9 dk9_dX12_setting_0_0.2 1 (44, .iload_n 2, 1) rfl
theorem dX12_setting_45 : decode cX12_setting 45 = .ok (.iastore, 1) := dr9 dk9_dX12_setting_0_0.2 2 (45, .iastore, 1) rfl
theorem dX12_setting_46 : decode cX12_setting 46 = .ok (.iconst 1, 1) := dr9 dk9_dX12_setting_0_0.2 3 (46, .iconst 1, 1) rfl
theorem dX12_setting_47 : decode cX12_setting 47 = .ok (.ireturn, 1) := dr9 dk9_dX12_setting_0_0.2 4 (47, .ireturn, 1) rfl
theorem dk9_dX12_scope_0_0 : dOk cX12_scope [(0, .aload_n 0, 1), (1, .getfield 408, 3), (4, .ifCond .eq 12, 3), (16, .iconst (-1), 1), (17, .ireturn, 1), (7, .aload_n 0, 1), (8, .getfield 244, 3), (11, .bipush 40, 2), (13, .if_icmp .ne 5, 3), (18, .aload_n 0, 1), (19, .getfield 152, 3), (22, .aload_n 0, 1), (23, .getfield 244, 3), (26, .iconst 1, 1), (27, .bastore, 1), (28, .aload_n 0, 1), (29, .getfield 155, 3), (32, .aload_n 0, 1), (33, .getfield 244, 3), (36, .iload_n 1, 1), (37, .iastore, 1), (38, .aload_n 0, 1), (39, .getfield 158, 3), (42, .aload_n 0, 1)] = true ∧ dOk cX12_scope [(43, .getfield 244, 3), (46, .iload_n 2, 1), (47, .iastore, 1), (48, .iconst 0, 1), (49, .istore_n 3, 1), (50, .iload_n 3, 1), (51, .bipush 24, 2), (53, .if_icmp .ge 24, 3), (56, .aload_n 0, 1), (57, .getfield 161, 3), (60, .bipush 24, 2), (62, .aload_n 0, 1), (63, .getfield 244, 3), (66, .imul, 1), (67, .iload_n 3, 1), (68, .iadd, 1), (69, .iconst 0, 1), (70, .bastore, 1), (71, .iinc 3 1, 3), (74, .goto (-24), 3), (77, .aload_n 0, 1), (78, .dup, 1), (79, .getfield 244, 3), (82, .iconst 1, 1)] = true ∧ dOk cX12_scope [(83, .iadd, 1), (84, .putfield 244, 3), (87, .aload_n 0, 1), (88, .getfield 244, 3), (91, .iconst 1, 1), (92, .isub, 1), (93, .ireturn, 1)] = true := by decide +kernel
theorem dX12_scope_0 : decode cX12_scope 0 = .ok (.aload_n 0, 1) := dr9 dk9_dX12_scope_0_0.1 0 (0, .aload_n 0, 1) rfl
theorem dX12_scope_1 : decode cX12_scope 1 = .ok (.getfield 408, 3) := dr9 dk9_dX12_scope_0_0.1 1 (1, .getfield 408, 3) rfl
theorem dX12_scope_4 : decode cX12_scope 4 = .ok (.ifCond .eq 12, 3) := dr9 dk9_dX12_scope_0_0.1 2 (4, .ifCond .eq 12, 3) rfl
theorem dX12_scope_16 : decode cX12_scope 16 = .ok (.iconst (-1), 1) := dr9 dk9_dX12_scope_0_0.1 3 (16, .iconst (-1), 1) rfl
theorem dX12_scope_17 : decode cX12_scope 17 = .ok (.ireturn, 1) := dr9 dk9_dX12_scope_0_0.1 4 (17, .ireturn, 1) rfl
theorem dX12_scope_7 : decode cX12_scope 7 = .ok (.aload_n 0, 1) := dr9 dk9_dX12_scope_0_0.1 5 (7, .aload_n 0, 1) rfl
theorem dX12_scope_8 : decode cX12_scope 8 = .ok (.getfield 244, 3) := dr9 dk9_dX12_scope_0_0.1 6 (8, .getfield 244, 3) rfl
theorem dX12_scope_11 : decode cX12_scope 11 = .ok (.bipush 40, 2) := dr9 dk9_dX12_scope_0_0.1 7 (11, .bipush 40, 2) rfl
theorem dX12_scope_13 : decode cX12_scope 13 = .ok (.if_icmp .ne 5, 3) := dr9 dk9_dX12_scope_0_0.1 8 (13, .if_icmp .ne 5, 3) rfl
theorem dX12_scope_18 : decode cX12_scope 18 = .ok (.aload_n 0, 1) := dr9 dk9_dX12_scope_0_0.1 9 (18, .aload_n 0, 1) rfl
theorem dX12_scope_19 : decode cX12_scope 19 = .ok (.getfield 152, 3) := dr9 dk9_dX12_scope_0_0.1 10 (19, .getfield 152, 3) rfl
theorem dX12_scope_22 : decode cX12_scope 22 = .ok (.aload_n 0, 1) := dr9 dk9_dX12_scope_0_0.1 11 (22, .aload_n 0, 1) rfl
theorem dX12_scope_23 : decode cX12_scope 23 = .ok (.getfield 244, 3) := dr9 dk9_dX12_scope_0_0.1 12 (23, .getfield 244, 3) rfl
theorem dX12_scope_26 : decode cX12_scope 26 = .ok (.iconst 1, 1) := dr9 dk9_dX12_scope_0_0.1 13 (26, .iconst 1, 1) rfl
theorem dX12_scope_27 : decode cX12_scope 27 = .ok (.bastore, 1) := dr9 dk9_dX12_scope_0_0.1 14 (27, .bastore, 1) rfl
theorem dX12_scope_28 : decode cX12_scope 28 = .ok (.aload_n 0, 1) := dr9 dk9_dX12_scope_0_0.1 15 (28, .aload_n 0, 1) rfl
theorem dX12_scope_29 : decode cX12_scope 29 = .ok (.getfield 155, 3) := dr9 dk9_dX12_scope_0_0.1 16 (29, .getfield 155, 3) rfl
theorem dX12_scope_32 : decode cX12_scope 32 = .ok (.aload_n 0, 1) := dr9 dk9_dX12_scope_0_0.1 17 (32, .aload_n 0, 1) rfl
theorem dX12_scope_33 : decode cX12_scope 33 = .ok (.getfield 244, 3) := dr9 dk9_dX12_scope_0_0.1 18 (33, .getfield 244, 3) rfl
theorem dX12_scope_36 : decode cX12_scope 36 = .ok (.iload_n 1, 1) := dr9 dk9_dX12_scope_0_0.1 19 (36, .iload_n 1, 1) rfl
theorem dX12_scope_37 : decode cX12_scope 37 = .ok (.iastore, 1) := dr9 dk9_dX12_scope_0_0.1 20 (37, .iastore, 1) rfl
theorem dX12_scope_38 : decode cX12_scope 38 = .ok (.aload_n 0, 1) := dr9 dk9_dX12_scope_0_0.1 21 (38, .aload_n 0, 1) rfl
theorem dX12_scope_39 : decode cX12_scope 39 = .ok (.getfield 158, 3) := dr9 dk9_dX12_scope_0_0.1 22 (39, .getfield 158, 3) rfl
theorem dX12_scope_42 : decode cX12_scope 42 = .ok (.aload_n 0, 1) := dr9 dk9_dX12_scope_0_0.1 23 (42, .aload_n 0, 1) rfl
theorem dX12_scope_43 : decode cX12_scope 43 = .ok (.getfield 244, 3) := dr9 dk9_dX12_scope_0_0.2.1 0 (43, .getfield 244, 3) rfl
theorem dX12_scope_46 : decode cX12_scope 46 = .ok (.iload_n 2, 1) := dr9 dk9_dX12_scope_0_0.2.1 1 (46, .iload_n 2, 1) rfl
theorem dX12_scope_47 : decode cX12_scope 47 = .ok (.iastore, 1) := dr9 dk9_dX12_scope_0_0.2.1 2 (47, .iastore, 1) rfl
theorem dX12_scope_48 : decode cX12_scope 48 = .ok (.iconst 0, 1) := dr9 dk9_dX12_scope_0_0.2.1 3 (48, .iconst 0, 1) rfl
theorem dX12_scope_49 : decode cX12_scope 49 = .ok (.istore_n 3, 1) := dr9 dk9_dX12_scope_0_0.2.1 4 (49, .istore_n 3, 1) rfl
theorem dX12_scope_50 : decode cX12_scope 50 = .ok (.iload_n 3, 1) := dr9 dk9_dX12_scope_0_0.2.1 5 (50, .iload_n 3, 1) rfl
theorem dX12_scope_51 : decode cX12_scope 51 = .ok (.bipush 24, 2) := dr9 dk9_dX12_scope_0_0.2.1 6 (51, .bipush 24, 2) rfl
theorem dX12_scope_53 : decode cX12_scope 53 = .ok (.if_icmp .ge 24, 3) := dr9 dk9_dX12_scope_0_0.2.1 7 (53, .if_icmp .ge 24, 3) rfl
theorem dX12_scope_56 : decode cX12_scope 56 = .ok (.aload_n 0, 1) := dr9 dk9_dX12_scope_0_0.2.1 8 (56, .aload_n 0, 1) rfl
theorem dX12_scope_57 : decode cX12_scope 57 = .ok (.getfield 161, 3) := dr9 dk9_dX12_scope_0_0.2.1 9 (57, .getfield 161, 3) rfl
theorem dX12_scope_60 : decode cX12_scope 60 = .ok (.bipush 24, 2) := dr9 dk9_dX12_scope_0_0.2.1 10 (60, .bipush 24, 2) rfl
theorem dX12_scope_62 : decode cX12_scope 62 = .ok (.aload_n 0, 1) := dr9 dk9_dX12_scope_0_0.2.1 11 (62, .aload_n 0, 1) rfl
theorem dX12_scope_63 : decode cX12_scope 63 = .ok (.getfield 244, 3) := dr9 dk9_dX12_scope_0_0.2.1 12 (63, .getfield 244, 3) rfl
theorem dX12_scope_66 : decode cX12_scope 66 = .ok (.imul, 1) := dr9 dk9_dX12_scope_0_0.2.1 13 (66, .imul, 1) rfl
theorem dX12_scope_67 : decode cX12_scope 67 = .ok (.iload_n 3, 1) := dr9 dk9_dX12_scope_0_0.2.1 14 (67, .iload_n 3, 1) rfl
theorem dX12_scope_68 : decode cX12_scope 68 = .ok (.iadd, 1) := dr9 dk9_dX12_scope_0_0.2.1 15 (68, .iadd, 1) rfl
theorem dX12_scope_69 : decode cX12_scope 69 = .ok (.iconst 0, 1) := dr9 dk9_dX12_scope_0_0.2.1 16 (69, .iconst 0, 1) rfl
theorem dX12_scope_70 : decode cX12_scope 70 = .ok (.bastore, 1) := dr9 dk9_dX12_scope_0_0.2.1 17 (70, .bastore, 1) rfl
theorem dX12_scope_71 : decode cX12_scope 71 = .ok (.iinc 3 1, 3) := dr9 dk9_dX12_scope_0_0.2.1 18 (71, .iinc 3 1, 3) rfl
theorem dX12_scope_74 : decode cX12_scope 74 = .ok (.goto (-24), 3) := dr9 dk9_dX12_scope_0_0.2.1 19 (74, .goto (-24), 3) rfl
theorem dX12_scope_77 : decode cX12_scope 77 = .ok (.aload_n 0, 1) := dr9 dk9_dX12_scope_0_0.2.1 20 (77, .aload_n 0, 1) rfl
theorem dX12_scope_78 : decode cX12_scope 78 = .ok (.dup, 1) := dr9 dk9_dX12_scope_0_0.2.1 21 (78, .dup, 1) rfl
theorem dX12_scope_79 : decode cX12_scope 79 = .ok (.getfield 244, 3) := dr9 dk9_dX12_scope_0_0.2.1 22 (79, .getfield 244, 3) rfl
theorem dX12_scope_82 : decode cX12_scope 82 = .ok (.iconst 1, 1) := dr9 dk9_dX12_scope_0_0.2.1 23 (82, .iconst 1, 1) rfl
theorem dX12_scope_83 : decode cX12_scope 83 = .ok (.iadd, 1) := dr9 dk9_dX12_scope_0_0.2.2 0 (83, .iadd, 1) rfl
theorem dX12_scope_84 : decode cX12_scope 84 = .ok (.putfield 244, 3) := dr9 dk9_dX12_scope_0_0.2.2 1 (84, .putfield 244, 3) rfl
theorem dX12_scope_87 : decode cX12_scope 87 = .ok (.aload_n 0, 1) := dr9 dk9_dX12_scope_0_0.2.2 2 (87, .aload_n 0, 1) rfl
theorem dX12_scope_88 : decode cX12_scope 88 = .ok (.getfield 244, 3) := dr9 dk9_dX12_scope_0_0.2.2 3 (88, .getfield 244, 3) rfl
theorem dX12_scope_91 : decode cX12_scope 91 = .ok (.iconst 1, 1) := dr9 dk9_dX12_scope_0_0.2.2 4 (91, .iconst 1, 1) rfl
theorem dX12_scope_92 : decode cX12_scope 92 = .ok (.isub, 1) := dr9 dk9_dX12_scope_0_0.2.2 5 (92, .isub, 1) rfl
theorem dX12_scope_93 : decode cX12_scope 93 = .ok (.ireturn, 1) := dr9 dk9_dX12_scope_0_0.2.2 6 (93, .ireturn, 1) rfl
theorem dk9_dX12_day_0_0 : dOk cX12_day [(0, .aload_n 0, 1), (1, .iconst 0, 1), (2, .putfield 1, 3), (5, .aload_n 0, 1), (6, .iconst 1, 1), (7, .iconst (-1), 1), (8, .invokevirtual 571, 3), (11, .ireturn, 1)] = true := by decide +kernel
theorem dX12_day_0 : decode cX12_day 0 = .ok (.aload_n 0, 1) := dr9 dk9_dX12_day_0_0 0 (0, .aload_n 0, 1) rfl
theorem dX12_day_1 : decode cX12_day 1 = .ok (.iconst 0, 1) := dr9 dk9_dX12_day_0_0 1 (1, .iconst 0, 1) rfl
theorem dX12_day_2 : decode cX12_day 2 = .ok (.putfield 1, 3) := dr9 dk9_dX12_day_0_0 2 (2, .putfield 1, 3) rfl
theorem dX12_day_5 : decode cX12_day 5 = .ok (.aload_n 0, 1) := dr9 dk9_dX12_day_0_0 3 (5, .aload_n 0, 1) rfl
theorem dX12_day_6 : decode cX12_day 6 = .ok (.iconst 1, 1) := dr9 dk9_dX12_day_0_0 4 (6, .iconst 1, 1) rfl
theorem dX12_day_7 : decode cX12_day 7 = .ok (.iconst (-1), 1) := dr9 dk9_dX12_day_0_0 5 (7, .iconst (-1), 1) rfl
theorem dX12_day_8 : decode cX12_day 8 = .ok (.invokevirtual 571, 3) := dr9 dk9_dX12_day_0_0 6 (8, .invokevirtual 571, 3) rfl
theorem dX12_day_11 : decode cX12_day 11 = .ok (.ireturn, 1) := dr9 dk9_dX12_day_0_0 7 (11, .ireturn, 1) rfl
theorem dk9_dX12_meal_0_0 : dOk cX12_meal [(0, .aload_n 0, 1), (1, .iconst 0, 1), (2, .putfield 1, 3), (5, .aload_n 0, 1), (6, .iload_n 1, 1), (7, .invokevirtual 574, 3), (10, .ifCond .eq 22, 3), (32, .iconst (-1), 1), (33, .ireturn, 1), (13, .aload_n 0, 1), (14, .getfield 155, 3), (17, .iload_n 1, 1), (18, .iaload, 1), (19, .iconst 1, 1), (20, .if_icmp .ne 12, 3), (23, .aload_n 0, 1), (24, .iconst 2, 1), (25, .iload_n 1, 1), (26, .invokevirtual 571, 3), (29, .goto 4, 3)] = true := by decide +kernel
theorem dX12_meal_0 : decode cX12_meal 0 = .ok (.aload_n 0, 1) := dr9 dk9_dX12_meal_0_0 0 (0, .aload_n 0, 1) rfl
theorem dX12_meal_1 : decode cX12_meal 1 = .ok (.iconst 0, 1) := dr9 dk9_dX12_meal_0_0 1 (1, .iconst 0, 1) rfl
theorem dX12_meal_2 : decode cX12_meal 2 = .ok (.putfield 1, 3) := dr9 dk9_dX12_meal_0_0 2 (2, .putfield 1, 3) rfl
theorem dX12_meal_5 : decode cX12_meal 5 = .ok (.aload_n 0, 1) := dr9 dk9_dX12_meal_0_0 3 (5, .aload_n 0, 1) rfl
theorem dX12_meal_6 : decode cX12_meal 6 = .ok (.iload_n 1, 1) := dr9 dk9_dX12_meal_0_0 4 (6, .iload_n 1, 1) rfl
theorem dX12_meal_7 : decode cX12_meal 7 = .ok (.invokevirtual 574, 3) := dr9 dk9_dX12_meal_0_0 5 (7, .invokevirtual 574, 3) rfl
theorem dX12_meal_10 : decode cX12_meal 10 = .ok (.ifCond .eq 22, 3) := dr9 dk9_dX12_meal_0_0 6 (10, .ifCond .eq 22, 3) rfl
theorem dX12_meal_32 : decode cX12_meal 32 = .ok (.iconst (-1), 1) := dr9 dk9_dX12_meal_0_0 7 (32, .iconst (-1), 1) rfl
theorem dX12_meal_33 : decode cX12_meal 33 = .ok (.ireturn, 1) := dr9 dk9_dX12_meal_0_0 8 (33, .ireturn, 1) rfl
theorem dX12_meal_13 : decode cX12_meal 13 = .ok (.aload_n 0, 1) := dr9 dk9_dX12_meal_0_0 9 (13, .aload_n 0, 1) rfl
theorem dX12_meal_14 : decode cX12_meal 14 = .ok (.getfield 155, 3) := dr9 dk9_dX12_meal_0_0 10 (14, .getfield 155, 3) rfl
theorem dX12_meal_17 : decode cX12_meal 17 = .ok (.iload_n 1, 1) := dr9 dk9_dX12_meal_0_0 11 (17, .iload_n 1, 1) rfl
theorem dX12_meal_18 : decode cX12_meal 18 = .ok (.iaload, 1) := dr9 dk9_dX12_meal_0_0 12 (18, .iaload, 1) rfl
theorem dX12_meal_19 : decode cX12_meal 19 = .ok (.iconst 1, 1) := dr9 dk9_dX12_meal_0_0 13 (19, .iconst 1, 1) rfl
theorem dX12_meal_20 : decode cX12_meal 20 = .ok (.if_icmp .ne 12, 3) := dr9 dk9_dX12_meal_0_0 14 (20, .if_icmp .ne 12, 3) rfl
theorem dX12_meal_23 : decode cX12_meal 23 = .ok (.aload_n 0, 1) := dr9 dk9_dX12_meal_0_0 15 (23, .aload_n 0, 1) rfl
theorem dX12_meal_24 : decode cX12_meal 24 = .ok (.iconst 2, 1) := dr9 dk9_dX12_meal_0_0 16 (24, .iconst 2, 1) rfl
theorem dX12_meal_25 : decode cX12_meal 25 = .ok (.iload_n 1, 1) := dr9 dk9_dX12_meal_0_0 17 (25, .iload_n 1, 1) rfl
theorem dX12_meal_26 : decode cX12_meal 26 = .ok (.invokevirtual 571, 3) := dr9 dk9_dX12_meal_0_0 18 (26, .invokevirtual 571, 3) rfl
theorem dX12_meal_29 : decode cX12_meal 29 = .ok (.goto 4, 3) := dr9 dk9_dX12_meal_0_0 19 (29, .goto 4, 3) rfl
theorem dk9_dX12_begins__0_0 : dOk cX12_begins_ [(0, .aload_n 0, 1), (1, .iconst 0, 1), (2, .putfield 432, 3), (5, .aload_n 0, 1), (6, .iconst 0, 1), (7, .putfield 520, 3), (10, .aload_n 0, 1), (11, .iconst 0, 1), (12, .putfield 548, 3), (15, .aload_n 0, 1), (16, .iconst 0, 1), (17, .putfield 507, 3), (20, .aload_n 0, 1), (21, .iconst 0, 1), (22, .putfield 426, 3), (25, .aload_n 0, 1), (26, .iconst 0, 1), (27, .putfield 429, 3), (30, .return_, 1)] = true := by decide +kernel
theorem dX12_begins__0 : decode cX12_begins_ 0 = .ok (.aload_n 0, 1) := dr9 dk9_dX12_begins__0_0 0 (0, .aload_n 0, 1) rfl
theorem dX12_begins__1 : decode cX12_begins_ 1 = .ok (.iconst 0, 1) := dr9 dk9_dX12_begins__0_0 1 (1, .iconst 0, 1) rfl
theorem dX12_begins__2 : decode cX12_begins_ 2 = .ok (.putfield 432, 3) := dr9 dk9_dX12_begins__0_0 2 (2, .putfield 432, 3) rfl
theorem dX12_begins__5 : decode cX12_begins_ 5 = .ok (.aload_n 0, 1) := dr9 dk9_dX12_begins__0_0 3 (5, .aload_n 0, 1) rfl
theorem dX12_begins__6 : decode cX12_begins_ 6 = .ok (.iconst 0, 1) := dr9 dk9_dX12_begins__0_0 4 (6, .iconst 0, 1) rfl
theorem dX12_begins__7 : decode cX12_begins_ 7 = .ok (.putfield 520, 3) := dr9 dk9_dX12_begins__0_0 5 (7, .putfield 520, 3) rfl
theorem dX12_begins__10 : decode cX12_begins_ 10 = .ok (.aload_n 0, 1) := dr9 dk9_dX12_begins__0_0 6 (10, .aload_n 0, 1) rfl
theorem dX12_begins__11 : decode cX12_begins_ 11 = .ok (.iconst 0, 1) := dr9 dk9_dX12_begins__0_0 7 (11, .iconst 0, 1) rfl
theorem dX12_begins__12 : decode cX12_begins_ 12 = .ok (.putfield 548, 3) := dr9 dk9_dX12_begins__0_0 8 (12, .putfield 548, 3) rfl
theorem dX12_begins__15 : decode cX12_begins_ 15 = .ok (.aload_n 0, 1) := dr9 dk9_dX12_begins__0_0 9 (15, .aload_n 0, 1) rfl
theorem dX12_begins__16 : decode cX12_begins_ 16 = .ok (.iconst 0, 1) := dr9 dk9_dX12_begins__0_0 10 (16, .iconst 0, 1) rfl
theorem dX12_begins__17 : decode cX12_begins_ 17 = .ok (.putfield 507, 3) := dr9 dk9_dX12_begins__0_0 11 (17, .putfield 507, 3) rfl
theorem dX12_begins__20 : decode cX12_begins_ 20 = .ok (.aload_n 0, 1) := dr9 dk9_dX12_begins__0_0 12 (20, .aload_n 0, 1) rfl
theorem dX12_begins__21 : decode cX12_begins_ 21 = .ok (.iconst 0, 1) := dr9 dk9_dX12_begins__0_0 13 (21, .iconst 0, 1) rfl
theorem dX12_begins__22 : decode cX12_begins_ 22 = .ok (.putfield 426, 3) := dr9 dk9_dX12_begins__0_0 14 (22, .putfield 426, 3) rfl
theorem dX12_begins__25 : decode cX12_begins_ 25 = .ok (.aload_n 0, 1) := dr9 dk9_dX12_begins__0_0 15 (25, .aload_n 0, 1) rfl
theorem dX12_begins__26 : decode cX12_begins_ 26 = .ok (.iconst 0, 1) := dr9 dk9_dX12_begins__0_0 16 (26, .iconst 0, 1) rfl
theorem dX12_begins__27 : decode cX12_begins_ 27 = .ok (.putfield 429, 3) := dr9 dk9_dX12_begins__0_0 17 (27, .putfield 429, 3) rfl
theorem dX12_begins__30 : decode cX12_begins_ 30 = .ok (.return_, 1) := dr9 dk9_dX12_begins__0_0 18 (30, .return_, 1) rfl
theorem dk9_dX12_ends_0_0 : dOk cX12_ends [(0, .aload_n 0, 1), (1, .iload_n 1, 1), (2, .ifCond .ne 7, 3), (5, .iconst 0, 1), (6, .goto 14, 3), (9, .iload_n 1, 1), (10, .iconst 1, 1), (11, .if_icmp .ne 7, 3), (18, .bipush 6, 2), (14, .iconst 1, 1), (15, .goto 5, 3), (20, .putfield 423, 3), (23, .aload_n 0, 1), (24, .iload_n 1, 1), (25, .iconst 1, 1), (26, .if_icmp .ne 10, 3), (29, .aload_n 0, 1), (30, .getfield 471, 3), (33, .goto 4, 3), (36, .iconst 0, 1), (37, .putfield 426, 3), (40, .aload_n 0, 1), (41, .iload_n 1, 1), (42, .iconst 1, 1)] = true ∧ dOk cX12_ends [(43, .if_icmp .ne 10, 3), (46, .aload_n 0, 1), (47, .getfield 474, 3), (50, .goto 4, 3), (53, .iconst 0, 1), (54, .putfield 429, 3), (57, .iload_n 1, 1), (58, .ifCond .ne 7, 3), (65, .iconst 0, 1), (66, .ireturn, 1), (61, .iconst 1, 1), (62, .goto 4, 3)] = true := by decide +kernel
theorem dX12_ends_0 : decode cX12_ends 0 = .ok (.aload_n 0, 1) := dr9 dk9_dX12_ends_0_0.1 0 (0, .aload_n 0, 1) rfl
theorem dX12_ends_1 : decode cX12_ends 1 = .ok (.iload_n 1, 1) := dr9 dk9_dX12_ends_0_0.1 1 (1, .iload_n 1, 1) rfl
theorem dX12_ends_2 : decode cX12_ends 2 = .ok (.ifCond .ne 7, 3) := dr9 dk9_dX12_ends_0_0.1 2 (2, .ifCond .ne 7, 3) rfl
theorem dX12_ends_5 : decode cX12_ends 5 = .ok (.iconst 0, 1) := dr9 dk9_dX12_ends_0_0.1 3 (5, .iconst 0, 1) rfl
theorem dX12_ends_6 : decode cX12_ends 6 = .ok (.goto 14, 3) := dr9 dk9_dX12_ends_0_0.1 4 (6, .goto 14, 3) rfl
theorem dX12_ends_9 : decode cX12_ends 9 = .ok (.iload_n 1, 1) := dr9 dk9_dX12_ends_0_0.1 5 (9, .iload_n 1, 1) rfl
theorem dX12_ends_10 : decode cX12_ends 10 = .ok (.iconst 1, 1) := dr9 dk9_dX12_ends_0_0.1 6 (10, .iconst 1, 1) rfl
theorem dX12_ends_11 : decode cX12_ends 11 = .ok (.if_icmp .ne 7, 3) := dr9 dk9_dX12_ends_0_0.1 7 (11, .if_icmp .ne 7, 3) rfl
theorem dX12_ends_18 : decode cX12_ends 18 = .ok (.bipush 6, 2) := dr9 dk9_dX12_ends_0_0.1 8 (18, .bipush 6, 2) rfl
theorem dX12_ends_14 : decode cX12_ends 14 = .ok (.iconst 1, 1) := dr9 dk9_dX12_ends_0_0.1 9 (14, .iconst 1, 1) rfl
theorem dX12_ends_15 : decode cX12_ends 15 = .ok (.goto 5, 3) := dr9 dk9_dX12_ends_0_0.1 10 (15, .goto 5, 3) rfl
theorem dX12_ends_20 : decode cX12_ends 20 = .ok (.putfield 423, 3) := dr9 dk9_dX12_ends_0_0.1 11 (20, .putfield 423, 3) rfl
theorem dX12_ends_23 : decode cX12_ends 23 = .ok (.aload_n 0, 1) := dr9 dk9_dX12_ends_0_0.1 12 (23, .aload_n 0, 1) rfl
theorem dX12_ends_24 : decode cX12_ends 24 = .ok (.iload_n 1, 1) := dr9 dk9_dX12_ends_0_0.1 13 (24, .iload_n 1, 1) rfl
theorem dX12_ends_25 : decode cX12_ends 25 = .ok (.iconst 1, 1) := dr9 dk9_dX12_ends_0_0.1 14 (25, .iconst 1, 1) rfl
theorem dX12_ends_26 : decode cX12_ends 26 = .ok (.if_icmp .ne 10, 3) := dr9 dk9_dX12_ends_0_0.1 15 (26, .if_icmp .ne 10, 3) rfl
theorem dX12_ends_29 : decode cX12_ends 29 = .ok (.aload_n 0, 1) := dr9 dk9_dX12_ends_0_0.1 16 (29, .aload_n 0, 1) rfl
theorem dX12_ends_30 : decode cX12_ends 30 = .ok (.getfield 471, 3) := dr9 dk9_dX12_ends_0_0.1 17 (30, .getfield 471, 3) rfl
theorem dX12_ends_33 : decode cX12_ends 33 = .ok (.goto 4, 3) := dr9 dk9_dX12_ends_0_0.1 18 (33, .goto 4, 3) rfl
theorem dX12_ends_36 : decode cX12_ends 36 = .ok (.iconst 0, 1) := dr9 dk9_dX12_ends_0_0.1 19 (36, .iconst 0, 1) rfl
theorem dX12_ends_37 : decode cX12_ends 37 = .ok (.putfield 426, 3) := dr9 dk9_dX12_ends_0_0.1 20 (37, .putfield 426, 3) rfl
theorem dX12_ends_40 : decode cX12_ends 40 = .ok (.aload_n 0, 1) := dr9 dk9_dX12_ends_0_0.1 21 (40, .aload_n 0, 1) rfl
theorem dX12_ends_41 : decode cX12_ends 41 = .ok (.iload_n 1, 1) := dr9 dk9_dX12_ends_0_0.1 22 (41, .iload_n 1, 1) rfl
theorem dX12_ends_42 : decode cX12_ends 42 = .ok (.iconst 1, 1) := dr9 dk9_dX12_ends_0_0.1 23 (42, .iconst 1, 1) rfl
theorem dX12_ends_43 : decode cX12_ends 43 = .ok (.if_icmp .ne 10, 3) := dr9 dk9_dX12_ends_0_0.2 0 (43, .if_icmp .ne 10, 3) rfl
theorem dX12_ends_46 : decode cX12_ends 46 = .ok (.aload_n 0, 1) := dr9 dk9_dX12_ends_0_0.2 1 (46, .aload_n 0, 1) rfl
theorem dX12_ends_47 : decode cX12_ends 47 = .ok (.getfield 474, 3) := dr9 dk9_dX12_ends_0_0.2 2 (47, .getfield 474, 3) rfl
theorem dX12_ends_50 : decode cX12_ends 50 = .ok (.goto 4, 3) := dr9 dk9_dX12_ends_0_0.2 3 (50, .goto 4, 3) rfl
theorem dX12_ends_53 : decode cX12_ends 53 = .ok (.iconst 0, 1) := dr9 dk9_dX12_ends_0_0.2 4 (53, .iconst 0, 1) rfl
theorem dX12_ends_54 : decode cX12_ends 54 = .ok (.putfield 429, 3) := dr9 dk9_dX12_ends_0_0.2 5 (54, .putfield 429, 3) rfl
theorem dX12_ends_57 : decode cX12_ends 57 = .ok (.iload_n 1, 1) := dr9 dk9_dX12_ends_0_0.2 6 (57, .iload_n 1, 1) rfl
theorem dX12_ends_58 : decode cX12_ends 58 = .ok (.ifCond .ne 7, 3) := dr9 dk9_dX12_ends_0_0.2 7 (58, .ifCond .ne 7, 3) rfl
theorem dX12_ends_65 : decode cX12_ends 65 = .ok (.iconst 0, 1) := dr9 dk9_dX12_ends_0_0.2 8 (65, .iconst 0, 1) rfl
theorem dX12_ends_66 : decode cX12_ends 66 = .ok (.ireturn, 1) := dr9 dk9_dX12_ends_0_0.2 9 (66, .ireturn, 1) rfl
theorem dX12_ends_61 : decode cX12_ends 61 = .ok (.iconst 1, 1) := dr9 dk9_dX12_ends_0_0.2 10 (61, .iconst 1, 1) rfl
theorem dX12_ends_62 : decode cX12_ends 62 = .ok (.goto 4, 3) := dr9 dk9_dX12_ends_0_0.2 11 (62, .goto 4, 3) rfl
theorem dk9_dX12_addFault_0_0 : dOk cX12_addFault [(0, .aload_n 0, 1), (1, .getfield 435, 3), (4, .bipush 100, 2), (6, .if_icmp .ge 33, 3), (9, .aload_n 0, 1), (10, .getfield 201, 3), (13, .aload_n 0, 1), (14, .getfield 435, 3), (17, .iload_n 1, 1), (18, .iastore, 1), (19, .aload_n 0, 1), (20, .getfield 204, 3), (23, .aload_n 0, 1), (24, .getfield 435, 3), (27, .iload_n 2, 1), (28, .iastore, 1), (29, .aload_n 0, 1), (30, .getfield 207, 3), (33, .aload_n 0, 1), (34, .getfield 435, 3), (37, .iload_n 3, 1), (38, .iastore, 1), (39, .aload_n 0, 1), (40, .dup, 1)] = true ∧ dOk cX12_addFault [(41, .getfield 435, 3), (44, .iconst 1, 1), (45, .iadd, 1), (46, .putfield 435, 3), (49, .return_, 1)] = true := by decide +kernel
theorem dX12_addFault_0 : decode cX12_addFault 0 = .ok (.aload_n 0, 1) := dr9 dk9_dX12_addFault_0_0.1 0 (0, .aload_n 0, 1) rfl
theorem dX12_addFault_1 : decode cX12_addFault 1 = .ok (.getfield 435, 3) := dr9 dk9_dX12_addFault_0_0.1 1 (1, .getfield 435, 3) rfl
theorem dX12_addFault_4 : decode cX12_addFault 4 = .ok (.bipush 100, 2) := dr9 dk9_dX12_addFault_0_0.1 2 (4, .bipush 100, 2) rfl
theorem dX12_addFault_6 : decode cX12_addFault 6 = .ok (.if_icmp .ge 33, 3) := dr9 dk9_dX12_addFault_0_0.1 3 (6, .if_icmp .ge 33, 3) rfl
theorem dX12_addFault_9 : decode cX12_addFault 9 = .ok (.aload_n 0, 1) := dr9 dk9_dX12_addFault_0_0.1 4 (9, .aload_n 0, 1) rfl
theorem dX12_addFault_10 : decode cX12_addFault 10 = .ok (.getfield 201, 3) := dr9 dk9_dX12_addFault_0_0.1 5 (10, .getfield 201, 3) rfl
theorem dX12_addFault_13 : decode cX12_addFault 13 = .ok (.aload_n 0, 1) := dr9 dk9_dX12_addFault_0_0.1 6 (13, .aload_n 0, 1) rfl
theorem dX12_addFault_14 : decode cX12_addFault 14 = .ok (.getfield 435, 3) := dr9 dk9_dX12_addFault_0_0.1 7 (14, .getfield 435, 3) rfl
theorem dX12_addFault_17 : decode cX12_addFault 17 = .ok (.iload_n 1, 1) := dr9 dk9_dX12_addFault_0_0.1 8 (17, .iload_n 1, 1) rfl
theorem dX12_addFault_18 : decode cX12_addFault 18 = .ok (.iastore, 1) := dr9 dk9_dX12_addFault_0_0.1 9 (18, .iastore, 1) rfl
theorem dX12_addFault_19 : decode cX12_addFault 19 = .ok (.aload_n 0, 1) := dr9 dk9_dX12_addFault_0_0.1 10 (19, .aload_n 0, 1) rfl
theorem dX12_addFault_20 : decode cX12_addFault 20 = .ok (.getfield 204, 3) := dr9 dk9_dX12_addFault_0_0.1 11 (20, .getfield 204, 3) rfl
theorem dX12_addFault_23 : decode cX12_addFault 23 = .ok (.aload_n 0, 1) := dr9 dk9_dX12_addFault_0_0.1 12 (23, .aload_n 0, 1) rfl
theorem dX12_addFault_24 : decode cX12_addFault 24 = .ok (.getfield 435, 3) := dr9 dk9_dX12_addFault_0_0.1 13 (24, .getfield 435, 3) rfl
theorem dX12_addFault_27 : decode cX12_addFault 27 = .ok (.iload_n 2, 1) := dr9 dk9_dX12_addFault_0_0.1 14 (27, .iload_n 2, 1) rfl
theorem dX12_addFault_28 : decode cX12_addFault 28 = .ok (.iastore, 1) := dr9 dk9_dX12_addFault_0_0.1 15 (28, .iastore, 1) rfl
theorem dX12_addFault_29 : decode cX12_addFault 29 = .ok (.aload_n 0, 1) := dr9 dk9_dX12_addFault_0_0.1 16 (29, .aload_n 0, 1) rfl
theorem dX12_addFault_30 : decode cX12_addFault 30 = .ok (.getfield 207, 3) := dr9 dk9_dX12_addFault_0_0.1 17 (30, .getfield 207, 3) rfl
theorem dX12_addFault_33 : decode cX12_addFault 33 = .ok (.aload_n 0, 1) := dr9 dk9_dX12_addFault_0_0.1 18 (33, .aload_n 0, 1) rfl
theorem dX12_addFault_34 : decode cX12_addFault 34 = .ok (.getfield 435, 3) := dr9 dk9_dX12_addFault_0_0.1 19 (34, .getfield 435, 3) rfl
theorem dX12_addFault_37 : decode cX12_addFault 37 = .ok (.iload_n 3, 1) := dr9 dk9_dX12_addFault_0_0.1 20 (37, .iload_n 3, 1) rfl
theorem dX12_addFault_38 : decode cX12_addFault 38 = .ok (.iastore, 1) := dr9 dk9_dX12_addFault_0_0.1 21 (38, .iastore, 1) rfl
theorem dX12_addFault_39 : decode cX12_addFault 39 = .ok (.aload_n 0, 1) := dr9 dk9_dX12_addFault_0_0.1 22 (39, .aload_n 0, 1) rfl
theorem dX12_addFault_40 : decode cX12_addFault 40 = .ok (.dup, 1) := dr9 dk9_dX12_addFault_0_0.1 23 (40, .dup, 1) rfl
theorem dX12_addFault_41 : decode cX12_addFault 41 = .ok (.getfield 435, 3) := dr9 dk9_dX12_addFault_0_0.2 0 (41, .getfield 435, 3) rfl
theorem dX12_addFault_44 : decode cX12_addFault 44 = .ok (.iconst 1, 1) := dr9 dk9_dX12_addFault_0_0.2 1 (44, .iconst 1, 1) rfl
theorem dX12_addFault_45 : decode cX12_addFault 45 = .ok (.iadd, 1) := dr9 dk9_dX12_addFault_0_0.2 2 (45, .iadd, 1) rfl
theorem dX12_addFault_46 : decode cX12_addFault 46 = .ok (.putfield 435, 3) := dr9 dk9_dX12_addFault_0_0.2 3 (46, .putfield 435, 3) rfl
theorem dX12_addFault_49 : decode cX12_addFault 49 = .ok (.return_, 1) := dr9 dk9_dX12_addFault_0_0.2 4 (49, .return_, 1) rfl
theorem dk9_dX12_fault_0_0 : dOk cX12_fault [(0, .aload_n 0, 1), (1, .iconst 0, 1), (2, .putfield 1, 3), (5, .iload_n 1, 1), (6, .ifCond .lt 17, 3), (23, .iconst (-1), 1), (24, .ireturn, 1), (9, .iload_n 1, 1), (10, .aload_n 0, 1), (11, .getfield 435, 3), (14, .if_icmp .ge 9, 3), (17, .iload_n 1, 1), (18, .bipush 100, 2), (20, .if_icmp .lt 5, 3), (25, .iload_n 2, 1), (26, .ifCond .ne 12, 3), (38, .iload_n 2, 1), (39, .iconst 1, 1), (40, .if_icmp .ne 12, 3), (52, .iload_n 2, 1), (53, .iconst 2, 1), (54, .if_icmp .ne 12, 3), (66, .iconst (-1), 1), (67, .ireturn, 1)] = true ∧ dOk cX12_fault [(57, .aload_n 0, 1), (58, .getfield 207, 3), (61, .iload_n 1, 1), (62, .iaload, 1), (63, .goto 4, 3), (43, .aload_n 0, 1), (44, .getfield 204, 3), (47, .iload_n 1, 1), (48, .iaload, 1), (49, .goto 18, 3), (29, .aload_n 0, 1), (30, .getfield 201, 3), (33, .iload_n 1, 1), (34, .iaload, 1), (35, .goto 32, 3)] = true := by decide +kernel
theorem dX12_fault_0 : decode cX12_fault 0 = .ok (.aload_n 0, 1) := dr9 dk9_dX12_fault_0_0.1 0 (0, .aload_n 0, 1) rfl
theorem dX12_fault_1 : decode cX12_fault 1 = .ok (.iconst 0, 1) := dr9 dk9_dX12_fault_0_0.1 1 (1, .iconst 0, 1) rfl
theorem dX12_fault_2 : decode cX12_fault 2 = .ok (.putfield 1, 3) := dr9 dk9_dX12_fault_0_0.1 2 (2, .putfield 1, 3) rfl
theorem dX12_fault_5 : decode cX12_fault 5 = .ok (.iload_n 1, 1) := dr9 dk9_dX12_fault_0_0.1 3 (5, .iload_n 1, 1) rfl
theorem dX12_fault_6 : decode cX12_fault 6 = .ok (.ifCond .lt 17, 3) := dr9 dk9_dX12_fault_0_0.1 4 (6, .ifCond .lt 17, 3) rfl
theorem dX12_fault_23 : decode cX12_fault 23 = .ok (.iconst (-1), 1) := dr9 dk9_dX12_fault_0_0.1 5 (23, .iconst (-1), 1) rfl
theorem dX12_fault_24 : decode cX12_fault 24 = .ok (.ireturn, 1) := dr9 dk9_dX12_fault_0_0.1 6 (24, .ireturn, 1) rfl
theorem dX12_fault_9 : decode cX12_fault 9 = .ok (.iload_n 1, 1) := dr9 dk9_dX12_fault_0_0.1 7 (9, .iload_n 1, 1) rfl
theorem dX12_fault_10 : decode cX12_fault 10 = .ok (.aload_n 0, 1) := dr9 dk9_dX12_fault_0_0.1 8 (10, .aload_n 0, 1) rfl
theorem dX12_fault_11 : decode cX12_fault 11 = .ok (.getfield 435, 3) := dr9 dk9_dX12_fault_0_0.1 9 (11, .getfield 435, 3) rfl
theorem dX12_fault_14 : decode cX12_fault 14 = .ok (.if_icmp .ge 9, 3) := dr9 dk9_dX12_fault_0_0.1 10 (14, .if_icmp .ge 9, 3) rfl
theorem dX12_fault_17 : decode cX12_fault 17 = .ok (.iload_n 1, 1) := dr9 dk9_dX12_fault_0_0.1 11 (17, .iload_n 1, 1) rfl
theorem dX12_fault_18 : decode cX12_fault 18 = .ok (.bipush 100, 2) := dr9 dk9_dX12_fault_0_0.1 12 (18, .bipush 100, 2) rfl
theorem dX12_fault_20 : decode cX12_fault 20 = .ok (.if_icmp .lt 5, 3) := dr9 dk9_dX12_fault_0_0.1 13 (20, .if_icmp .lt 5, 3) rfl
theorem dX12_fault_25 : decode cX12_fault 25 = .ok (.iload_n 2, 1) := dr9 dk9_dX12_fault_0_0.1 14 (25, .iload_n 2, 1) rfl
theorem dX12_fault_26 : decode cX12_fault 26 = .ok (.ifCond .ne 12, 3) := dr9 dk9_dX12_fault_0_0.1 15 (26, .ifCond .ne 12, 3) rfl
theorem dX12_fault_38 : decode cX12_fault 38 = .ok (.iload_n 2, 1) := dr9 dk9_dX12_fault_0_0.1 16 (38, .iload_n 2, 1) rfl
theorem dX12_fault_39 : decode cX12_fault 39 = .ok (.iconst 1, 1) := dr9 dk9_dX12_fault_0_0.1 17 (39, .iconst 1, 1) rfl
theorem dX12_fault_40 : decode cX12_fault 40 = .ok (.if_icmp .ne 12, 3) := dr9 dk9_dX12_fault_0_0.1 18 (40, .if_icmp .ne 12, 3) rfl
theorem dX12_fault_52 : decode cX12_fault 52 = .ok (.iload_n 2, 1) := dr9 dk9_dX12_fault_0_0.1 19 (52, .iload_n 2, 1) rfl
theorem dX12_fault_53 : decode cX12_fault 53 = .ok (.iconst 2, 1) := dr9 dk9_dX12_fault_0_0.1 20 (53, .iconst 2, 1) rfl
theorem dX12_fault_54 : decode cX12_fault 54 = .ok (.if_icmp .ne 12, 3) := dr9 dk9_dX12_fault_0_0.1 21 (54, .if_icmp .ne 12, 3) rfl
theorem dX12_fault_66 : decode cX12_fault 66 = .ok (.iconst (-1), 1) := dr9 dk9_dX12_fault_0_0.1 22 (66, .iconst (-1), 1) rfl
theorem dX12_fault_67 : decode cX12_fault 67 = .ok (.ireturn, 1) := dr9 dk9_dX12_fault_0_0.1 23 (67, .ireturn, 1) rfl
theorem dX12_fault_57 : decode cX12_fault 57 = .ok (.aload_n 0, 1) := dr9 dk9_dX12_fault_0_0.2 0 (57, .aload_n 0, 1) rfl
theorem dX12_fault_58 : decode cX12_fault 58 = .ok (.getfield 207, 3) := dr9 dk9_dX12_fault_0_0.2 1 (58, .getfield 207, 3) rfl
theorem dX12_fault_61 : decode cX12_fault 61 = .ok (.iload_n 1, 1) := dr9 dk9_dX12_fault_0_0.2 2 (61, .iload_n 1, 1) rfl
theorem dX12_fault_62 : decode cX12_fault 62 = .ok (.iaload, 1) := dr9 dk9_dX12_fault_0_0.2 3 (62, .iaload, 1) rfl
theorem dX12_fault_63 : decode cX12_fault 63 = .ok (.goto 4, 3) := dr9 dk9_dX12_fault_0_0.2 4 (63, .goto 4, 3) rfl
theorem dX12_fault_43 : decode cX12_fault 43 = .ok (.aload_n 0, 1) := dr9 dk9_dX12_fault_0_0.2 5 (43, .aload_n 0, 1) rfl
theorem dX12_fault_44 : decode cX12_fault 44 = .ok (.getfield 204, 3) := dr9 dk9_dX12_fault_0_0.2 6 (44, .getfield 204, 3) rfl
theorem dX12_fault_47 : decode cX12_fault 47 = .ok (.iload_n 1, 1) := dr9 dk9_dX12_fault_0_0.2 7 (47, .iload_n 1, 1) rfl
theorem dX12_fault_48 : decode cX12_fault 48 = .ok (.iaload, 1) := dr9 dk9_dX12_fault_0_0.2 8 (48, .iaload, 1) rfl
theorem dX12_fault_49 : decode cX12_fault 49 = .ok (.goto 18, 3) := dr9 dk9_dX12_fault_0_0.2 9 (49, .goto 18, 3) rfl
theorem dX12_fault_29 : decode cX12_fault 29 = .ok (.aload_n 0, 1) := dr9 dk9_dX12_fault_0_0.2 10 (29, .aload_n 0, 1) rfl
theorem dX12_fault_30 : decode cX12_fault 30 = .ok (.getfield 201, 3) := dr9 dk9_dX12_fault_0_0.2 11 (30, .getfield 201, 3) rfl
theorem dX12_fault_33 : decode cX12_fault 33 = .ok (.iload_n 1, 1) := dr9 dk9_dX12_fault_0_0.2 12 (33, .iload_n 1, 1) rfl
theorem dX12_fault_34 : decode cX12_fault 34 = .ok (.iaload, 1) := dr9 dk9_dX12_fault_0_0.2 13 (34, .iaload, 1) rfl
theorem dX12_fault_35 : decode cX12_fault 35 = .ok (.goto 32, 3) := dr9 dk9_dX12_fault_0_0.2 14 (35, .goto 32, 3) rfl
theorem dk9_dX12_cycle_0_0 : dOk cX12_cycle [(0, .aload_n 0, 1), (1, .iconst 0, 1), (2, .putfield 1, 3), (5, .iload_n 1, 1), (6, .ifCond .lt 41, 3), (47, .iconst (-1), 1), (48, .ireturn, 1), (9, .iload_n 1, 1), (10, .aload_n 0, 1), (11, .getfield 435, 3), (14, .if_icmp .ge 33, 3), (17, .iload_n 1, 1), (18, .bipush 100, 2), (20, .if_icmp .ge 27, 3), (23, .aload_n 0, 1), (24, .getfield 201, 3), (27, .iload_n 1, 1), (28, .iaload, 1), (29, .iconst 3, 1), (30, .if_icmp .ne 17, 3), (33, .iload_n 2, 1), (34, .ifCond .lt 13, 3), (37, .iload_n 2, 1), (38, .aload_n 0, 1)] = true ∧ dOk cX12_cycle [(39, .getfield 207, 3), (42, .iload_n 1, 1), (43, .iaload, 1), (44, .if_icmp .lt 5, 3), (49, .aload_n 0, 1), (50, .getfield 210, 3), (53, .bipush 24, 2), (55, .iload_n 1, 1), (56, .imul, 1), (57, .iload_n 2, 1), (58, .iadd, 1), (59, .iaload, 1), (60, .ireturn, 1)] = true := by decide +kernel
theorem dX12_cycle_0 : decode cX12_cycle 0 = .ok (.aload_n 0, 1) := dr9 dk9_dX12_cycle_0_0.1 0 (0, .aload_n 0, 1) rfl
theorem dX12_cycle_1 : decode cX12_cycle 1 = .ok (.iconst 0, 1) := dr9 dk9_dX12_cycle_0_0.1 1 (1, .iconst 0, 1) rfl
theorem dX12_cycle_2 : decode cX12_cycle 2 = .ok (.putfield 1, 3) := dr9 dk9_dX12_cycle_0_0.1 2 (2, .putfield 1, 3) rfl
theorem dX12_cycle_5 : decode cX12_cycle 5 = .ok (.iload_n 1, 1) := dr9 dk9_dX12_cycle_0_0.1 3 (5, .iload_n 1, 1) rfl
theorem dX12_cycle_6 : decode cX12_cycle 6 = .ok (.ifCond .lt 41, 3) := dr9 dk9_dX12_cycle_0_0.1 4 (6, .ifCond .lt 41, 3) rfl
theorem dX12_cycle_47 : decode cX12_cycle 47 = .ok (.iconst (-1), 1) := dr9 dk9_dX12_cycle_0_0.1 5 (47, .iconst (-1), 1) rfl
theorem dX12_cycle_48 : decode cX12_cycle 48 = .ok (.ireturn, 1) := dr9 dk9_dX12_cycle_0_0.1 6 (48, .ireturn, 1) rfl
theorem dX12_cycle_9 : decode cX12_cycle 9 = .ok (.iload_n 1, 1) := dr9 dk9_dX12_cycle_0_0.1 7 (9, .iload_n 1, 1) rfl
theorem dX12_cycle_10 : decode cX12_cycle 10 = .ok (.aload_n 0, 1) := dr9 dk9_dX12_cycle_0_0.1 8 (10, .aload_n 0, 1) rfl
theorem dX12_cycle_11 : decode cX12_cycle 11 = .ok (.getfield 435, 3) := dr9 dk9_dX12_cycle_0_0.1 9 (11, .getfield 435, 3) rfl
theorem dX12_cycle_14 : decode cX12_cycle 14 = .ok (.if_icmp .ge 33, 3) := dr9 dk9_dX12_cycle_0_0.1 10 (14, .if_icmp .ge 33, 3) rfl
theorem dX12_cycle_17 : decode cX12_cycle 17 = .ok (.iload_n 1, 1) := dr9 dk9_dX12_cycle_0_0.1 11 (17, .iload_n 1, 1) rfl
theorem dX12_cycle_18 : decode cX12_cycle 18 = .ok (.bipush 100, 2) := dr9 dk9_dX12_cycle_0_0.1 12 (18, .bipush 100, 2) rfl
theorem dX12_cycle_20 : decode cX12_cycle 20 = .ok (.if_icmp .ge 27, 3) := dr9 dk9_dX12_cycle_0_0.1 13 (20, .if_icmp .ge 27, 3) rfl
theorem dX12_cycle_23 : decode cX12_cycle 23 = .ok (.aload_n 0, 1) := dr9 dk9_dX12_cycle_0_0.1 14 (23, .aload_n 0, 1) rfl
theorem dX12_cycle_24 : decode cX12_cycle 24 = .ok (.getfield 201, 3) := dr9 dk9_dX12_cycle_0_0.1 15 (24, .getfield 201, 3) rfl
theorem dX12_cycle_27 : decode cX12_cycle 27 = .ok (.iload_n 1, 1) := dr9 dk9_dX12_cycle_0_0.1 16 (27, .iload_n 1, 1) rfl
theorem dX12_cycle_28 : decode cX12_cycle 28 = .ok (.iaload, 1) := dr9 dk9_dX12_cycle_0_0.1 17 (28, .iaload, 1) rfl
theorem dX12_cycle_29 : decode cX12_cycle 29 = .ok (.iconst 3, 1) := dr9 dk9_dX12_cycle_0_0.1 18 (29, .iconst 3, 1) rfl
theorem dX12_cycle_30 : decode cX12_cycle 30 = .ok (.if_icmp .ne 17, 3) := dr9 dk9_dX12_cycle_0_0.1 19 (30, .if_icmp .ne 17, 3) rfl
theorem dX12_cycle_33 : decode cX12_cycle 33 = .ok (.iload_n 2, 1) := dr9 dk9_dX12_cycle_0_0.1 20 (33, .iload_n 2, 1) rfl
theorem dX12_cycle_34 : decode cX12_cycle 34 = .ok (.ifCond .lt 13, 3) := dr9 dk9_dX12_cycle_0_0.1 21 (34, .ifCond .lt 13, 3) rfl
theorem dX12_cycle_37 : decode cX12_cycle 37 = .ok (.iload_n 2, 1) := dr9 dk9_dX12_cycle_0_0.1 22 (37, .iload_n 2, 1) rfl
theorem dX12_cycle_38 : decode cX12_cycle 38 = .ok (.aload_n 0, 1) := dr9 dk9_dX12_cycle_0_0.1 23 (38, .aload_n 0, 1) rfl
theorem dX12_cycle_39 : decode cX12_cycle 39 = .ok (.getfield 207, 3) := dr9 dk9_dX12_cycle_0_0.2 0 (39, .getfield 207, 3) rfl
theorem dX12_cycle_42 : decode cX12_cycle 42 = .ok (.iload_n 1, 1) := dr9 dk9_dX12_cycle_0_0.2 1 (42, .iload_n 1, 1) rfl
theorem dX12_cycle_43 : decode cX12_cycle 43 = .ok (.iaload, 1) := dr9 dk9_dX12_cycle_0_0.2 2 (43, .iaload, 1) rfl
theorem dX12_cycle_44 : decode cX12_cycle 44 = .ok (.if_icmp .lt 5, 3) := dr9 dk9_dX12_cycle_0_0.2 3 (44, .if_icmp .lt 5, 3) rfl
theorem dX12_cycle_49 : decode cX12_cycle 49 = .ok (.aload_n 0, 1) := dr9 dk9_dX12_cycle_0_0.2 4 (49, .aload_n 0, 1) rfl
theorem dX12_cycle_50 : decode cX12_cycle 50 = .ok (.getfield 210, 3) := dr9 dk9_dX12_cycle_0_0.2 5 (50, .getfield 210, 3) rfl
theorem dX12_cycle_53 : decode cX12_cycle 53 = .ok (.bipush 24, 2) := dr9 dk9_dX12_cycle_0_0.2 6 (53, .bipush 24, 2) rfl
theorem dX12_cycle_55 : decode cX12_cycle 55 = .ok (.iload_n 1, 1) := dr9 dk9_dX12_cycle_0_0.2 7 (55, .iload_n 1, 1) rfl
theorem dX12_cycle_56 : decode cX12_cycle 56 = .ok (.imul, 1) := dr9 dk9_dX12_cycle_0_0.2 8 (56, .imul, 1) rfl
theorem dX12_cycle_57 : decode cX12_cycle 57 = .ok (.iload_n 2, 1) := dr9 dk9_dX12_cycle_0_0.2 9 (57, .iload_n 2, 1) rfl
theorem dX12_cycle_58 : decode cX12_cycle 58 = .ok (.iadd, 1) := dr9 dk9_dX12_cycle_0_0.2 10 (58, .iadd, 1) rfl
theorem dX12_cycle_59 : decode cX12_cycle 59 = .ok (.iaload, 1) := dr9 dk9_dX12_cycle_0_0.2 11 (59, .iaload, 1) rfl
theorem dX12_cycle_60 : decode cX12_cycle 60 = .ok (.ireturn, 1) := dr9 dk9_dX12_cycle_0_0.2 12 (60, .ireturn, 1) rfl
theorem dk9_dX12_closed_0_0 : dOk cX12_closed [(0, .aload_n 0, 1), (1, .iconst 0, 1), (2, .putfield 1, 3), (5, .iload_n 1, 1), (6, .ifCond .lt 18, 3), (24, .iconst (-1), 1), (25, .ireturn, 1), (9, .iload_n 1, 1), (10, .aload_n 0, 1), (11, .getfield 417, 3), (14, .if_icmp .ge 10, 3), (17, .iload_n 1, 1), (18, .sipush 300, 3), (21, .if_icmp .lt 5, 3), (26, .iload_n 2, 1), (27, .ifCond .ne 12, 3), (39, .iload_n 2, 1), (40, .iconst 1, 1), (41, .if_icmp .ne 12, 3), (53, .iconst (-1), 1), (54, .ireturn, 1), (44, .aload_n 0, 1), (45, .getfield 186, 3), (48, .iload_n 1, 1)] = true ∧ dOk cX12_closed [(49, .iaload, 1), (50, .goto 4, 3), (30, .aload_n 0, 1), (31, .getfield 183, 3), (34, .iload_n 1, 1), (35, .iaload, 1), (36, .goto 18, 3)] = true := by decide +kernel
theorem dX12_closed_0 : decode cX12_closed 0 = .ok (.aload_n 0, 1) := dr9 dk9_dX12_closed_0_0.1 0 (0, .aload_n 0, 1) rfl
theorem dX12_closed_1 : decode cX12_closed 1 = .ok (.iconst 0, 1) := dr9 dk9_dX12_closed_0_0.1 1 (1, .iconst 0, 1) rfl
theorem dX12_closed_2 : decode cX12_closed 2 = .ok (.putfield 1, 3) := dr9 dk9_dX12_closed_0_0.1 2 (2, .putfield 1, 3) rfl
theorem dX12_closed_5 : decode cX12_closed 5 = .ok (.iload_n 1, 1) := dr9 dk9_dX12_closed_0_0.1 3 (5, .iload_n 1, 1) rfl
theorem dX12_closed_6 : decode cX12_closed 6 = .ok (.ifCond .lt 18, 3) := dr9 dk9_dX12_closed_0_0.1 4 (6, .ifCond .lt 18, 3) rfl
theorem dX12_closed_24 : decode cX12_closed 24 = .ok (.iconst (-1), 1) := dr9 dk9_dX12_closed_0_0.1 5 (24, .iconst (-1), 1) rfl
theorem dX12_closed_25 : decode cX12_closed 25 = .ok (.ireturn, 1) := dr9 dk9_dX12_closed_0_0.1 6 (25, .ireturn, 1) rfl
theorem dX12_closed_9 : decode cX12_closed 9 = .ok (.iload_n 1, 1) := dr9 dk9_dX12_closed_0_0.1 7 (9, .iload_n 1, 1) rfl
theorem dX12_closed_10 : decode cX12_closed 10 = .ok (.aload_n 0, 1) := dr9 dk9_dX12_closed_0_0.1 8 (10, .aload_n 0, 1) rfl
theorem dX12_closed_11 : decode cX12_closed 11 = .ok (.getfield 417, 3) := dr9 dk9_dX12_closed_0_0.1 9 (11, .getfield 417, 3) rfl
theorem dX12_closed_14 : decode cX12_closed 14 = .ok (.if_icmp .ge 10, 3) := dr9 dk9_dX12_closed_0_0.1 10 (14, .if_icmp .ge 10, 3) rfl
theorem dX12_closed_17 : decode cX12_closed 17 = .ok (.iload_n 1, 1) := dr9 dk9_dX12_closed_0_0.1 11 (17, .iload_n 1, 1) rfl
theorem dX12_closed_18 : decode cX12_closed 18 = .ok (.sipush 300, 3) := dr9 dk9_dX12_closed_0_0.1 12 (18, .sipush 300, 3) rfl
theorem dX12_closed_21 : decode cX12_closed 21 = .ok (.if_icmp .lt 5, 3) := dr9 dk9_dX12_closed_0_0.1 13 (21, .if_icmp .lt 5, 3) rfl
theorem dX12_closed_26 : decode cX12_closed 26 = .ok (.iload_n 2, 1) := dr9 dk9_dX12_closed_0_0.1 14 (26, .iload_n 2, 1) rfl
theorem dX12_closed_27 : decode cX12_closed 27 = .ok (.ifCond .ne 12, 3) := dr9 dk9_dX12_closed_0_0.1 15 (27, .ifCond .ne 12, 3) rfl
theorem dX12_closed_39 : decode cX12_closed 39 = .ok (.iload_n 2, 1) := dr9 dk9_dX12_closed_0_0.1 16 (39, .iload_n 2, 1) rfl
theorem dX12_closed_40 : decode cX12_closed 40 = .ok (.iconst 1, 1) := dr9 dk9_dX12_closed_0_0.1 17 (40, .iconst 1, 1) rfl
theorem dX12_closed_41 : decode cX12_closed 41 = .ok (.if_icmp .ne 12, 3) := dr9 dk9_dX12_closed_0_0.1 18 (41, .if_icmp .ne 12, 3) rfl
theorem dX12_closed_53 : decode cX12_closed 53 = .ok (.iconst (-1), 1) := dr9 dk9_dX12_closed_0_0.1 19 (53, .iconst (-1), 1) rfl
theorem dX12_closed_54 : decode cX12_closed 54 = .ok (.ireturn, 1) := dr9 dk9_dX12_closed_0_0.1 20 (54, .ireturn, 1) rfl
theorem dX12_closed_44 : decode cX12_closed 44 = .ok (.aload_n 0, 1) := dr9 dk9_dX12_closed_0_0.1 21 (44, .aload_n 0, 1) rfl
theorem dX12_closed_45 : decode cX12_closed 45 = .ok (.getfield 186, 3) := dr9 dk9_dX12_closed_0_0.1 22 (45, .getfield 186, 3) rfl
theorem dX12_closed_48 : decode cX12_closed 48 = .ok (.iload_n 1, 1) := dr9 dk9_dX12_closed_0_0.1 23 (48, .iload_n 1, 1) rfl
theorem dX12_closed_49 : decode cX12_closed 49 = .ok (.iaload, 1) := dr9 dk9_dX12_closed_0_0.2 0 (49, .iaload, 1) rfl
theorem dX12_closed_50 : decode cX12_closed 50 = .ok (.goto 4, 3) := dr9 dk9_dX12_closed_0_0.2 1 (50, .goto 4, 3) rfl
theorem dX12_closed_30 : decode cX12_closed 30 = .ok (.aload_n 0, 1) := dr9 dk9_dX12_closed_0_0.2 2 (30, .aload_n 0, 1) rfl
theorem dX12_closed_31 : decode cX12_closed 31 = .ok (.getfield 183, 3) := dr9 dk9_dX12_closed_0_0.2 3 (31, .getfield 183, 3) rfl
theorem dX12_closed_34 : decode cX12_closed 34 = .ok (.iload_n 1, 1) := dr9 dk9_dX12_closed_0_0.2 4 (34, .iload_n 1, 1) rfl
theorem dX12_closed_35 : decode cX12_closed 35 = .ok (.iaload, 1) := dr9 dk9_dX12_closed_0_0.2 5 (35, .iaload, 1) rfl
theorem dX12_closed_36 : decode cX12_closed 36 = .ok (.goto 18, 3) := dr9 dk9_dX12_closed_0_0.2 6 (36, .goto 18, 3) rfl
theorem dk9_dX12_did_0_0 : dOk cX12_did [(0, .aload_n 0, 1), (1, .iconst 0, 1), (2, .putfield 1, 3), (5, .iload_n 1, 1), (6, .ifCond .lt 17, 3), (23, .iconst (-1), 1), (24, .ireturn, 1), (9, .iload_n 1, 1), (10, .aload_n 0, 1), (11, .getfield 420, 3), (14, .if_icmp .ge 9, 3), (17, .iload_n 1, 1), (18, .bipush 100, 2), (20, .if_icmp .lt 5, 3), (25, .iload_n 2, 1), (26, .ifCond .ne 12, 3), (38, .iload_n 2, 1), (39, .iconst 1, 1), (40, .if_icmp .ne 12, 3), (52, .iload_n 2, 1), (53, .iconst 2, 1), (54, .if_icmp .ne 12, 3), (66, .iconst (-1), 1), (67, .ireturn, 1)] = true ∧ dOk cX12_did [(57, .aload_n 0, 1), (58, .getfield 195, 3), (61, .iload_n 1, 1), (62, .iaload, 1), (63, .goto 4, 3), (43, .aload_n 0, 1), (44, .getfield 192, 3), (47, .iload_n 1, 1), (48, .iaload, 1), (49, .goto 18, 3), (29, .aload_n 0, 1), (30, .getfield 189, 3), (33, .iload_n 1, 1), (34, .iaload, 1), (35, .goto 32, 3)] = true := by decide +kernel
theorem dX12_did_0 : decode cX12_did 0 = .ok (.aload_n 0, 1) := dr9 dk9_dX12_did_0_0.1 0 (0, .aload_n 0, 1) rfl
theorem dX12_did_1 : decode cX12_did 1 = .ok (.iconst 0, 1) := dr9 dk9_dX12_did_0_0.1 1 (1, .iconst 0, 1) rfl
theorem dX12_did_2 : decode cX12_did 2 = .ok (.putfield 1, 3) := dr9 dk9_dX12_did_0_0.1 2 (2, .putfield 1, 3) rfl
theorem dX12_did_5 : decode cX12_did 5 = .ok (.iload_n 1, 1) := dr9 dk9_dX12_did_0_0.1 3 (5, .iload_n 1, 1) rfl
theorem dX12_did_6 : decode cX12_did 6 = .ok (.ifCond .lt 17, 3) := dr9 dk9_dX12_did_0_0.1 4 (6, .ifCond .lt 17, 3) rfl
theorem dX12_did_23 : decode cX12_did 23 = .ok (.iconst (-1), 1) := dr9 dk9_dX12_did_0_0.1 5 (23, .iconst (-1), 1) rfl
theorem dX12_did_24 : decode cX12_did 24 = .ok (.ireturn, 1) := dr9 dk9_dX12_did_0_0.1 6 (24, .ireturn, 1) rfl
theorem dX12_did_9 : decode cX12_did 9 = .ok (.iload_n 1, 1) := dr9 dk9_dX12_did_0_0.1 7 (9, .iload_n 1, 1) rfl
theorem dX12_did_10 : decode cX12_did 10 = .ok (.aload_n 0, 1) := dr9 dk9_dX12_did_0_0.1 8 (10, .aload_n 0, 1) rfl
theorem dX12_did_11 : decode cX12_did 11 = .ok (.getfield 420, 3) := dr9 dk9_dX12_did_0_0.1 9 (11, .getfield 420, 3) rfl
theorem dX12_did_14 : decode cX12_did 14 = .ok (.if_icmp .ge 9, 3) := dr9 dk9_dX12_did_0_0.1 10 (14, .if_icmp .ge 9, 3) rfl
theorem dX12_did_17 : decode cX12_did 17 = .ok (.iload_n 1, 1) := dr9 dk9_dX12_did_0_0.1 11 (17, .iload_n 1, 1) rfl
theorem dX12_did_18 : decode cX12_did 18 = .ok (.bipush 100, 2) := dr9 dk9_dX12_did_0_0.1 12 (18, .bipush 100, 2) rfl
theorem dX12_did_20 : decode cX12_did 20 = .ok (.if_icmp .lt 5, 3) := dr9 dk9_dX12_did_0_0.1 13 (20, .if_icmp .lt 5, 3) rfl
theorem dX12_did_25 : decode cX12_did 25 = .ok (.iload_n 2, 1) := dr9 dk9_dX12_did_0_0.1 14 (25, .iload_n 2, 1) rfl
theorem dX12_did_26 : decode cX12_did 26 = .ok (.ifCond .ne 12, 3) := dr9 dk9_dX12_did_0_0.1 15 (26, .ifCond .ne 12, 3) rfl
theorem dX12_did_38 : decode cX12_did 38 = .ok (.iload_n 2, 1) := dr9 dk9_dX12_did_0_0.1 16 (38, .iload_n 2, 1) rfl
theorem dX12_did_39 : decode cX12_did 39 = .ok (.iconst 1, 1) := dr9 dk9_dX12_did_0_0.1 17 (39, .iconst 1, 1) rfl
theorem dX12_did_40 : decode cX12_did 40 = .ok (.if_icmp .ne 12, 3) := dr9 dk9_dX12_did_0_0.1 18 (40, .if_icmp .ne 12, 3) rfl
theorem dX12_did_52 : decode cX12_did 52 = .ok (.iload_n 2, 1) := dr9 dk9_dX12_did_0_0.1 19 (52, .iload_n 2, 1) rfl
theorem dX12_did_53 : decode cX12_did 53 = .ok (.iconst 2, 1) := dr9 dk9_dX12_did_0_0.1 20 (53, .iconst 2, 1) rfl
theorem dX12_did_54 : decode cX12_did 54 = .ok (.if_icmp .ne 12, 3) := dr9 dk9_dX12_did_0_0.1 21 (54, .if_icmp .ne 12, 3) rfl
theorem dX12_did_66 : decode cX12_did 66 = .ok (.iconst (-1), 1) := dr9 dk9_dX12_did_0_0.1 22 (66, .iconst (-1), 1) rfl
theorem dX12_did_67 : decode cX12_did 67 = .ok (.ireturn, 1) := dr9 dk9_dX12_did_0_0.1 23 (67, .ireturn, 1) rfl
theorem dX12_did_57 : decode cX12_did 57 = .ok (.aload_n 0, 1) := dr9 dk9_dX12_did_0_0.2 0 (57, .aload_n 0, 1) rfl
theorem dX12_did_58 : decode cX12_did 58 = .ok (.getfield 195, 3) := dr9 dk9_dX12_did_0_0.2 1 (58, .getfield 195, 3) rfl
theorem dX12_did_61 : decode cX12_did 61 = .ok (.iload_n 1, 1) := dr9 dk9_dX12_did_0_0.2 2 (61, .iload_n 1, 1) rfl
theorem dX12_did_62 : decode cX12_did 62 = .ok (.iaload, 1) := dr9 dk9_dX12_did_0_0.2 3 (62, .iaload, 1) rfl
theorem dX12_did_63 : decode cX12_did 63 = .ok (.goto 4, 3) := dr9 dk9_dX12_did_0_0.2 4 (63, .goto 4, 3) rfl
theorem dX12_did_43 : decode cX12_did 43 = .ok (.aload_n 0, 1) := dr9 dk9_dX12_did_0_0.2 5 (43, .aload_n 0, 1) rfl
theorem dX12_did_44 : decode cX12_did 44 = .ok (.getfield 192, 3) := dr9 dk9_dX12_did_0_0.2 6 (44, .getfield 192, 3) rfl
theorem dX12_did_47 : decode cX12_did 47 = .ok (.iload_n 1, 1) := dr9 dk9_dX12_did_0_0.2 7 (47, .iload_n 1, 1) rfl
theorem dX12_did_48 : decode cX12_did 48 = .ok (.iaload, 1) := dr9 dk9_dX12_did_0_0.2 8 (48, .iaload, 1) rfl
theorem dX12_did_49 : decode cX12_did 49 = .ok (.goto 18, 3) := dr9 dk9_dX12_did_0_0.2 9 (49, .goto 18, 3) rfl
theorem dX12_did_29 : decode cX12_did 29 = .ok (.aload_n 0, 1) := dr9 dk9_dX12_did_0_0.2 10 (29, .aload_n 0, 1) rfl
theorem dX12_did_30 : decode cX12_did 30 = .ok (.getfield 189, 3) := dr9 dk9_dX12_did_0_0.2 11 (30, .getfield 189, 3) rfl
theorem dX12_did_33 : decode cX12_did 33 = .ok (.iload_n 1, 1) := dr9 dk9_dX12_did_0_0.2 12 (33, .iload_n 1, 1) rfl
theorem dX12_did_34 : decode cX12_did 34 = .ok (.iaload, 1) := dr9 dk9_dX12_did_0_0.2 13 (34, .iaload, 1) rfl
theorem dX12_did_35 : decode cX12_did 35 = .ok (.goto 32, 3) := dr9 dk9_dX12_did_0_0.2 14 (35, .goto 32, 3) rfl
theorem dk9_dX12_object_0_0 : dOk cX12_object [(0, .aload_n 0, 1), (1, .iload_n 1, 1), (2, .ifCond .lt 24, 3), (26, .iconst 1, 1), (27, .putfield 1, 3), (30, .aload_n 0, 1), (31, .getfield 1, 3), (34, .ifCond .le 7, 3), (37, .iconst 0, 1), (38, .goto 36, 3), (74, .ireturn, 1), (5, .iload_n 1, 1), (6, .aload_n 0, 1), (7, .getfield 411, 3), (10, .if_icmp .ge 16, 3), (13, .iload_n 2, 1), (14, .ifCond .lt 12, 3), (17, .iload_n 2, 1), (18, .iconst 2, 1), (19, .if_icmp .gt 7, 3), (22, .iconst 0, 1), (23, .goto 4, 3), (41, .iload_n 2, 1), (42, .ifCond .ne 12, 3)] = true ∧ dOk cX12_object [(54, .iload_n 2, 1), (55, .iconst 1, 1), (56, .if_icmp .ne 12, 3), (68, .aload_n 0, 1), (69, .getfield 170, 3), (72, .iload_n 1, 1), (73, .iaload, 1), (59, .aload_n 0, 1), (60, .getfield 167, 3), (63, .iload_n 1, 1), (64, .iaload, 1), (65, .goto 9, 3), (45, .aload_n 0, 1), (46, .getfield 164, 3), (49, .iload_n 1, 1), (50, .iaload, 1), (51, .goto 23, 3)] = true := by decide +kernel
theorem dX12_object_0 : decode cX12_object 0 = .ok (.aload_n 0, 1) := dr9 dk9_dX12_object_0_0.1 0 (0, .aload_n 0, 1) rfl
theorem dX12_object_1 : decode cX12_object 1 = .ok (.iload_n 1, 1) := dr9 dk9_dX12_object_0_0.1 1 (1, .iload_n 1, 1) rfl
theorem dX12_object_2 : decode cX12_object 2 = .ok (.ifCond .lt 24, 3) := dr9 dk9_dX12_object_0_0.1 2 (2, .ifCond .lt 24, 3) rfl
theorem dX12_object_26 : decode cX12_object 26 = .ok (.iconst 1, 1) := dr9 dk9_dX12_object_0_0.1 3 (26, .iconst 1, 1) rfl
theorem dX12_object_27 : decode cX12_object 27 = .ok (.putfield 1, 3) := dr9 dk9_dX12_object_0_0.1 4 (27, .putfield 1, 3) rfl
theorem dX12_object_30 : decode cX12_object 30 = .ok (.aload_n 0, 1) := dr9 dk9_dX12_object_0_0.1 5 (30, .aload_n 0, 1) rfl
theorem dX12_object_31 : decode cX12_object 31 = .ok (.getfield 1, 3) := dr9 dk9_dX12_object_0_0.1 6 (31, .getfield 1, 3) rfl
theorem dX12_object_34 : decode cX12_object 34 = .ok (.ifCond .le 7, 3) := dr9 dk9_dX12_object_0_0.1 7 (34, .ifCond .le 7, 3) rfl
theorem dX12_object_37 : decode cX12_object 37 = .ok (.iconst 0, 1) := dr9 dk9_dX12_object_0_0.1 8 (37, .iconst 0, 1) rfl
theorem dX12_object_38 : decode cX12_object 38 = .ok (.goto 36, 3) := dr9 dk9_dX12_object_0_0.1 9 (38, .goto 36, 3) rfl
theorem dX12_object_74 : decode cX12_object 74 = .ok (.ireturn, 1) := dr9 dk9_dX12_object_0_0.1 10 (74, .ireturn, 1) rfl
theorem dX12_object_5 : decode cX12_object 5 = .ok (.iload_n 1, 1) := dr9 dk9_dX12_object_0_0.1 11 (5, .iload_n 1, 1) rfl
theorem dX12_object_6 : decode cX12_object 6 = .ok (.aload_n 0, 1) := dr9 dk9_dX12_object_0_0.1 12 (6, .aload_n 0, 1) rfl
theorem dX12_object_7 : decode cX12_object 7 = .ok (.getfield 411, 3) := dr9 dk9_dX12_object_0_0.1 13 (7, .getfield 411, 3) rfl
theorem dX12_object_10 : decode cX12_object 10 = .ok (.if_icmp .ge 16, 3) := dr9 dk9_dX12_object_0_0.1 14 (10, .if_icmp .ge 16, 3) rfl
theorem dX12_object_13 : decode cX12_object 13 = .ok (.iload_n 2, 1) := dr9 dk9_dX12_object_0_0.1 15 (13, .iload_n 2, 1) rfl
theorem dX12_object_14 : decode cX12_object 14 = .ok (.ifCond .lt 12, 3) := dr9 dk9_dX12_object_0_0.1 16 (14, .ifCond .lt 12, 3) rfl
theorem dX12_object_17 : decode cX12_object 17 = .ok (.iload_n 2, 1) := dr9 dk9_dX12_object_0_0.1 17 (17, .iload_n 2, 1) rfl
theorem dX12_object_18 : decode cX12_object 18 = .ok (.iconst 2, 1) := dr9 dk9_dX12_object_0_0.1 18 (18, .iconst 2, 1) rfl
theorem dX12_object_19 : decode cX12_object 19 = .ok (.if_icmp .gt 7, 3) := dr9 dk9_dX12_object_0_0.1 19 (19, .if_icmp .gt 7, 3) rfl
theorem dX12_object_22 : decode cX12_object 22 = .ok (.iconst 0, 1) := dr9 dk9_dX12_object_0_0.1 20 (22, .iconst 0, 1) rfl
theorem dX12_object_23 : decode cX12_object 23 = .ok (.goto 4, 3) := dr9 dk9_dX12_object_0_0.1 21 (23, .goto 4, 3) rfl
theorem dX12_object_41 : decode cX12_object 41 = .ok (.iload_n 2, 1) := dr9 dk9_dX12_object_0_0.1 22 (41, .iload_n 2, 1) rfl
theorem dX12_object_42 : decode cX12_object 42 = .ok (.ifCond .ne 12, 3) := dr9 dk9_dX12_object_0_0.1 23 (42, .ifCond .ne 12, 3) rfl
theorem dX12_object_54 : decode cX12_object 54 = .ok (.iload_n 2, 1) := dr9 dk9_dX12_object_0_0.2 0 (54, .iload_n 2, 1) rfl
theorem dX12_object_55 : decode cX12_object 55 = .ok (.iconst 1, 1) := dr9 dk9_dX12_object_0_0.2 1 (55, .iconst 1, 1) rfl
theorem dX12_object_56 : decode cX12_object 56 = .ok (.if_icmp .ne 12, 3) := dr9 dk9_dX12_object_0_0.2 2 (56, .if_icmp .ne 12, 3) rfl
theorem dX12_object_68 : decode cX12_object 68 = .ok (.aload_n 0, 1) := dr9 dk9_dX12_object_0_0.2 3 (68, .aload_n 0, 1) rfl
theorem dX12_object_69 : decode cX12_object 69 = .ok (.getfield 170, 3) := dr9 dk9_dX12_object_0_0.2 4 (69, .getfield 170, 3) rfl
theorem dX12_object_72 : decode cX12_object 72 = .ok (.iload_n 1, 1) := dr9 dk9_dX12_object_0_0.2 5 (72, .iload_n 1, 1) rfl
theorem dX12_object_73 : decode cX12_object 73 = .ok (.iaload, 1) := dr9 dk9_dX12_object_0_0.2 6 (73, .iaload, 1) rfl
theorem dX12_object_59 : decode cX12_object 59 = .ok (.aload_n 0, 1) := dr9 dk9_dX12_object_0_0.2 7 (59, .aload_n 0, 1) rfl
theorem dX12_object_60 : decode cX12_object 60 = .ok (.getfield 167, 3) := dr9 dk9_dX12_object_0_0.2 8 (60, .getfield 167, 3) rfl
theorem dX12_object_63 : decode cX12_object 63 = .ok (.iload_n 1, 1) := dr9 dk9_dX12_object_0_0.2 9 (63, .iload_n 1, 1) rfl
theorem dX12_object_64 : decode cX12_object 64 = .ok (.iaload, 1) := dr9 dk9_dX12_object_0_0.2 10 (64, .iaload, 1) rfl
theorem dX12_object_65 : decode cX12_object 65 = .ok (.goto 9, 3) := dr9 dk9_dX12_object_0_0.2 11 (65, .goto 9, 3) rfl
theorem dX12_object_45 : decode cX12_object 45 = .ok (.aload_n 0, 1) := dr9 dk9_dX12_object_0_0.2 12 (45, .aload_n 0, 1) rfl
theorem dX12_object_46 : decode cX12_object 46 = .ok (.getfield 164, 3) := dr9 dk9_dX12_object_0_0.2 13 (46, .getfield 164, 3) rfl
theorem dX12_object_49 : decode cX12_object 49 = .ok (.iload_n 1, 1) := dr9 dk9_dX12_object_0_0.2 14 (49, .iload_n 1, 1) rfl
theorem dX12_object_50 : decode cX12_object 50 = .ok (.iaload, 1) := dr9 dk9_dX12_object_0_0.2 15 (50, .iaload, 1) rfl
theorem dX12_object_51 : decode cX12_object 51 = .ok (.goto 23, 3) := dr9 dk9_dX12_object_0_0.2 16 (51, .goto 23, 3) rfl
theorem dk9_dX12_spoiled_0_0 : dOk cX12_spoiled [(0, .aload_n 0, 1), (1, .iconst 0, 1), (2, .putfield 1, 3), (5, .aload_n 0, 1), (6, .iload_n 1, 1), (7, .invokevirtual 574, 3), (10, .ifCond .eq 20, 3), (30, .iconst (-1), 1), (31, .ireturn, 1), (13, .iload_n 2, 1), (14, .ifCond .lt 16, 3), (17, .iload_n 2, 1), (18, .aload_n 0, 1), (19, .getfield 62, 3), (22, .aload_n 0, 1), (23, .getfield 286, 3), (26, .iaload, 1), (27, .if_icmp .lt 5, 3), (32, .aload_n 0, 1), (33, .iload_n 2, 1), (34, .iload_n 1, 1), (35, .invokevirtual 481, 3), (38, .istore_n 3, 1), (39, .iload_n 3, 1)] = true ∧ dOk cX12_spoiled [(40, .ifCond .lt 21, 3), (61, .iconst 0, 1), (62, .ireturn, 1), (43, .aload_n 0, 1), (44, .getfield 161, 3), (47, .bipush 24, 2), (49, .iload_n 3, 1), (50, .imul, 1), (51, .iload_n 2, 1), (52, .iadd, 1), (53, .baload, 1), (54, .ifCond .eq 7, 3), (57, .iconst 1, 1), (58, .goto 4, 3)] = true := by decide +kernel
theorem dX12_spoiled_0 : decode cX12_spoiled 0 = .ok (.aload_n 0, 1) := dr9 dk9_dX12_spoiled_0_0.1 0 (0, .aload_n 0, 1) rfl
theorem dX12_spoiled_1 : decode cX12_spoiled 1 = .ok (.iconst 0, 1) := dr9 dk9_dX12_spoiled_0_0.1 1 (1, .iconst 0, 1) rfl
theorem dX12_spoiled_2 : decode cX12_spoiled 2 = .ok (.putfield 1, 3) := dr9 dk9_dX12_spoiled_0_0.1 2 (2, .putfield 1, 3) rfl
theorem dX12_spoiled_5 : decode cX12_spoiled 5 = .ok (.aload_n 0, 1) := dr9 dk9_dX12_spoiled_0_0.1 3 (5, .aload_n 0, 1) rfl
theorem dX12_spoiled_6 : decode cX12_spoiled 6 = .ok (.iload_n 1, 1) := dr9 dk9_dX12_spoiled_0_0.1 4 (6, .iload_n 1, 1) rfl
theorem dX12_spoiled_7 : decode cX12_spoiled 7 = .ok (.invokevirtual 574, 3) := dr9 dk9_dX12_spoiled_0_0.1 5 (7, .invokevirtual 574, 3) rfl
theorem dX12_spoiled_10 : decode cX12_spoiled 10 = .ok (.ifCond .eq 20, 3) := dr9 dk9_dX12_spoiled_0_0.1 6 (10, .ifCond .eq 20, 3) rfl
theorem dX12_spoiled_30 : decode cX12_spoiled 30 = .ok (.iconst (-1), 1) := dr9 dk9_dX12_spoiled_0_0.1 7 (30, .iconst (-1), 1) rfl
theorem dX12_spoiled_31 : decode cX12_spoiled 31 = .ok (.ireturn, 1) := dr9 dk9_dX12_spoiled_0_0.1 8 (31, .ireturn, 1) rfl
theorem dX12_spoiled_13 : decode cX12_spoiled 13 = .ok (.iload_n 2, 1) := dr9 dk9_dX12_spoiled_0_0.1 9 (13, .iload_n 2, 1) rfl
theorem dX12_spoiled_14 : decode cX12_spoiled 14 = .ok (.ifCond .lt 16, 3) := dr9 dk9_dX12_spoiled_0_0.1 10 (14, .ifCond .lt 16, 3) rfl
theorem dX12_spoiled_17 : decode cX12_spoiled 17 = .ok (.iload_n 2, 1) := dr9 dk9_dX12_spoiled_0_0.1 11 (17, .iload_n 2, 1) rfl
theorem dX12_spoiled_18 : decode cX12_spoiled 18 = .ok (.aload_n 0, 1) := dr9 dk9_dX12_spoiled_0_0.1 12 (18, .aload_n 0, 1) rfl
theorem dX12_spoiled_19 : decode cX12_spoiled 19 = .ok (.getfield 62, 3) := dr9 dk9_dX12_spoiled_0_0.1 13 (19, .getfield 62, 3) rfl
theorem dX12_spoiled_22 : decode cX12_spoiled 22 = .ok (.aload_n 0, 1) := dr9 dk9_dX12_spoiled_0_0.1 14 (22, .aload_n 0, 1) rfl
theorem dX12_spoiled_23 : decode cX12_spoiled 23 = .ok (.getfield 286, 3) := dr9 dk9_dX12_spoiled_0_0.1 15 (23, .getfield 286, 3) rfl
theorem dX12_spoiled_26 : decode cX12_spoiled 26 = .ok (.iaload, 1) := dr9 dk9_dX12_spoiled_0_0.1 16 (26, .iaload, 1) rfl
theorem dX12_spoiled_27 : decode cX12_spoiled 27 = .ok (.if_icmp .lt 5, 3) := dr9 dk9_dX12_spoiled_0_0.1 17 (27, .if_icmp .lt 5, 3) rfl
theorem dX12_spoiled_32 : decode cX12_spoiled 32 = .ok (.aload_n 0, 1) := dr9 dk9_dX12_spoiled_0_0.1 18 (32, .aload_n 0, 1) rfl
theorem dX12_spoiled_33 : decode cX12_spoiled 33 = .ok (.iload_n 2, 1) := dr9 dk9_dX12_spoiled_0_0.1 19 (33, .iload_n 2, 1) rfl
theorem dX12_spoiled_34 : decode cX12_spoiled 34 = .ok (.iload_n 1, 1) := dr9 dk9_dX12_spoiled_0_0.1 20 (34, .iload_n 1, 1) rfl
theorem dX12_spoiled_35 : decode cX12_spoiled 35 = .ok (.invokevirtual 481, 3) := dr9 dk9_dX12_spoiled_0_0.1 21 (35, .invokevirtual 481, 3) rfl
theorem dX12_spoiled_38 : decode cX12_spoiled 38 = .ok (.istore_n 3, 1) := dr9 dk9_dX12_spoiled_0_0.1 22 (38, .istore_n 3, 1) rfl
theorem dX12_spoiled_39 : decode cX12_spoiled 39 = .ok (.iload_n 3, 1) := dr9 dk9_dX12_spoiled_0_0.1 23 (39, .iload_n 3, 1) rfl
theorem dX12_spoiled_40 : decode cX12_spoiled 40 = .ok (.ifCond .lt 21, 3) := dr9 dk9_dX12_spoiled_0_0.2 0 (40, .ifCond .lt 21, 3) rfl
theorem dX12_spoiled_61 : decode cX12_spoiled 61 = .ok (.iconst 0, 1) := dr9 dk9_dX12_spoiled_0_0.2 1 (61, .iconst 0, 1) rfl
theorem dX12_spoiled_62 : decode cX12_spoiled 62 = .ok (.ireturn, 1) := dr9 dk9_dX12_spoiled_0_0.2 2 (62, .ireturn, 1) rfl
theorem dX12_spoiled_43 : decode cX12_spoiled 43 = .ok (.aload_n 0, 1) := dr9 dk9_dX12_spoiled_0_0.2 3 (43, .aload_n 0, 1) rfl
theorem dX12_spoiled_44 : decode cX12_spoiled 44 = .ok (.getfield 161, 3) := dr9 dk9_dX12_spoiled_0_0.2 4 (44, .getfield 161, 3) rfl
theorem dX12_spoiled_47 : decode cX12_spoiled 47 = .ok (.bipush 24, 2) := dr9 dk9_dX12_spoiled_0_0.2 5 (47, .bipush 24, 2) rfl
theorem dX12_spoiled_49 : decode cX12_spoiled 49 = .ok (.iload_n 3, 1) := dr9 dk9_dX12_spoiled_0_0.2 6 (49, .iload_n 3, 1) rfl
theorem dX12_spoiled_50 : decode cX12_spoiled 50 = .ok (.imul, 1) := dr9 dk9_dX12_spoiled_0_0.2 7 (50, .imul, 1) rfl
theorem dX12_spoiled_51 : decode cX12_spoiled 51 = .ok (.iload_n 2, 1) := dr9 dk9_dX12_spoiled_0_0.2 8 (51, .iload_n 2, 1) rfl
theorem dX12_spoiled_52 : decode cX12_spoiled 52 = .ok (.iadd, 1) := dr9 dk9_dX12_spoiled_0_0.2 9 (52, .iadd, 1) rfl
theorem dX12_spoiled_53 : decode cX12_spoiled 53 = .ok (.baload, 1) := dr9 dk9_dX12_spoiled_0_0.2 10 (53, .baload, 1) rfl
theorem dX12_spoiled_54 : decode cX12_spoiled 54 = .ok (.ifCond .eq 7, 3) := dr9 dk9_dX12_spoiled_0_0.2 11 (54, .ifCond .eq 7, 3) rfl
theorem dX12_spoiled_57 : decode cX12_spoiled 57 = .ok (.iconst 1, 1) := dr9 dk9_dX12_spoiled_0_0.2 12 (57, .iconst 1, 1) rfl
theorem dX12_spoiled_58 : decode cX12_spoiled 58 = .ok (.goto 4, 3) := dr9 dk9_dX12_spoiled_0_0.2 13 (58, .goto 4, 3) rfl
theorem dk9_dX12_component_0_0 : dOk cX12_component [(0, .aload_n 0, 1), (1, .iload_n 1, 1), (2, .ifCond .lt 29, 3), (31, .iconst 1, 1), (32, .putfield 1, 3), (35, .aload_n 0, 1), (36, .getfield 1, 3), (39, .ifCond .le 5, 3), (42, .iconst 0, 1), (43, .ireturn, 1), (5, .iload_n 1, 1), (6, .aload_n 0, 1), (7, .getfield 62, 3), (10, .aload_n 0, 1), (11, .getfield 286, 3), (14, .iaload, 1), (15, .if_icmp .ge 16, 3), (18, .iload_n 2, 1), (19, .ifCond .lt 12, 3), (22, .iload_n 2, 1), (23, .iconst 4, 1), (24, .if_icmp .gt 7, 3), (27, .iconst 0, 1), (28, .goto 4, 3)] = true ∧ dOk cX12_component [(44, .bipush 24, 2), (46, .aload_n 0, 1), (47, .getfield 286, 3), (50, .imul, 1), (51, .iload_n 1, 1), (52, .iadd, 1), (53, .istore_n 3, 1), (54, .iload_n 2, 1), (55, .ifCond .ne 12, 3), (67, .iload_n 2, 1), (68, .iconst 1, 1), (69, .if_icmp .ne 12, 3), (81, .iload_n 2, 1), (82, .iconst 2, 1), (83, .if_icmp .ne 19, 3), (102, .iload_n 2, 1), (103, .iconst 3, 1), (104, .if_icmp .ne 12, 3), (116, .aload_n 0, 1), (117, .getfield 74, 3), (120, .iload_n 3, 1), (121, .iaload, 1), (122, .ireturn, 1), (107, .aload_n 0, 1)] = true ∧ dOk cX12_component [(108, .getfield 86, 3), (111, .iload_n 3, 1), (112, .iaload, 1), (113, .goto 9, 3), (86, .aload_n 0, 1), (87, .iload_n 1, 1), (88, .invokevirtual 438, 3), (91, .ifCond .eq 7, 3), (98, .iconst 0, 1), (99, .goto 23, 3), (94, .iconst 1, 1), (95, .goto 27, 3), (72, .aload_n 0, 1), (73, .getfield 77, 3), (76, .iload_n 3, 1), (77, .iaload, 1), (78, .goto 44, 3), (58, .aload_n 0, 1), (59, .getfield 71, 3), (62, .iload_n 3, 1), (63, .iaload, 1), (64, .goto 58, 3)] = true := by decide +kernel
theorem dX12_component_0 : decode cX12_component 0 = .ok (.aload_n 0, 1) := dr9 dk9_dX12_component_0_0.1 0 (0, .aload_n 0, 1) rfl
theorem dX12_component_1 : decode cX12_component 1 = .ok (.iload_n 1, 1) := dr9 dk9_dX12_component_0_0.1 1 (1, .iload_n 1, 1) rfl
theorem dX12_component_2 : decode cX12_component 2 = .ok (.ifCond .lt 29, 3) := dr9 dk9_dX12_component_0_0.1 2 (2, .ifCond .lt 29, 3) rfl
theorem dX12_component_31 : decode cX12_component 31 = .ok (.iconst 1, 1) := dr9 dk9_dX12_component_0_0.1 3 (31, .iconst 1, 1) rfl
theorem dX12_component_32 : decode cX12_component 32 = .ok (.putfield 1, 3) := dr9 dk9_dX12_component_0_0.1 4 (32, .putfield 1, 3) rfl
theorem dX12_component_35 : decode cX12_component 35 = .ok (.aload_n 0, 1) := dr9 dk9_dX12_component_0_0.1 5 (35, .aload_n 0, 1) rfl
theorem dX12_component_36 : decode cX12_component 36 = .ok (.getfield 1, 3) := dr9 dk9_dX12_component_0_0.1 6 (36, .getfield 1, 3) rfl
theorem dX12_component_39 : decode cX12_component 39 = .ok (.ifCond .le 5, 3) := dr9 dk9_dX12_component_0_0.1 7 (39, .ifCond .le 5, 3) rfl
theorem dX12_component_42 : decode cX12_component 42 = .ok (.iconst 0, 1) := dr9 dk9_dX12_component_0_0.1 8 (42, .iconst 0, 1) rfl
theorem dX12_component_43 : decode cX12_component 43 = .ok (.ireturn, 1) := dr9 dk9_dX12_component_0_0.1 9 (43, .ireturn, 1) rfl
theorem dX12_component_5 : decode cX12_component 5 = .ok (.iload_n 1, 1) := dr9 dk9_dX12_component_0_0.1 10 (5, .iload_n 1, 1) rfl
theorem dX12_component_6 : decode cX12_component 6 = .ok (.aload_n 0, 1) := dr9 dk9_dX12_component_0_0.1 11 (6, .aload_n 0, 1) rfl
theorem dX12_component_7 : decode cX12_component 7 = .ok (.getfield 62, 3) := dr9 dk9_dX12_component_0_0.1 12 (7, .getfield 62, 3) rfl
theorem dX12_component_10 : decode cX12_component 10 = .ok (.aload_n 0, 1) := dr9 dk9_dX12_component_0_0.1 13 (10, .aload_n 0, 1) rfl
theorem dX12_component_11 : decode cX12_component 11 = .ok (.getfield 286, 3) := dr9 dk9_dX12_component_0_0.1 14 (11, .getfield 286, 3) rfl
theorem dX12_component_14 : decode cX12_component 14 = .ok (.iaload, 1) := dr9 dk9_dX12_component_0_0.1 15 (14, .iaload, 1) rfl
theorem dX12_component_15 : decode cX12_component 15 = .ok (.if_icmp .ge 16, 3) := dr9 dk9_dX12_component_0_0.1 16 (15, .if_icmp .ge 16, 3) rfl
theorem dX12_component_18 : decode cX12_component 18 = .ok (.iload_n 2, 1) := dr9 dk9_dX12_component_0_0.1 17 (18, .iload_n 2, 1) rfl
theorem dX12_component_19 : decode cX12_component 19 = .ok (.ifCond .lt 12, 3) := dr9 dk9_dX12_component_0_0.1 18 (19, .ifCond .lt 12, 3) rfl
theorem dX12_component_22 : decode cX12_component 22 = .ok (.iload_n 2, 1) := dr9 dk9_dX12_component_0_0.1 19 (22, .iload_n 2, 1) rfl
theorem dX12_component_23 : decode cX12_component 23 = .ok (.iconst 4, 1) := dr9 dk9_dX12_component_0_0.1 20 (23, .iconst 4, 1) rfl
theorem dX12_component_24 : decode cX12_component 24 = .ok (.if_icmp .gt 7, 3) := dr9 dk9_dX12_component_0_0.1 21 (24, .if_icmp .gt 7, 3) rfl
theorem dX12_component_27 : decode cX12_component 27 = .ok (.iconst 0, 1) := dr9 dk9_dX12_component_0_0.1 22 (27, .iconst 0, 1) rfl
theorem dX12_component_28 : decode cX12_component 28 = .ok (.goto 4, 3) := dr9 dk9_dX12_component_0_0.1 23 (28, .goto 4, 3) rfl
theorem dX12_component_44 : decode cX12_component 44 = .ok (.bipush 24, 2) := dr9 dk9_dX12_component_0_0.2.1 0 (44, .bipush 24, 2) rfl
theorem dX12_component_46 : decode cX12_component 46 = .ok (.aload_n 0, 1) := dr9 dk9_dX12_component_0_0.2.1 1 (46, .aload_n 0, 1) rfl
theorem dX12_component_47 : decode cX12_component 47 = .ok (.getfield 286, 3) := dr9 dk9_dX12_component_0_0.2.1 2 (47, .getfield 286, 3) rfl
theorem dX12_component_50 : decode cX12_component 50 = .ok (.imul, 1) := dr9 dk9_dX12_component_0_0.2.1 3 (50, .imul, 1) rfl
theorem dX12_component_51 : decode cX12_component 51 = .ok (.iload_n 1, 1) := dr9 dk9_dX12_component_0_0.2.1 4 (51, .iload_n 1, 1) rfl
theorem dX12_component_52 : decode cX12_component 52 = .ok (.iadd, 1) := dr9 dk9_dX12_component_0_0.2.1 5 (52, .iadd, 1) rfl
theorem dX12_component_53 : decode cX12_component 53 = .ok (.istore_n 3, 1) := dr9 dk9_dX12_component_0_0.2.1 6 (53, .istore_n 3, 1) rfl
theorem dX12_component_54 : decode cX12_component 54 = .ok (.iload_n 2, 1) := dr9 dk9_dX12_component_0_0.2.1 7 (54, .iload_n 2, 1) rfl
theorem dX12_component_55 : decode cX12_component 55 = .ok (.ifCond .ne 12, 3) := dr9 dk9_dX12_component_0_0.2.1 8 (55, .ifCond .ne 12, 3) rfl
theorem dX12_component_67 : decode cX12_component 67 = .ok (.iload_n 2, 1) := dr9 dk9_dX12_component_0_0.2.1 9 (67, .iload_n 2, 1) rfl
theorem dX12_component_68 : decode cX12_component 68 = .ok (.iconst 1, 1) := dr9 dk9_dX12_component_0_0.2.1 10 (68, .iconst 1, 1) rfl
theorem dX12_component_69 : decode cX12_component 69 = .ok (.if_icmp .ne 12, 3) := dr9 dk9_dX12_component_0_0.2.1 11 (69, .if_icmp .ne 12, 3) rfl
theorem dX12_component_81 : decode cX12_component 81 = .ok (.iload_n 2, 1) := dr9 dk9_dX12_component_0_0.2.1 12 (81, .iload_n 2, 1) rfl
theorem dX12_component_82 : decode cX12_component 82 = .ok (.iconst 2, 1) := dr9 dk9_dX12_component_0_0.2.1 13 (82, .iconst 2, 1) rfl
theorem dX12_component_83 : decode cX12_component 83 = .ok (.if_icmp .ne 19, 3) := dr9 dk9_dX12_component_0_0.2.1 14 (83, .if_icmp .ne 19, 3) rfl
theorem dX12_component_102 : decode cX12_component 102 = .ok (.iload_n 2, 1) := dr9 dk9_dX12_component_0_0.2.1 15 (102, .iload_n 2, 1) rfl
theorem dX12_component_103 : decode cX12_component 103 = .ok (.iconst 3, 1) := dr9 dk9_dX12_component_0_0.2.1 16 (103, .iconst 3, 1) rfl
theorem dX12_component_104 : decode cX12_component 104 = .ok (.if_icmp .ne 12, 3) := dr9 dk9_dX12_component_0_0.2.1 17 (104, .if_icmp .ne 12, 3) rfl
theorem dX12_component_116 : decode cX12_component 116 = .ok (.aload_n 0, 1) := dr9 dk9_dX12_component_0_0.2.1 18 (116, .aload_n 0, 1) rfl
theorem dX12_component_117 : decode cX12_component 117 = .ok (.getfield 74, 3) := dr9 dk9_dX12_component_0_0.2.1 19 (117, .getfield 74, 3) rfl
theorem dX12_component_120 : decode cX12_component 120 = .ok (.iload_n 3, 1) := dr9 dk9_dX12_component_0_0.2.1 20 (120, .iload_n 3, 1) rfl
theorem dX12_component_121 : decode cX12_component 121 = .ok (.iaload, 1) := dr9 dk9_dX12_component_0_0.2.1 21 (121, .iaload, 1) rfl
theorem dX12_component_122 : decode cX12_component 122 = .ok (.ireturn, 1) := dr9 dk9_dX12_component_0_0.2.1 22 (122, .ireturn, 1) rfl
theorem dX12_component_107 : decode cX12_component 107 = .ok (.aload_n 0, 1) := dr9 dk9_dX12_component_0_0.2.1 23 (107, .aload_n 0, 1) rfl
theorem dX12_component_108 : decode cX12_component 108 = .ok (.getfield 86, 3) := dr9 dk9_dX12_component_0_0.2.2 0 (108, .getfield 86, 3) rfl
theorem dX12_component_111 : decode cX12_component 111 = .ok (.iload_n 3, 1) := dr9 dk9_dX12_component_0_0.2.2 1 (111, .iload_n 3, 1) rfl
theorem dX12_component_112 : decode cX12_component 112 = .ok (.iaload, 1) := dr9 dk9_dX12_component_0_0.2.2 2 (112, .iaload, 1) rfl
theorem dX12_component_113 : decode cX12_component 113 = .ok (.goto 9, 3) := dr9 dk9_dX12_component_0_0.2.2 3 (113, .goto 9, 3) rfl
theorem dX12_component_86 : decode cX12_component 86 = .ok (.aload_n 0, 1) := dr9 dk9_dX12_component_0_0.2.2 4 (86, .aload_n 0, 1) rfl
theorem dX12_component_87 : decode cX12_component 87 = .ok (.iload_n 1, 1) := dr9 dk9_dX12_component_0_0.2.2 5 (87, .iload_n 1, 1) rfl
theorem dX12_component_88 : decode cX12_component 88 = .ok (.invokevirtual 438, 3) := dr9 dk9_dX12_component_0_0.2.2 6 (88, .invokevirtual 438, 3) rfl
theorem dX12_component_91 : decode cX12_component 91 = .ok (.ifCond .eq 7, 3) := dr9 dk9_dX12_component_0_0.2.2 7 (91, .ifCond .eq 7, 3) rfl
theorem dX12_component_98 : decode cX12_component 98 = .ok (.iconst 0, 1) := dr9 dk9_dX12_component_0_0.2.2 8 (98, .iconst 0, 1) rfl
theorem dX12_component_99 : decode cX12_component 99 = .ok (.goto 23, 3) := dr9 dk9_dX12_component_0_0.2.2 9 (99, .goto 23, 3) rfl
theorem dX12_component_94 : decode cX12_component 94 = .ok (.iconst 1, 1) := dr9 dk9_dX12_component_0_0.2.2 10 (94, .iconst 1, 1) rfl
theorem dX12_component_95 : decode cX12_component 95 = .ok (.goto 27, 3) := dr9 dk9_dX12_component_0_0.2.2 11 (95, .goto 27, 3) rfl
theorem dX12_component_72 : decode cX12_component 72 = .ok (.aload_n 0, 1) := dr9 dk9_dX12_component_0_0.2.2 12 (72, .aload_n 0, 1) rfl
theorem dX12_component_73 : decode cX12_component 73 = .ok (.getfield 77, 3) := dr9 dk9_dX12_component_0_0.2.2 13 (73, .getfield 77, 3) rfl
theorem dX12_component_76 : decode cX12_component 76 = .ok (.iload_n 3, 1) := dr9 dk9_dX12_component_0_0.2.2 14 (76, .iload_n 3, 1) rfl
theorem dX12_component_77 : decode cX12_component 77 = .ok (.iaload, 1) := dr9 dk9_dX12_component_0_0.2.2 15 (77, .iaload, 1) rfl
theorem dX12_component_78 : decode cX12_component 78 = .ok (.goto 44, 3) := dr9 dk9_dX12_component_0_0.2.2 16 (78, .goto 44, 3) rfl
theorem dX12_component_58 : decode cX12_component 58 = .ok (.aload_n 0, 1) := dr9 dk9_dX12_component_0_0.2.2 17 (58, .aload_n 0, 1) rfl
theorem dX12_component_59 : decode cX12_component 59 = .ok (.getfield 71, 3) := dr9 dk9_dX12_component_0_0.2.2 18 (59, .getfield 71, 3) rfl
theorem dX12_component_62 : decode cX12_component 62 = .ok (.iload_n 3, 1) := dr9 dk9_dX12_component_0_0.2.2 19 (62, .iload_n 3, 1) rfl
theorem dX12_component_63 : decode cX12_component 63 = .ok (.iaload, 1) := dr9 dk9_dX12_component_0_0.2.2 20 (63, .iaload, 1) rfl
theorem dX12_component_64 : decode cX12_component 64 = .ok (.goto 58, 3) := dr9 dk9_dX12_component_0_0.2.2 21 (64, .goto 58, 3) rfl
theorem dk9_dX12_count_0_0 : dOk cX12_count [(0, .aload_n 0, 1), (1, .iconst 0, 1), (2, .putfield 1, 3), (5, .iconst 0, 1), (6, .istore_n 2, 1), (7, .iconst 0, 1), (8, .istore_n 3, 1), (9, .iconst 0, 1), (10, .istore 4, 2), (12, .iload 4, 2), (14, .aload_n 0, 1), (15, .getfield 244, 3), (18, .if_icmp .ge 27, 3), (21, .iload_n 2, 1), (22, .aload_n 0, 1), (23, .getfield 152, 3), (26, .iload 4, 2), (28, .baload, 1), (29, .ifCond .eq 7, 3), (36, .iconst 0, 1), (37, .iadd, 1), (38, .istore_n 2, 1), (39, .iinc 4 1, 3), (42, .goto (-30), 3)] = true ∧ dOk cX12_count [(32, .iconst 1, 1), (33, .goto 4, 3), (45, .iconst 0, 1), (46, .istore 4, 2), (48, .iload 4, 2), (50, .aload_n 0, 1), (51, .getfield 411, 3), (54, .if_icmp .ge 28, 3), (57, .iload_n 3, 1), (58, .aload_n 0, 1), (59, .getfield 170, 3), (62, .iload 4, 2), (64, .iaload, 1), (65, .iconst 1, 1), (66, .if_icmp .ne 7, 3), (73, .iconst 0, 1), (74, .iadd, 1), (75, .istore_n 3, 1), (76, .iinc 4 1, 3), (79, .goto (-31), 3), (69, .iconst 1, 1), (70, .goto 4, 3), (82, .iload_n 1, 1), (83, .tableswitch 157 0 12 #[65, 75, 85, 95, 105, 115, 117, 122, 124, 137, 142, 147, 152], 65)] = true ∧ dOk cX12_count [(148, .aload_n 0, 1), (149, .getfield 43, 3), (152, .aload_n 0, 1), (153, .getfield 286, 3), (156, .iaload, 1), (157, .ireturn, 1), (158, .aload_n 0, 1), (159, .getfield 53, 3), (162, .aload_n 0, 1), (163, .getfield 286, 3), (166, .iaload, 1), (167, .ireturn, 1), (168, .aload_n 0, 1), (169, .getfield 62, 3), (172, .aload_n 0, 1), (173, .getfield 286, 3), (176, .iaload, 1), (177, .ireturn, 1), (178, .aload_n 0, 1), (179, .getfield 110, 3), (182, .aload_n 0, 1), (183, .getfield 286, 3), (186, .iaload, 1), (187, .ireturn, 1)] = true ∧ dOk cX12_count [(188, .aload_n 0, 1), (189, .getfield 122, 3), (192, .aload_n 0, 1), (193, .getfield 286, 3), (196, .iaload, 1), (197, .ireturn, 1), (198, .iload_n 2, 1), (199, .ireturn, 1), (200, .aload_n 0, 1), (201, .getfield 411, 3), (204, .ireturn, 1), (205, .iload_n 3, 1), (206, .ireturn, 1), (207, .aload_n 0, 1), (208, .getfield 408, 3), (211, .ifCond .eq 7, 3), (218, .iconst 0, 1), (219, .ireturn, 1), (214, .iconst 1, 1), (215, .goto 4, 3), (220, .aload_n 0, 1), (221, .getfield 477, 3), (224, .ireturn, 1), (225, .aload_n 0, 1)] = true ∧ dOk cX12_count [(226, .getfield 432, 3), (229, .ireturn, 1), (230, .aload_n 0, 1), (231, .getfield 435, 3), (234, .ireturn, 1), (235, .aload_n 0, 1), (236, .getfield 11, 3), (239, .ireturn, 1), (240, .iconst (-1), 1), (241, .ireturn, 1)] = true := by decide +kernel
theorem dX12_count_0 : decode cX12_count 0 = .ok (.aload_n 0, 1) := dr9 dk9_dX12_count_0_0.1 0 (0, .aload_n 0, 1) rfl
theorem dX12_count_1 : decode cX12_count 1 = .ok (.iconst 0, 1) := dr9 dk9_dX12_count_0_0.1 1 (1, .iconst 0, 1) rfl
theorem dX12_count_2 : decode cX12_count 2 = .ok (.putfield 1, 3) := dr9 dk9_dX12_count_0_0.1 2 (2, .putfield 1, 3) rfl
theorem dX12_count_5 : decode cX12_count 5 = .ok (.iconst 0, 1) := dr9 dk9_dX12_count_0_0.1 3 (5, .iconst 0, 1) rfl
theorem dX12_count_6 : decode cX12_count 6 = .ok (.istore_n 2, 1) := dr9 dk9_dX12_count_0_0.1 4 (6, .istore_n 2, 1) rfl
theorem dX12_count_7 : decode cX12_count 7 = .ok (.iconst 0, 1) := dr9 dk9_dX12_count_0_0.1 5 (7, .iconst 0, 1) rfl
theorem dX12_count_8 : decode cX12_count 8 = .ok (.istore_n 3, 1) := dr9 dk9_dX12_count_0_0.1 6 (8, .istore_n 3, 1) rfl
theorem dX12_count_9 : decode cX12_count 9 = .ok (.iconst 0, 1) := dr9 dk9_dX12_count_0_0.1 7 (9, .iconst 0, 1) rfl
theorem dX12_count_10 : decode cX12_count 10 = .ok (.istore 4, 2) := dr9 dk9_dX12_count_0_0.1 8 (10, .istore 4, 2) rfl
theorem dX12_count_12 : decode cX12_count 12 = .ok (.iload 4, 2) := dr9 dk9_dX12_count_0_0.1 9 (12, .iload 4, 2) rfl
theorem dX12_count_14 : decode cX12_count 14 = .ok (.aload_n 0, 1) := dr9 dk9_dX12_count_0_0.1 10 (14, .aload_n 0, 1) rfl
theorem dX12_count_15 : decode cX12_count 15 = .ok (.getfield 244, 3) := dr9 dk9_dX12_count_0_0.1 11 (15, .getfield 244, 3) rfl
theorem dX12_count_18 : decode cX12_count 18 = .ok (.if_icmp .ge 27, 3) := dr9 dk9_dX12_count_0_0.1 12 (18, .if_icmp .ge 27, 3) rfl
theorem dX12_count_21 : decode cX12_count 21 = .ok (.iload_n 2, 1) := dr9 dk9_dX12_count_0_0.1 13 (21, .iload_n 2, 1) rfl
theorem dX12_count_22 : decode cX12_count 22 = .ok (.aload_n 0, 1) := dr9 dk9_dX12_count_0_0.1 14 (22, .aload_n 0, 1) rfl
theorem dX12_count_23 : decode cX12_count 23 = .ok (.getfield 152, 3) := dr9 dk9_dX12_count_0_0.1 15 (23, .getfield 152, 3) rfl
theorem dX12_count_26 : decode cX12_count 26 = .ok (.iload 4, 2) := dr9 dk9_dX12_count_0_0.1 16 (26, .iload 4, 2) rfl
theorem dX12_count_28 : decode cX12_count 28 = .ok (.baload, 1) := dr9 dk9_dX12_count_0_0.1 17 (28, .baload, 1) rfl
theorem dX12_count_29 : decode cX12_count 29 = .ok (.ifCond .eq 7, 3) := dr9 dk9_dX12_count_0_0.1 18 (29, .ifCond .eq 7, 3) rfl
theorem dX12_count_36 : decode cX12_count 36 = .ok (.iconst 0, 1) := dr9 dk9_dX12_count_0_0.1 19 (36, .iconst 0, 1) rfl
theorem dX12_count_37 : decode cX12_count 37 = .ok (.iadd, 1) := dr9 dk9_dX12_count_0_0.1 20 (37, .iadd, 1) rfl
theorem dX12_count_38 : decode cX12_count 38 = .ok (.istore_n 2, 1) := dr9 dk9_dX12_count_0_0.1 21 (38, .istore_n 2, 1) rfl
theorem dX12_count_39 : decode cX12_count 39 = .ok (.iinc 4 1, 3) := dr9 dk9_dX12_count_0_0.1 22 (39, .iinc 4 1, 3) rfl
theorem dX12_count_42 : decode cX12_count 42 = .ok (.goto (-30), 3) := dr9 dk9_dX12_count_0_0.1 23 (42, .goto (-30), 3) rfl
theorem dX12_count_32 : decode cX12_count 32 = .ok (.iconst 1, 1) := dr9 dk9_dX12_count_0_0.2.1 0 (32, .iconst 1, 1) rfl
theorem dX12_count_33 : decode cX12_count 33 = .ok (.goto 4, 3) := dr9 dk9_dX12_count_0_0.2.1 1 (33, .goto 4, 3) rfl
theorem dX12_count_45 : decode cX12_count 45 = .ok (.iconst 0, 1) := dr9 dk9_dX12_count_0_0.2.1 2 (45, .iconst 0, 1) rfl
theorem dX12_count_46 : decode cX12_count 46 = .ok (.istore 4, 2) := dr9 dk9_dX12_count_0_0.2.1 3 (46, .istore 4, 2) rfl
theorem dX12_count_48 : decode cX12_count 48 = .ok (.iload 4, 2) := dr9 dk9_dX12_count_0_0.2.1 4 (48, .iload 4, 2) rfl
theorem dX12_count_50 : decode cX12_count 50 = .ok (.aload_n 0, 1) := dr9 dk9_dX12_count_0_0.2.1 5 (50, .aload_n 0, 1) rfl
theorem dX12_count_51 : decode cX12_count 51 = .ok (.getfield 411, 3) := dr9 dk9_dX12_count_0_0.2.1 6 (51, .getfield 411, 3) rfl
theorem dX12_count_54 : decode cX12_count 54 = .ok (.if_icmp .ge 28, 3) := dr9 dk9_dX12_count_0_0.2.1 7 (54, .if_icmp .ge 28, 3) rfl
theorem dX12_count_57 : decode cX12_count 57 = .ok (.iload_n 3, 1) := dr9 dk9_dX12_count_0_0.2.1 8 (57, .iload_n 3, 1) rfl
theorem dX12_count_58 : decode cX12_count 58 = .ok (.aload_n 0, 1) := dr9 dk9_dX12_count_0_0.2.1 9 (58, .aload_n 0, 1) rfl
theorem dX12_count_59 : decode cX12_count 59 = .ok (.getfield 170, 3) := dr9 dk9_dX12_count_0_0.2.1 10 (59, .getfield 170, 3) rfl
theorem dX12_count_62 : decode cX12_count 62 = .ok (.iload 4, 2) := dr9 dk9_dX12_count_0_0.2.1 11 (62, .iload 4, 2) rfl
theorem dX12_count_64 : decode cX12_count 64 = .ok (.iaload, 1) := dr9 dk9_dX12_count_0_0.2.1 12 (64, .iaload, 1) rfl
theorem dX12_count_65 : decode cX12_count 65 = .ok (.iconst 1, 1) := dr9 dk9_dX12_count_0_0.2.1 13 (65, .iconst 1, 1) rfl
theorem dX12_count_66 : decode cX12_count 66 = .ok (.if_icmp .ne 7, 3) := dr9 dk9_dX12_count_0_0.2.1 14 (66, .if_icmp .ne 7, 3) rfl
theorem dX12_count_73 : decode cX12_count 73 = .ok (.iconst 0, 1) := dr9 dk9_dX12_count_0_0.2.1 15 (73, .iconst 0, 1) rfl
theorem dX12_count_74 : decode cX12_count 74 = .ok (.iadd, 1) := dr9 dk9_dX12_count_0_0.2.1 16 (74, .iadd, 1) rfl
theorem dX12_count_75 : decode cX12_count 75 = .ok (.istore_n 3, 1) := dr9 dk9_dX12_count_0_0.2.1 17 (75, .istore_n 3, 1) rfl
theorem dX12_count_76 : decode cX12_count 76 = .ok (.iinc 4 1, 3) := dr9 dk9_dX12_count_0_0.2.1 18 (76, .iinc 4 1, 3) rfl
theorem dX12_count_79 : decode cX12_count 79 = .ok (.goto (-31), 3) := dr9 dk9_dX12_count_0_0.2.1 19 (79, .goto (-31), 3) rfl
theorem dX12_count_69 : decode cX12_count 69 = .ok (.iconst 1, 1) := dr9 dk9_dX12_count_0_0.2.1 20 (69, .iconst 1, 1) rfl
theorem dX12_count_70 : decode cX12_count 70 = .ok (.goto 4, 3) := dr9 dk9_dX12_count_0_0.2.1 21 (70, .goto 4, 3) rfl
theorem dX12_count_82 : decode cX12_count 82 = .ok (.iload_n 1, 1) := dr9 dk9_dX12_count_0_0.2.1 22 (82, .iload_n 1, 1) rfl
theorem dX12_count_83 : decode cX12_count 83 = .ok (.tableswitch 157 0 12 #[65, 75, 85, 95, 105, 115, 117, 122, 124, 137, 142, 147, 152], 65) := dr9 dk9_dX12_count_0_0.2.1 23 (83, .tableswitch 157 0 12 #[65, 75, 85, 95, 105, 115, 117, 122, 124, 137, 142, 147, 152], 65) rfl
theorem dX12_count_148 : decode cX12_count 148 = .ok (.aload_n 0, 1) := dr9 dk9_dX12_count_0_0.2.2.1 0 (148, .aload_n 0, 1) rfl
theorem dX12_count_149 : decode cX12_count 149 = .ok (.getfield 43, 3) := dr9 dk9_dX12_count_0_0.2.2.1 1 (149, .getfield 43, 3) rfl
theorem dX12_count_152 : decode cX12_count 152 = .ok (.aload_n 0, 1) := dr9 dk9_dX12_count_0_0.2.2.1 2 (152, .aload_n 0, 1) rfl
theorem dX12_count_153 : decode cX12_count 153 = .ok (.getfield 286, 3) := dr9 dk9_dX12_count_0_0.2.2.1 3 (153, .getfield 286, 3) rfl
theorem dX12_count_156 : decode cX12_count 156 = .ok (.iaload, 1) := dr9 dk9_dX12_count_0_0.2.2.1 4 (156, .iaload, 1) rfl
theorem dX12_count_157 : decode cX12_count 157 = .ok (.ireturn, 1) := dr9 dk9_dX12_count_0_0.2.2.1 5 (157, .ireturn, 1) rfl
theorem dX12_count_158 : decode cX12_count 158 = .ok (.aload_n 0, 1) := dr9 dk9_dX12_count_0_0.2.2.1 6 (158, .aload_n 0, 1) rfl
theorem dX12_count_159 : decode cX12_count 159 = .ok (.getfield 53, 3) := dr9 dk9_dX12_count_0_0.2.2.1 7 (159, .getfield 53, 3) rfl
theorem dX12_count_162 : decode cX12_count 162 = .ok (.aload_n 0, 1) := dr9 dk9_dX12_count_0_0.2.2.1 8 (162, .aload_n 0, 1) rfl
theorem dX12_count_163 : decode cX12_count 163 = .ok (.getfield 286, 3) := dr9 dk9_dX12_count_0_0.2.2.1 9 (163, .getfield 286, 3) rfl
theorem dX12_count_166 : decode cX12_count 166 = .ok (.iaload, 1) := dr9 dk9_dX12_count_0_0.2.2.1 10 (166, .iaload, 1) rfl
theorem dX12_count_167 : decode cX12_count 167 = .ok (.ireturn, 1) := dr9 dk9_dX12_count_0_0.2.2.1 11 (167, .ireturn, 1) rfl
theorem dX12_count_168 : decode cX12_count 168 = .ok (.aload_n 0, 1) := dr9 dk9_dX12_count_0_0.2.2.1 12 (168, .aload_n 0, 1) rfl
theorem dX12_count_169 : decode cX12_count 169 = .ok (.getfield 62, 3) := dr9 dk9_dX12_count_0_0.2.2.1 13 (169, .getfield 62, 3) rfl
theorem dX12_count_172 : decode cX12_count 172 = .ok (.aload_n 0, 1) := dr9 dk9_dX12_count_0_0.2.2.1 14 (172, .aload_n 0, 1) rfl
theorem dX12_count_173 : decode cX12_count 173 = .ok (.getfield 286, 3) := dr9 dk9_dX12_count_0_0.2.2.1 15 (173, .getfield 286, 3) rfl
theorem dX12_count_176 : decode cX12_count 176 = .ok (.iaload, 1) := dr9 dk9_dX12_count_0_0.2.2.1 16 (176, .iaload, 1) rfl
theorem dX12_count_177 : decode cX12_count 177 = .ok (.ireturn, 1) := dr9 dk9_dX12_count_0_0.2.2.1 17 (177, .ireturn, 1) rfl
theorem dX12_count_178 : decode cX12_count 178 = .ok (.aload_n 0, 1) := dr9 dk9_dX12_count_0_0.2.2.1 18 (178, .aload_n 0, 1) rfl
theorem dX12_count_179 : decode cX12_count 179 = .ok (.getfield 110, 3) := dr9 dk9_dX12_count_0_0.2.2.1 19 (179, .getfield 110, 3) rfl
theorem dX12_count_182 : decode cX12_count 182 = .ok (.aload_n 0, 1) := dr9 dk9_dX12_count_0_0.2.2.1 20 (182, .aload_n 0, 1) rfl
theorem dX12_count_183 : decode cX12_count 183 = .ok (.getfield 286, 3) := dr9 dk9_dX12_count_0_0.2.2.1 21 (183, .getfield 286, 3) rfl
theorem dX12_count_186 : decode cX12_count 186 = .ok (.iaload, 1) := dr9 dk9_dX12_count_0_0.2.2.1 22 (186, .iaload, 1) rfl
theorem dX12_count_187 : decode cX12_count 187 = .ok (.ireturn, 1) := dr9 dk9_dX12_count_0_0.2.2.1 23 (187, .ireturn, 1) rfl
theorem dX12_count_188 : decode cX12_count 188 = .ok (.aload_n 0, 1) := dr9 dk9_dX12_count_0_0.2.2.2.1 0 (188, .aload_n 0, 1) rfl
theorem dX12_count_189 : decode cX12_count 189 = .ok (.getfield 122, 3) := dr9 dk9_dX12_count_0_0.2.2.2.1 1 (189, .getfield 122, 3) rfl
theorem dX12_count_192 : decode cX12_count 192 = .ok (.aload_n 0, 1) := dr9 dk9_dX12_count_0_0.2.2.2.1 2 (192, .aload_n 0, 1) rfl
theorem dX12_count_193 : decode cX12_count 193 = .ok (.getfield 286, 3) := dr9 dk9_dX12_count_0_0.2.2.2.1 3 (193, .getfield 286, 3) rfl
theorem dX12_count_196 : decode cX12_count 196 = .ok (.iaload, 1) := dr9 dk9_dX12_count_0_0.2.2.2.1 4 (196, .iaload, 1) rfl
theorem dX12_count_197 : decode cX12_count 197 = .ok (.ireturn, 1) := dr9 dk9_dX12_count_0_0.2.2.2.1 5 (197, .ireturn, 1) rfl
theorem dX12_count_198 : decode cX12_count 198 = .ok (.iload_n 2, 1) := dr9 dk9_dX12_count_0_0.2.2.2.1 6 (198, .iload_n 2, 1) rfl
theorem dX12_count_199 : decode cX12_count 199 = .ok (.ireturn, 1) := dr9 dk9_dX12_count_0_0.2.2.2.1 7 (199, .ireturn, 1) rfl
theorem dX12_count_200 : decode cX12_count 200 = .ok (.aload_n 0, 1) := dr9 dk9_dX12_count_0_0.2.2.2.1 8 (200, .aload_n 0, 1) rfl
theorem dX12_count_201 : decode cX12_count 201 = .ok (.getfield 411, 3) := dr9 dk9_dX12_count_0_0.2.2.2.1 9 (201, .getfield 411, 3) rfl
theorem dX12_count_204 : decode cX12_count 204 = .ok (.ireturn, 1) := dr9 dk9_dX12_count_0_0.2.2.2.1 10 (204, .ireturn, 1) rfl
theorem dX12_count_205 : decode cX12_count 205 = .ok (.iload_n 3, 1) := dr9 dk9_dX12_count_0_0.2.2.2.1 11 (205, .iload_n 3, 1) rfl
theorem dX12_count_206 : decode cX12_count 206 = .ok (.ireturn, 1) := dr9 dk9_dX12_count_0_0.2.2.2.1 12 (206, .ireturn, 1) rfl
theorem dX12_count_207 : decode cX12_count 207 = .ok (.aload_n 0, 1) := dr9 dk9_dX12_count_0_0.2.2.2.1 13 (207, .aload_n 0, 1) rfl
theorem dX12_count_208 : decode cX12_count 208 = .ok (.getfield 408, 3) := dr9 dk9_dX12_count_0_0.2.2.2.1 14 (208, .getfield 408, 3) rfl
theorem dX12_count_211 : decode cX12_count 211 = .ok (.ifCond .eq 7, 3) := dr9 dk9_dX12_count_0_0.2.2.2.1 15 (211, .ifCond .eq 7, 3) rfl
theorem dX12_count_218 : decode cX12_count 218 = .ok (.iconst 0, 1) := dr9 dk9_dX12_count_0_0.2.2.2.1 16 (218, .iconst 0, 1) rfl
theorem dX12_count_219 : decode cX12_count 219 = .ok (.ireturn, 1) := dr9 dk9_dX12_count_0_0.2.2.2.1 17 (219, .ireturn, 1) rfl
theorem dX12_count_214 : decode cX12_count 214 = .ok (.iconst 1, 1) := dr9 dk9_dX12_count_0_0.2.2.2.1 18 (214, .iconst 1, 1) rfl
theorem dX12_count_215 : decode cX12_count 215 = .ok (.goto 4, 3) := dr9 dk9_dX12_count_0_0.2.2.2.1 19 (215, .goto 4, 3) rfl
theorem dX12_count_220 : decode cX12_count 220 = .ok (.aload_n 0, 1) := dr9 dk9_dX12_count_0_0.2.2.2.1 20 (220, .aload_n 0, 1) rfl
theorem dX12_count_221 : decode cX12_count 221 = .ok (.getfield 477, 3) := dr9 dk9_dX12_count_0_0.2.2.2.1 21 (221, .getfield 477, 3) rfl
theorem dX12_count_224 : decode cX12_count 224 = .ok (.ireturn, 1) := dr9 dk9_dX12_count_0_0.2.2.2.1 22 (224, .ireturn, 1) rfl
theorem dX12_count_225 : decode cX12_count 225 = .ok (.aload_n 0, 1) := dr9 dk9_dX12_count_0_0.2.2.2.1 23 (225, .aload_n 0, 1) rfl
theorem dX12_count_226 : decode cX12_count 226 = .ok (.getfield 432, 3) := dr9 dk9_dX12_count_0_0.2.2.2.2 0 (226, .getfield 432, 3) rfl
theorem dX12_count_229 : decode cX12_count 229 = .ok (.ireturn, 1) := dr9 dk9_dX12_count_0_0.2.2.2.2 1 (229, .ireturn, 1) rfl
theorem dX12_count_230 : decode cX12_count 230 = .ok (.aload_n 0, 1) := dr9 dk9_dX12_count_0_0.2.2.2.2 2 (230, .aload_n 0, 1) rfl
theorem dX12_count_231 : decode cX12_count 231 = .ok (.getfield 435, 3) := dr9 dk9_dX12_count_0_0.2.2.2.2 3 (231, .getfield 435, 3) rfl
theorem dX12_count_234 : decode cX12_count 234 = .ok (.ireturn, 1) := dr9 dk9_dX12_count_0_0.2.2.2.2 4 (234, .ireturn, 1) rfl
theorem dX12_count_235 : decode cX12_count 235 = .ok (.aload_n 0, 1) := dr9 dk9_dX12_count_0_0.2.2.2.2 5 (235, .aload_n 0, 1) rfl
theorem dX12_count_236 : decode cX12_count 236 = .ok (.getfield 11, 3) := dr9 dk9_dX12_count_0_0.2.2.2.2 6 (236, .getfield 11, 3) rfl
theorem dX12_count_239 : decode cX12_count 239 = .ok (.ireturn, 1) := dr9 dk9_dX12_count_0_0.2.2.2.2 7 (239, .ireturn, 1) rfl
theorem dX12_count_240 : decode cX12_count 240 = .ok (.iconst (-1), 1) := dr9 dk9_dX12_count_0_0.2.2.2.2 8 (240, .iconst (-1), 1) rfl
theorem dX12_count_241 : decode cX12_count 241 = .ok (.ireturn, 1) := dr9 dk9_dX12_count_0_0.2.2.2.2 9 (241, .ireturn, 1) rfl
theorem dk9_dX12_notes_0_0 : dOk cX12_notes [(0, .aload_n 0, 1), (1, .getfield 420, 3), (4, .bipush 100, 2), (6, .if_icmp .ge 33, 3), (9, .aload_n 0, 1), (10, .getfield 189, 3), (13, .aload_n 0, 1), (14, .getfield 420, 3), (17, .iload_n 1, 1), (18, .iastore, 1), (19, .aload_n 0, 1), (20, .getfield 192, 3), (23, .aload_n 0, 1), (24, .getfield 420, 3), (27, .iload_n 2, 1), (28, .iastore, 1), (29, .aload_n 0, 1), (30, .getfield 195, 3), (33, .aload_n 0, 1), (34, .getfield 420, 3), (37, .iload_n 3, 1), (38, .iastore, 1), (39, .aload_n 0, 1), (40, .dup, 1)] = true ∧ dOk cX12_notes [(41, .getfield 420, 3), (44, .iconst 1, 1), (45, .iadd, 1), (46, .putfield 420, 3), (49, .return_, 1)] = true := by decide +kernel
theorem dX12_notes_0 : decode cX12_notes 0 = .ok (.aload_n 0, 1) := dr9 dk9_dX12_notes_0_0.1 0 (0, .aload_n 0, 1) rfl
theorem dX12_notes_1 : decode cX12_notes 1 = .ok (.getfield 420, 3) := dr9 dk9_dX12_notes_0_0.1 1 (1, .getfield 420, 3) rfl
theorem dX12_notes_4 : decode cX12_notes 4 = .ok (.bipush 100, 2) := dr9 dk9_dX12_notes_0_0.1 2 (4, .bipush 100, 2) rfl
theorem dX12_notes_6 : decode cX12_notes 6 = .ok (.if_icmp .ge 33, 3) := dr9 dk9_dX12_notes_0_0.1 3 (6, .if_icmp .ge 33, 3) rfl
theorem dX12_notes_9 : decode cX12_notes 9 = .ok (.aload_n 0, 1) := dr9 dk9_dX12_notes_0_0.1 4 (9, .aload_n 0, 1) rfl
theorem dX12_notes_10 : decode cX12_notes 10 = .ok (.getfield 189, 3) := dr9 dk9_dX12_notes_0_0.1 5 (10, .getfield 189, 3) rfl
theorem dX12_notes_13 : decode cX12_notes 13 = .ok (.aload_n 0, 1) := dr9 dk9_dX12_notes_0_0.1 6 (13, .aload_n 0, 1) rfl
theorem dX12_notes_14 : decode cX12_notes 14 = .ok (.getfield 420, 3) := dr9 dk9_dX12_notes_0_0.1 7 (14, .getfield 420, 3) rfl
theorem dX12_notes_17 : decode cX12_notes 17 = .ok (.iload_n 1, 1) := dr9 dk9_dX12_notes_0_0.1 8 (17, .iload_n 1, 1) rfl
theorem dX12_notes_18 : decode cX12_notes 18 = .ok (.iastore, 1) := dr9 dk9_dX12_notes_0_0.1 9 (18, .iastore, 1) rfl
theorem dX12_notes_19 : decode cX12_notes 19 = .ok (.aload_n 0, 1) := dr9 dk9_dX12_notes_0_0.1 10 (19, .aload_n 0, 1) rfl
theorem dX12_notes_20 : decode cX12_notes 20 = .ok (.getfield 192, 3) := dr9 dk9_dX12_notes_0_0.1 11 (20, .getfield 192, 3) rfl
theorem dX12_notes_23 : decode cX12_notes 23 = .ok (.aload_n 0, 1) := dr9 dk9_dX12_notes_0_0.1 12 (23, .aload_n 0, 1) rfl
theorem dX12_notes_24 : decode cX12_notes 24 = .ok (.getfield 420, 3) := dr9 dk9_dX12_notes_0_0.1 13 (24, .getfield 420, 3) rfl
theorem dX12_notes_27 : decode cX12_notes 27 = .ok (.iload_n 2, 1) := dr9 dk9_dX12_notes_0_0.1 14 (27, .iload_n 2, 1) rfl
theorem dX12_notes_28 : decode cX12_notes 28 = .ok (.iastore, 1) := dr9 dk9_dX12_notes_0_0.1 15 (28, .iastore, 1) rfl
theorem dX12_notes_29 : decode cX12_notes 29 = .ok (.aload_n 0, 1) := dr9 dk9_dX12_notes_0_0.1 16 (29, .aload_n 0, 1) rfl
theorem dX12_notes_30 : decode cX12_notes 30 = .ok (.getfield 195, 3) := dr9 dk9_dX12_notes_0_0.1 17 (30, .getfield 195, 3) rfl
theorem dX12_notes_33 : decode cX12_notes 33 = .ok (.aload_n 0, 1) := dr9 dk9_dX12_notes_0_0.1 18 (33, .aload_n 0, 1) rfl
theorem dX12_notes_34 : decode cX12_notes 34 = .ok (.getfield 420, 3) := dr9 dk9_dX12_notes_0_0.1 19 (34, .getfield 420, 3) rfl
theorem dX12_notes_37 : decode cX12_notes 37 = .ok (.iload_n 3, 1) := dr9 dk9_dX12_notes_0_0.1 20 (37, .iload_n 3, 1) rfl
theorem dX12_notes_38 : decode cX12_notes 38 = .ok (.iastore, 1) := dr9 dk9_dX12_notes_0_0.1 21 (38, .iastore, 1) rfl
theorem dX12_notes_39 : decode cX12_notes 39 = .ok (.aload_n 0, 1) := dr9 dk9_dX12_notes_0_0.1 22 (39, .aload_n 0, 1) rfl
theorem dX12_notes_40 : decode cX12_notes 40 = .ok (.dup, 1) := dr9 dk9_dX12_notes_0_0.1 23 (40, .dup, 1) rfl
theorem dX12_notes_41 : decode cX12_notes 41 = .ok (.getfield 420, 3) := dr9 dk9_dX12_notes_0_0.2 0 (41, .getfield 420, 3) rfl
theorem dX12_notes_44 : decode cX12_notes 44 = .ok (.iconst 1, 1) := dr9 dk9_dX12_notes_0_0.2 1 (44, .iconst 1, 1) rfl
theorem dX12_notes_45 : decode cX12_notes 45 = .ok (.iadd, 1) := dr9 dk9_dX12_notes_0_0.2 2 (45, .iadd, 1) rfl
theorem dX12_notes_46 : decode cX12_notes 46 = .ok (.putfield 420, 3) := dr9 dk9_dX12_notes_0_0.2 3 (46, .putfield 420, 3) rfl
theorem dX12_notes_49 : decode cX12_notes 49 = .ok (.return_, 1) := dr9 dk9_dX12_notes_0_0.2 4 (49, .return_, 1) rfl
abbrev r_s_forget : Room := { frames := 0, cells := 0, slots := 0, locals := 0 }
abbrev q_s_forget (D : va_G) (ks : KS) (ad : Nat → Nat) (kk : Nat → ClassId) (V : Vf) (L : Lf) (A : Nat → Prop) : Array Value → State → Outcome → State → Prop := va_Qv (fun (u : Vf × Lf) => rgd bM u.1 ∧ agr [(0, 54), (0, 55), (0, 60), (0, 65), (0, 69), (0, 70), (0, 71), (0, 72), (0, 73), (0, 76), (0, 81)] [56, 57, 59] V u.1 ∧ u.2 = L) (fun u t => gq D A (mw ad kk ks.1 u.1 u.2) (mty kk) t) A
abbrev r_s_isThere : Room := { frames := 0, cells := 0, slots := 0, locals := 0 }
abbrev q_s_isThere (D : va_G) (ks : KS) (ad : Nat → Nat) (kk : Nat → ClassId) (V : Vf) (L : Lf) (p0 : Int32) (A : Nat → Prop) : Array Value → State → Outcome → State → Prop := va_Qi (fun (r : Int32) (_ : Unit) => (0 ≤ r.toInt ∧ r.toInt ≤ 1) ∧ (Imp (r.toInt = 1) (0 ≤ p0.toInt ∧ p0.toInt ≤ 23))) (fun _ t => gq D A (mw ad kk ks.1 V L) (mty kk) t) A
set_option maxHeartbeats 4000000 in
set_option maxRecDepth 100000 in
theorem s_isThere (l : Launch) (D : va_G) (ks : KS) (sz : Nat) (ad : Nat → Nat) (kk : Nat → ClassId) (V : Vf) (L : Lf) (p0 : Int32) (hMV : rgd bM V)  : Met l yX12_isThere (Cond.code yX12_isThere cX12_isThere 3 (some .boolean) :: GW) r_s_isThere (va_Pc [.ref (ad 0), .int p0] (gp D ks (mw ad kk ks.1 V L) (mty kk) sz)) (q_s_isThere D ks ad kk V L p0 (va_A (mw ad kk ks.1 V L) sz)) 0 0 (va_A (mw ad kk ks.1 V L) sz) := by
  refine g_met (q_s_isThere D ks ad kk V L p0) (by decide) (Nat.le_of_ble_eq_true rfl) ?_
  intro p e s m below meth c A ls H locs hx hb hr hml hown hg hlocks hin hnw hgk hP hK hD hS hA hl
  replace hown : s.vm.findClass RX12 = some m.cls := hown
  replace hl : lv_has ls 3 [(0, .ref (ad 0)), (1, .int p0)] := hl
  replace hP : va_P D vwCl (mw ad kk ks.1 V L) H := hP
  replace hD : va_D A (mw ad kk ks.1 V L) := hD
  replace hK : va_K D vwCl (mty kk) s := hK
  refine lv_bipush (v := 24) hx hb dX12_isThere_0 (by decide) ?_
  refine lv_aload_n hx hb dX12_isThere_2 rfl (lv_at hl 0 rfl) ?_
  refine va_get (D := D) (ci := 12) (v := .int (V 0 11)) (C := RX12) (T := TX12) (N := 100) hx hb hg inX12 hown hK hP 0 rfl rfl 11 (by decide) (hg _ w1717) (fun _ h9 => h9) rfl dX12_isThere_3 ?_
  have r1 : 0 ≤ ((V 0 11)).toInt ∧ ((V 0 11)).toInt ≤ 1 := hMV 0 11
  refine lv_imul hx hb dX12_isThere_6 ?_
  refine lv_topi (fun z2 ez2 => ?_)
  have hz2 : z2.toInt = 24 * ((V 0 11)).toInt := i_mul ez2 (by decide) rfl (by (first | exact om_3f8aba7b6ce1 r1.1 r1.2 | omega))
  refine lv_iload_n hx hb dX12_isThere_7 rfl (lv_at hl 1 rfl) ?_
  refine lv_iadd hx hb dX12_isThere_8 ?_
  have r3 := i_full p0
  refine lv_topi (fun z4 ez4 => ?_)
  have hz4 : Imp (-2147483648 ≤ z2.toInt + p0.toInt ∧ z2.toInt + p0.toInt ≤ 2147483647) (z4.toInt = z2.toInt + p0.toInt) := Imp.mk (fun hp => i_add ez4 rfl rfl hp)
  refine lv_istore_n (lv' := [(2, .int z4), (0, .ref (ad 0)), (1, .int p0)]) hx hb dX12_isThere_9 rfl hl (by decide) rfl (fun ls hl => ?_)
  refine lv_iload_n hx hb dX12_isThere_10 rfl (lv_at hl 2 rfl) ?_
  refine lv_if_lt (tgt := 68) hx hb dX12_isThere_11 (by decide) (fun c5 => ?_) (fun c5 => ?_)
  · skip
    have f6 : p0.toInt < 0 := b_lt rfl (by decide) c5
    refine lv_iconst (v := 0) hx hb dX12_isThere_68 (by decide) ?_
    exact W.zret (v := 0) hx hb hr rfl (fun t ht hW => ⟨⟨0, (), rfl, ⟨(by decide), (Imp.mk (fun hp => absurd hp (by decide)))⟩, by rw [ht]; exact hP, va_K.moved hW.alike hK, hD⟩, hS.F ht⟩) hS.2.2 dX12_isThere_69
  · skip
    have f7 : 0 ≤ p0.toInt := b_nlt rfl (by decide) c5
    refine lv_iload_n hx hb dX12_isThere_14 rfl (lv_at hl 2 rfl) ?_
    refine lv_aload_n hx hb dX12_isThere_15 rfl (lv_at hl 1 rfl) ?_
    refine va_get (D := D) (ci := 12) (v := .ref (ad 19)) (C := RX12) (T := TX12) (N := 100) hx hb hg inX12 hown hK hP 0 rfl rfl 19 (by decide) (hg _ w1725) (fun _ h9 => h9) rfl dX12_isThere_16 ?_
    refine lv_aload_n hx hb dX12_isThere_19 rfl (lv_at hl 1 rfl) ?_
    refine va_get (D := D) (ci := 12) (v := .int (V 0 11)) (C := RX12) (T := TX12) (N := 100) hx hb hg inX12 hown hK hP 0 rfl rfl 11 (by decide) (hg _ w1717) (fun _ h9 => h9) rfl dX12_isThere_20 ?_
    refine va_iald (D := D) (i := (V 0 11)) hx hb hK hP 12 11 rfl rfl (i_in (a := ((V 0 11)).toInt) rfl (by first | exact om_8367a84723c7 r1.1 r1.2 | first | omega | ((try (have i_hz4 := Imp.go hz4 (by omega))); omega))) dX12_isThere_23 ?_
    have r8 : 0 ≤ ((V 19 (Int32.toNatClampNeg (V 0 11)))).toInt ∧ ((V 19 (Int32.toNatClampNeg (V 0 11)))).toInt ≤ 24 := hMV 19 (Int32.toNatClampNeg (V 0 11))
    refine lv_icmp_ge (tgt := 68) hx hb dX12_isThere_24 (by decide) (fun c9 => ?_) (fun c9 => ?_)
    · skip
      have f10 : ((V 19 (Int32.toNatClampNeg (V 0 11)))).toInt ≤ p0.toInt := b_le rfl rfl c9
      refine lv_iconst (v := 0) hx hb dX12_isThere_68 (by decide) ?_
      exact W.zret (v := 0) hx hb hr rfl (fun t ht hW => ⟨⟨0, (), rfl, ⟨(by decide), (Imp.mk (fun hp => absurd hp (by decide)))⟩, by rw [ht]; exact hP, va_K.moved hW.alike hK, hD⟩, hS.F ht⟩) hS.2.2 dX12_isThere_69
    · skip
      have f11 : p0.toInt < ((V 19 (Int32.toNatClampNeg (V 0 11)))).toInt := b_nle rfl rfl c9
      refine lv_aload_n hx hb dX12_isThere_27 rfl (lv_at hl 1 rfl) ?_
      refine va_get (D := D) (ci := 12) (v := .ref (ad 25)) (C := RX12) (T := TX12) (N := 100) hx hb hg inX12 hown hK hP 0 rfl rfl 25 (by decide) (hg _ w1731) (fun _ h9 => h9) rfl dX12_isThere_28 ?_
      refine lv_iload_n hx hb dX12_isThere_31 rfl (lv_at hl 0 rfl) ?_
      refine va_iald (D := D) (i := z4) hx hb hK hP 18 17 rfl rfl (i_in (a := z4.toInt) rfl (by first | omega | ((try (have i_hz4 := Imp.go hz4 (by omega))); omega))) dX12_isThere_32 ?_
      have r12 : (-1) ≤ ((V 25 (Int32.toNatClampNeg z4))).toInt ∧ ((V 25 (Int32.toNatClampNeg z4))).toInt ≤ 11 := hMV 25 (Int32.toNatClampNeg z4)
      refine lv_if_lt (tgt := 64) hx hb dX12_isThere_33 (by decide) (fun c13 => ?_) (fun c13 => ?_)
      · skip
        have f14 : ((V 25 (Int32.toNatClampNeg z4))).toInt < 0 := b_lt rfl (by decide) c13
        refine lv_iconst (v := 1) hx hb dX12_isThere_64 (by decide) ?_
        refine lv_goto (tgt := 69) hx hb dX12_isThere_65 (by decide) ?_
        exact W.zret (v := 1) hx hb hr rfl (fun t ht hW => ⟨⟨1, (), rfl, ⟨(by decide), (Imp.mk (fun _ => (show 0 ≤ p0.toInt ∧ p0.toInt ≤ 23 from by first | exact om_ac7b8d4d9f10 f7 r8.2 f11 | first | omega | ((try (have i_hz4 := Imp.go hz4 (by omega))); omega))))⟩, by rw [ht]; exact hP, va_K.moved hW.alike hK, hD⟩, hS.F ht⟩) hS.2.2 dX12_isThere_69
      · skip
        have f15 : 0 ≤ ((V 25 (Int32.toNatClampNeg z4))).toInt := b_nlt rfl (by decide) c13
        refine lv_aload_n hx hb dX12_isThere_36 rfl (lv_at hl 1 rfl) ?_
        refine va_get (D := D) (ci := 12) (v := .ref (ad 18)) (C := RX12) (T := TX12) (N := 100) hx hb hg inX12 hown hK hP 0 rfl rfl 18 (by decide) (hg _ w1724) (fun _ h9 => h9) rfl dX12_isThere_37 ?_
        refine lv_bipush (v := 12) hx hb dX12_isThere_40 (by decide) ?_
        refine lv_aload_n hx hb dX12_isThere_42 rfl (lv_at hl 1 rfl) ?_
        refine va_get (D := D) (ci := 12) (v := .int (V 0 11)) (C := RX12) (T := TX12) (N := 100) hx hb hg inX12 hown hK hP 0 rfl rfl 11 (by decide) (hg _ w1717) (fun _ h9 => h9) rfl dX12_isThere_43 ?_
        refine lv_imul hx hb dX12_isThere_46 ?_
        refine lv_topi (fun z16 ez16 => ?_)
        have hz16 : z16.toInt = 12 * ((V 0 11)).toInt := i_mul ez16 (by decide) rfl (by (first | exact om_630bd6ee60c3 r1.1 r1.2 | omega))
        refine lv_aload_n hx hb dX12_isThere_47 rfl (lv_at hl 1 rfl) ?_
        refine va_get (D := D) (ci := 12) (v := .ref (ad 25)) (C := RX12) (T := TX12) (N := 100) hx hb hg inX12 hown hK hP 0 rfl rfl 25 (by decide) (hg _ w1731) (fun _ h9 => h9) rfl dX12_isThere_48 ?_
        refine lv_iload_n hx hb dX12_isThere_51 rfl (lv_at hl 0 rfl) ?_
        refine va_iald (D := D) (i := z4) hx hb hK hP 18 17 rfl rfl (i_in (a := z4.toInt) rfl (by first | omega | ((try (have i_hz4 := Imp.go hz4 (by omega))); omega))) dX12_isThere_52 ?_
        refine lv_iadd hx hb dX12_isThere_53 ?_
        refine lv_topi (fun z17 ez17 => ?_)
        have hz17 : z17.toInt = z16.toInt + ((V 25 (Int32.toNatClampNeg z4))).toInt := i_add ez17 rfl rfl (by (first | exact om_bb6d5a6aa1c4 r1.1 r1.2 r12.2 f15 hz16 | omega))
        refine va_iald (D := D) (i := z17) hx hb hK hP 11 10 rfl rfl (i_in (a := z17.toInt) rfl (by first | exact om_d783ef134178 r1.1 r1.2 r12.2 f15 hz16 hz17 | first | omega | ((try (have i_hz4 := Imp.go hz4 (by omega))); omega))) dX12_isThere_54 ?_
        refine lv_aload_n hx hb dX12_isThere_55 rfl (lv_at hl 1 rfl) ?_
        refine va_get (D := D) (ci := 12) (v := .ref (ad 26)) (C := RX12) (T := TX12) (N := 100) hx hb hg inX12 hown hK hP 0 rfl rfl 26 (by decide) (hg _ w1732) (fun _ h9 => h9) rfl dX12_isThere_56 ?_
        refine lv_iload_n hx hb dX12_isThere_59 rfl (lv_at hl 0 rfl) ?_
        refine va_iald (D := D) (i := z4) hx hb hK hP 19 18 rfl rfl (i_in (a := z4.toInt) rfl (by first | omega | ((try (have i_hz4 := Imp.go hz4 (by omega))); omega))) dX12_isThere_60 ?_
        refine lv_icmp_ne (tgt := 68) hx hb dX12_isThere_61 (by decide) (fun c18 => ?_) (fun c18 => ?_)
        · skip
          have f19 : ((V 18 (Int32.toNatClampNeg z17))).toInt ≠ ((V 26 (Int32.toNatClampNeg z4))).toInt := b_neq rfl rfl c18
          refine lv_iconst (v := 0) hx hb dX12_isThere_68 (by decide) ?_
          exact W.zret (v := 0) hx hb hr rfl (fun t ht hW => ⟨⟨0, (), rfl, ⟨(by decide), (Imp.mk (fun hp => absurd hp (by decide)))⟩, by rw [ht]; exact hP, va_K.moved hW.alike hK, hD⟩, hS.F ht⟩) hS.2.2 dX12_isThere_69
        · skip
          have f20 : ((V 18 (Int32.toNatClampNeg z17))).toInt = ((V 26 (Int32.toNatClampNeg z4))).toInt := b_eq rfl rfl c18
          refine lv_iconst (v := 1) hx hb dX12_isThere_64 (by decide) ?_
          refine lv_goto (tgt := 69) hx hb dX12_isThere_65 (by decide) ?_
          exact W.zret (v := 1) hx hb hr rfl (fun t ht hW => ⟨⟨1, (), rfl, ⟨(by decide), (Imp.mk (fun _ => (show 0 ≤ p0.toInt ∧ p0.toInt ≤ 23 from by first | exact om_ac7b8d4d9f10 f7 r8.2 f11 | first | omega | ((try (have i_hz4 := Imp.go hz4 (by omega))); omega))))⟩, by rw [ht]; exact hP, va_K.moved hW.alike hK, hD⟩, hS.F ht⟩) hS.2.2 dX12_isThere_69
abbrev r_s_placeOf : Room := { frames := 0, cells := 0, slots := 0, locals := 0 }
abbrev q_s_placeOf (D : va_G) (ks : KS) (ad : Nat → Nat) (kk : Nat → ClassId) (V : Vf) (L : Lf) (p0 : Int32) (p1 : Int32) (A : Nat → Prop) : Array Value → State → Outcome → State → Prop := va_Qi (fun (r : Int32) (_ : Unit) => ((-1) ≤ r.toInt ∧ r.toInt ≤ 39)) (fun _ t => gq D A (mw ad kk ks.1 V L) (mty kk) t) A
abbrev r_s_objectAt : Room := { frames := 0, cells := 0, slots := 0, locals := 0 }
abbrev q_s_objectAt (D : va_G) (ks : KS) (ad : Nat → Nat) (kk : Nat → ClassId) (V : Vf) (L : Lf) (p0 : Int32) (p1 : Int32) (A : Nat → Prop) : Array Value → State → Outcome → State → Prop := va_Qi (fun (r : Int32) (_ : Unit) => ((-1) ≤ r.toInt ∧ r.toInt ≤ 299) ∧ (r.toInt < (V 0 60).toInt)) (fun _ t => gq D A (mw ad kk ks.1 V L) (mty kk) t) A
abbrev r_s_latestIn : Room := { frames := 0, cells := 0, slots := 0, locals := 0 }
abbrev q_s_latestIn (D : va_G) (ks : KS) (ad : Nat → Nat) (kk : Nat → ClassId) (V : Vf) (L : Lf) (p0 : Int32) (A : Nat → Prop) : Array Value → State → Outcome → State → Prop := va_Qi (fun (r : Int32) (_ : Unit) => ((-1) ≤ r.toInt ∧ r.toInt ≤ 299) ∧ (r.toInt < (V 0 60).toInt)) (fun _ t => gq D A (mw ad kk ks.1 V L) (mty kk) t) A
abbrev r_s_isScope : Room := { frames := 0, cells := 0, slots := 0, locals := 0 }
abbrev q_s_isScope (D : va_G) (ks : KS) (ad : Nat → Nat) (kk : Nat → ClassId) (V : Vf) (L : Lf) (p0 : Int32) (A : Nat → Prop) : Array Value → State → Outcome → State → Prop := va_Qi (fun (r : Int32) (_ : Unit) => (0 ≤ r.toInt ∧ r.toInt ≤ 1) ∧ (Imp (r.toInt = 1) (0 ≤ p0.toInt ∧ p0.toInt < (V 0 55).toInt))) (fun _ t => gq D A (mw ad kk ks.1 V L) (mty kk) t) A
abbrev r_s_setting : Room := { frames := 0, cells := 0, slots := 0, locals := 0 }
abbrev q_s_setting (D : va_G) (ks : KS) (ad : Nat → Nat) (kk : Nat → ClassId) (V : Vf) (L : Lf) (p0 : Int32) (p1 : Int32) (A : Nat → Prop) : Array Value → State → Outcome → State → Prop := va_Qi (fun (r : Int32) (u : Vf × Lf) => rgd bM u.1 ∧ agr [(0, 0)] [18] V u.1 ∧ u.2 = L ∧ (0 ≤ r.toInt ∧ r.toInt ≤ 1)) (fun u t => gq D A (mw ad kk ks.1 u.1 u.2) (mty kk) t) A
abbrev r_s_scope : Room := { frames := 0, cells := 0, slots := 0, locals := 0 }
abbrev q_s_scope (D : va_G) (ks : KS) (ad : Nat → Nat) (kk : Nat → ClassId) (V : Vf) (L : Lf) (p0 : Int32) (p1 : Int32) (A : Nat → Prop) : Array Value → State → Outcome → State → Prop := va_Qi (fun (r : Int32) (u : Vf × Lf) => rgd bM u.1 ∧ agr [(0, 55)] [56, 57, 58, 59] V u.1 ∧ u.2 = L ∧ ((-1) ≤ r.toInt ∧ r.toInt ≤ 39)) (fun u t => gq D A (mw ad kk ks.1 u.1 u.2) (mty kk) t) A
abbrev r_s_day : Room := { frames := 1, cells := 0, slots := 0, locals := 23 }
abbrev q_s_day (D : va_G) (ks : KS) (ad : Nat → Nat) (kk : Nat → ClassId) (V : Vf) (L : Lf) (A : Nat → Prop) : Array Value → State → Outcome → State → Prop := va_Qi (fun (r : Int32) (u : Vf × Lf) => rgd bM u.1 ∧ agr [(0, 0), (0, 55)] [56, 57, 58, 59] V u.1 ∧ u.2 = L) (fun u t => gq D A (mw ad kk ks.1 u.1 u.2) (mty kk) t) A
abbrev r_s_meal : Room := { frames := 1, cells := 0, slots := 0, locals := 23 }
abbrev q_s_meal (D : va_G) (ks : KS) (ad : Nat → Nat) (kk : Nat → ClassId) (V : Vf) (L : Lf) (p0 : Int32) (A : Nat → Prop) : Array Value → State → Outcome → State → Prop := va_Qi (fun (r : Int32) (u : Vf × Lf) => rgd bM u.1 ∧ agr [(0, 0), (0, 55)] [56, 57, 58, 59] V u.1 ∧ u.2 = L) (fun u t => gq D A (mw ad kk ks.1 u.1 u.2) (mty kk) t) A
abbrev r_s_begins0 : Room := { frames := 0, cells := 0, slots := 0, locals := 0 }
abbrev q_s_begins0 (D : va_G) (ks : KS) (ad : Nat → Nat) (kk : Nat → ClassId) (V : Vf) (L : Lf) (A : Nat → Prop) : Array Value → State → Outcome → State → Prop := va_Qv (fun (u : Vf × Lf) => rgd bM u.1 ∧ agr [(0, 69), (0, 71), (0, 72), (0, 93), (0, 95), (0, 98)] [] V u.1 ∧ u.2 = L) (fun u t => gq D A (mw ad kk ks.1 u.1 u.2) (mty kk) t) A
abbrev r_s_ends : Room := { frames := 0, cells := 0, slots := 0, locals := 0 }
abbrev q_s_ends (D : va_G) (ks : KS) (ad : Nat → Nat) (kk : Nat → ClassId) (V : Vf) (L : Lf) (p0 : Int32) (A : Nat → Prop) : Array Value → State → Outcome → State → Prop := va_Qi (fun (r : Int32) (u : Vf × Lf) => rgd bM u.1 ∧ agr [(0, 70), (0, 71), (0, 72)] [] V u.1 ∧ u.2 = L ∧ (0 ≤ r.toInt ∧ r.toInt ≤ 1)) (fun u t => gq D A (mw ad kk ks.1 u.1 u.2) (mty kk) t) A
abbrev r_s_addFault : Room := { frames := 0, cells := 0, slots := 0, locals := 0 }
abbrev q_s_addFault (D : va_G) (ks : KS) (ad : Nat → Nat) (kk : Nat → ClassId) (V : Vf) (L : Lf) (p0 : Int32) (p1 : Int32) (p2 : Int32) (A : Nat → Prop) : Array Value → State → Outcome → State → Prop := va_Qv (fun (u : Vf × Lf) => rgd bM u.1 ∧ agr [(0, 81)] [82, 83, 84] V u.1 ∧ u.2 = L ∧ ((u.1 0 81).toInt = (V 0 81).toInt + 1)) (fun u t => gq D A (mw ad kk ks.1 u.1 u.2) (mty kk) t) A
set_option maxHeartbeats 4000000 in
set_option maxRecDepth 100000 in
theorem s_addFault (l : Launch) (D : va_G) (ks : KS) (sz : Nat) (ad : Nat → Nat) (kk : Nat → ClassId) (V : Vf) (L : Lf) (p0 : Int32) (p1 : Int32) (p2 : Int32) (hMV : rgd bM V) (rg_p2 : 0 ≤ p2.toInt ∧ p2.toInt ≤ 24) (y1 : (V 0 81).toInt ≤ 999999)  : Met l yX12_addFault (Cond.code yX12_addFault cX12_addFault 4 none :: GW) r_s_addFault (va_Pc [.ref (ad 0), .int p0, .int p1, .int p2] (gp D ks (mw ad kk ks.1 V L) (mty kk) sz)) (q_s_addFault D ks ad kk V L p0 p1 p2 (va_A (mw ad kk ks.1 V L) sz)) 0 0 (va_A (mw ad kk ks.1 V L) sz) := by
  refine g_met (q_s_addFault D ks ad kk V L p0 p1 p2) (by decide) (Nat.le_of_ble_eq_true rfl) ?_
  intro p e s m below meth c A ls H locs hx hb hr hml hown hg hlocks hin hnw hgk hP hK hD hS hA hl
  replace hown : s.vm.findClass RX12 = some m.cls := hown
  replace hl : lv_has ls 4 [(0, .ref (ad 0)), (1, .int p0), (2, .int p1), (3, .int p2)] := hl
  replace hP : va_P D vwCl (mw ad kk ks.1 V L) H := hP
  replace hD : va_D A (mw ad kk ks.1 V L) := hD
  replace hK : va_K D vwCl (mty kk) s := hK
  have agV : agr [(0, 81)] [82, 83, 84] V V := agr.rf
  have r1 : 0 ≤ ((V 0 81)).toInt ∧ ((V 0 81)).toInt ≤ 1000000 := hMV 0 81
  refine lv_aload_n hx hb dX12_addFault_0 rfl (lv_at hl 0 rfl) ?_
  refine va_get (D := D) (ci := 12) (v := .int (V 0 81)) (C := RX12) (T := TX12) (N := 100) hx hb hg inX12 hown hK hP 0 rfl rfl 81 (by decide) (hg _ w1787) (fun _ h9 => h9) rfl dX12_addFault_1 ?_
  refine lv_bipush (v := 100) hx hb dX12_addFault_4 (by decide) ?_
  have J2 : ∀ (V3 : Vf) (H : Heap) (locs : List Loc) (ls : Array Slot), agr [] [82, 83, 84] V V3 → rgd bM V3 → va_P D vwCl (mw ad kk ks.1 V3 L) H → va_D A (mw ad kk ks.1 V3 L) → va_S A s.heap H locs → lv_has ls 4 [(0, .ref (ad 0)), (1, .int p0), (2, .int p1), (3, .int p2)] → W p l e r_s_addFault s m ([.ref (ad 0), .int p0, .int p1, .int p2] : List Value).toArray below meth c H locs 0 0 (MQ below (q_s_addFault D ks ad kk V L p0 p1 p2 A) ([.ref (ad 0), .int p0, .int p1, .int p2] : List Value).toArray s 0 0 A) (F0 m 39 ls []) := by
    intro V3 H locs ls ajV3 hMV3 hP hD hS hl
    have agV3 : agr [(0, 81)] [82, 83, 84] V V3 := agV.tr ajV3 (by decide) (by decide)
    refine lv_aload_n hx hb dX12_addFault_39 rfl (lv_at hl 0 rfl) ?_
    refine lv_dup hx hb dX12_addFault_40 rfl ?_
    refine va_get (D := D) (ci := 12) (v := .int (V3 0 81)) (C := RX12) (T := TX12) (N := 100) hx hb hg inX12 hown hK hP 0 rfl rfl 81 (by decide) (hg _ w1787) (fun _ h9 => h9) rfl dX12_addFault_41 ?_
    refine g_top (v := (V 0 81)) (ajV3 0 81 rfl) ?_
    refine lv_iconst (v := 1) hx hb dX12_addFault_44 (by decide) ?_
    refine lv_iadd hx hb dX12_addFault_45 ?_
    refine lv_topi (fun z4 ez4 => ?_)
    have hz4 : z4.toInt = ((V 0 81)).toInt + 1 := i_add ez4 rfl (by decide) (by (first | exact om_6b8d59fe9db4 y1 r1.1 | omega))
    refine va_put (D := D) (ci := 12) (v := .int z4) (ty := tyX12 81) (C := RX12) (T := TX12) (N := 100) hx hb hg inX12 tyX12 tyX12_ok nmX12 hown hK hP hD hS 0 rfl rfl 81 (by decide) (hg _ w1787) (fun _ h9 => h9) rfl (tyX12_ok 81 (by decide)) rfl rfl (Nat.le_of_ble_eq_true rfl) dX12_addFault_46 (fun H locs hP hD hS => ?_)
    obtain ⟨V5, hV5⟩ : ∃ z, z = up2 V3 0 81 z4 := ⟨_, rfl⟩
    have hP : va_P D vwCl (mw ad kk ks.1 V5 L) H := by rw [hV5]; exact hP
    have hD : va_D A (mw ad kk ks.1 V5 L) := by rw [hV5]; exact hD
    have hMV5 : rgd bM V5 := hMV3.put hV5 (show 0 ≤ z4.toInt ∧ z4.toInt ≤ 1000000 from by (first | exact om_152c1e5d2fc6 y1 r1.1 hz4 | omega))
    have agV5 : agr [(0, 81)] [82, 83, 84] V V5 := agV3.up hV5 rfl
    have pq6 : (V5 0 81).toInt = z4.toInt := congrArg Int32.toInt (up2_s hV5)
    exact W.vret hx hb hr (fun t ht hW => ⟨⟨(V5, L), rfl, ⟨hMV5, agV5, rfl, (show (V5 0 81).toInt = (V 0 81).toInt + 1 from by (first | exact om_689eeacb6d53 hz4 pq6 | omega))⟩, by rw [ht]; exact hP, va_K.moved hW.alike hK, hD⟩, hS.F ht⟩) hS.2.2 dX12_addFault_49
  refine lv_icmp_ge (tgt := 39) hx hb dX12_addFault_6 (by decide) (fun c7 => ?_) (fun c7 => ?_)
  · skip
    have f8 : 100 ≤ ((V 0 81)).toInt := b_le (by decide) rfl c7
    exact J2 V H locs ls agr.rf hMV hP hD hS (lv_sub hl [0, 1, 2, 3] rfl)
  · skip
    have f9 : ((V 0 81)).toInt < 100 := b_nle (by decide) rfl c7
    refine lv_aload_n hx hb dX12_addFault_9 rfl (lv_at hl 0 rfl) ?_
    refine va_get (D := D) (ci := 12) (v := .ref (ad 82)) (C := RX12) (T := TX12) (N := 100) hx hb hg inX12 hown hK hP 0 rfl rfl 82 (by decide) (hg _ w1788) (fun _ h9 => h9) rfl dX12_addFault_10 ?_
    refine lv_aload_n hx hb dX12_addFault_13 rfl (lv_at hl 0 rfl) ?_
    refine va_get (D := D) (ci := 12) (v := .int (V 0 81)) (C := RX12) (T := TX12) (N := 100) hx hb hg inX12 hown hK hP 0 rfl rfl 81 (by decide) (hg _ w1787) (fun _ h9 => h9) rfl dX12_addFault_14 ?_
    refine lv_iload_n hx hb dX12_addFault_17 rfl (lv_at hl 1 rfl) ?_
    refine va_iast (D := D) (i := (V 0 81)) (x := p0) hx hb hK hP hD hS 58 57 rfl rfl (i_in (a := ((V 0 81)).toInt) rfl (by (first | exact om_84fa328245f5 r1.1 f9 | omega))) dX12_addFault_18 (fun H locs hP hD hS => ?_)
    obtain ⟨V10, hV10⟩ : ∃ z, z = up2 V 82 (Int32.toNatClampNeg (V 0 81)) p0 := ⟨_, rfl⟩
    have hP : va_P D vwCl (mw ad kk ks.1 V10 L) H := by rw [hV10]; exact hP
    have hD : va_D A (mw ad kk ks.1 V10 L) := by rw [hV10]; exact hD
    have hMV10 : rgd bM V10 := hMV.put hV10 (i_full _)
    have agV10 : agr [(0, 81)] [82, 83, 84] V V10 := agV.up hV10 rfl
    refine lv_aload_n hx hb dX12_addFault_19 rfl (lv_at hl 0 rfl) ?_
    refine va_get (D := D) (ci := 12) (v := .ref (ad 83)) (C := RX12) (T := TX12) (N := 100) hx hb hg inX12 hown hK hP 0 rfl rfl 83 (by decide) (hg _ w1789) (fun _ h9 => h9) rfl dX12_addFault_20 ?_
    refine lv_aload_n hx hb dX12_addFault_23 rfl (lv_at hl 0 rfl) ?_
    refine va_get (D := D) (ci := 12) (v := .int (V10 0 81)) (C := RX12) (T := TX12) (N := 100) hx hb hg inX12 hown hK hP 0 rfl rfl 81 (by decide) (hg _ w1787) (fun _ h9 => h9) rfl dX12_addFault_24 ?_
    refine g_top (v := (V 0 81)) (up2_o hV10 (by decide)) ?_
    refine lv_iload_n hx hb dX12_addFault_27 rfl (lv_at hl 2 rfl) ?_
    refine va_iast (D := D) (i := (V 0 81)) (x := p1) hx hb hK hP hD hS 59 58 rfl rfl (i_in (a := ((V 0 81)).toInt) rfl (by (first | exact om_84fa328245f5 r1.1 f9 | omega))) dX12_addFault_28 (fun H locs hP hD hS => ?_)
    obtain ⟨V11, hV11⟩ : ∃ z, z = up2 V10 83 (Int32.toNatClampNeg (V 0 81)) p1 := ⟨_, rfl⟩
    have hP : va_P D vwCl (mw ad kk ks.1 V11 L) H := by rw [hV11]; exact hP
    have hD : va_D A (mw ad kk ks.1 V11 L) := by rw [hV11]; exact hD
    have hMV11 : rgd bM V11 := hMV10.put hV11 (i_full _)
    have agV11 : agr [(0, 81)] [82, 83, 84] V V11 := agV10.up hV11 rfl
    refine lv_aload_n hx hb dX12_addFault_29 rfl (lv_at hl 0 rfl) ?_
    refine va_get (D := D) (ci := 12) (v := .ref (ad 84)) (C := RX12) (T := TX12) (N := 100) hx hb hg inX12 hown hK hP 0 rfl rfl 84 (by decide) (hg _ w1790) (fun _ h9 => h9) rfl dX12_addFault_30 ?_
    refine lv_aload_n hx hb dX12_addFault_33 rfl (lv_at hl 0 rfl) ?_
    refine va_get (D := D) (ci := 12) (v := .int (V11 0 81)) (C := RX12) (T := TX12) (N := 100) hx hb hg inX12 hown hK hP 0 rfl rfl 81 (by decide) (hg _ w1787) (fun _ h9 => h9) rfl dX12_addFault_34 ?_
    refine g_top (v := (V 0 81)) ((up2_o hV11 (by decide)).trans (up2_o hV10 (by decide))) ?_
    refine lv_iload_n hx hb dX12_addFault_37 rfl (lv_at hl 3 rfl) ?_
    refine va_iast (D := D) (i := (V 0 81)) (x := p2) hx hb hK hP hD hS 60 59 rfl rfl (i_in (a := ((V 0 81)).toInt) rfl (by (first | exact om_84fa328245f5 r1.1 f9 | omega))) dX12_addFault_38 (fun H locs hP hD hS => ?_)
    obtain ⟨V12, hV12⟩ : ∃ z, z = up2 V11 84 (Int32.toNatClampNeg (V 0 81)) p2 := ⟨_, rfl⟩
    have hP : va_P D vwCl (mw ad kk ks.1 V12 L) H := by rw [hV12]; exact hP
    have hD : va_D A (mw ad kk ks.1 V12 L) := by rw [hV12]; exact hD
    have hMV12 : rgd bM V12 := hMV11.put hV12 (show (-1) ≤ p2.toInt ∧ p2.toInt ≤ 24 from by (first | exact om_63ce7e8c4c16 rg_p2.1 rg_p2.2 | omega))
    have agV12 : agr [(0, 81)] [82, 83, 84] V V12 := agV11.up hV12 rfl
    exact J2 V12 H locs ls (agr.up (agr.up (agr.up agr.rf hV10 rfl) hV11 rfl) hV12 rfl) hMV12 hP hD hS (lv_sub hl [0, 1, 2, 3] rfl)
abbrev r_s_fault : Room := { frames := 0, cells := 0, slots := 0, locals := 0 }
abbrev q_s_fault (D : va_G) (ks : KS) (ad : Nat → Nat) (kk : Nat → ClassId) (V : Vf) (L : Lf) (p0 : Int32) (p1 : Int32) (A : Nat → Prop) : Array Value → State → Outcome → State → Prop := va_Qi (fun (r : Int32) (u : Vf × Lf) => rgd bM u.1 ∧ agr [(0, 0)] [] V u.1 ∧ u.2 = L) (fun u t => gq D A (mw ad kk ks.1 u.1 u.2) (mty kk) t) A
abbrev r_s_cycle : Room := { frames := 0, cells := 0, slots := 0, locals := 0 }
abbrev q_s_cycle (D : va_G) (ks : KS) (ad : Nat → Nat) (kk : Nat → ClassId) (V : Vf) (L : Lf) (p0 : Int32) (p1 : Int32) (A : Nat → Prop) : Array Value → State → Outcome → State → Prop := va_Qi (fun (r : Int32) (u : Vf × Lf) => rgd bM u.1 ∧ agr [(0, 0)] [] V u.1 ∧ u.2 = L) (fun u t => gq D A (mw ad kk ks.1 u.1 u.2) (mty kk) t) A
abbrev r_s_closed : Room := { frames := 0, cells := 0, slots := 0, locals := 0 }
abbrev q_s_closed (D : va_G) (ks : KS) (ad : Nat → Nat) (kk : Nat → ClassId) (V : Vf) (L : Lf) (p0 : Int32) (p1 : Int32) (A : Nat → Prop) : Array Value → State → Outcome → State → Prop := va_Qi (fun (r : Int32) (u : Vf × Lf) => rgd bM u.1 ∧ agr [(0, 0)] [] V u.1 ∧ u.2 = L) (fun u t => gq D A (mw ad kk ks.1 u.1 u.2) (mty kk) t) A
abbrev r_s_did : Room := { frames := 0, cells := 0, slots := 0, locals := 0 }
abbrev q_s_did (D : va_G) (ks : KS) (ad : Nat → Nat) (kk : Nat → ClassId) (V : Vf) (L : Lf) (p0 : Int32) (p1 : Int32) (A : Nat → Prop) : Array Value → State → Outcome → State → Prop := va_Qi (fun (r : Int32) (u : Vf × Lf) => rgd bM u.1 ∧ agr [(0, 0)] [] V u.1 ∧ u.2 = L) (fun u t => gq D A (mw ad kk ks.1 u.1 u.2) (mty kk) t) A
set_option maxHeartbeats 4000000 in
set_option maxRecDepth 100000 in
theorem s_did (l : Launch) (D : va_G) (ks : KS) (sz : Nat) (ad : Nat → Nat) (kk : Nat → ClassId) (V : Vf) (L : Lf) (p0 : Int32) (p1 : Int32) (hMV : rgd bM V)  : Met l yX12_did (Cond.code yX12_did cX12_did 3 (some .int) :: GW) r_s_did (va_Pc [.ref (ad 0), .int p0, .int p1] (gp D ks (mw ad kk ks.1 V L) (mty kk) sz)) (q_s_did D ks ad kk V L p0 p1 (va_A (mw ad kk ks.1 V L) sz)) 0 0 (va_A (mw ad kk ks.1 V L) sz) := by
  refine g_met (q_s_did D ks ad kk V L p0 p1) (by decide) (Nat.le_of_ble_eq_true rfl) ?_
  intro p e s m below meth c A ls H locs hx hb hr hml hown hg hlocks hin hnw hgk hP hK hD hS hA hl
  replace hown : s.vm.findClass RX12 = some m.cls := hown
  replace hl : lv_has ls 3 [(0, .ref (ad 0)), (1, .int p0), (2, .int p1)] := hl
  replace hP : va_P D vwCl (mw ad kk ks.1 V L) H := hP
  replace hD : va_D A (mw ad kk ks.1 V L) := hD
  replace hK : va_K D vwCl (mty kk) s := hK
  have agV : agr [(0, 0)] [] V V := agr.rf
  refine lv_aload_n hx hb dX12_did_0 rfl (lv_at hl 0 rfl) ?_
  refine lv_iconst (v := 0) hx hb dX12_did_1 (by decide) ?_
  refine va_put (D := D) (ci := 12) (v := .int 0) (ty := tyX12 0) (C := RX12) (T := TX12) (N := 100) hx hb hg inX12 tyX12 tyX12_ok nmX12 hown hK hP hD hS 0 rfl rfl 0 (by decide) (hg _ w1706) (fun _ h9 => h9) rfl (tyX12_ok 0 (by decide)) rfl rfl (Nat.le_of_ble_eq_true rfl) dX12_did_2 (fun H locs hP hD hS => ?_)
  obtain ⟨V1, hV1⟩ : ∃ z, z = up2 V 0 0 0 := ⟨_, rfl⟩
  have hP : va_P D vwCl (mw ad kk ks.1 V1 L) H := by rw [hV1]; exact hP
  have hD : va_D A (mw ad kk ks.1 V1 L) := by rw [hV1]; exact hD
  have hMV1 : rgd bM V1 := hMV.put hV1 (i_full _)
  have agV1 : agr [(0, 0)] [] V V1 := agV.up hV1 rfl
  refine lv_iload_n hx hb dX12_did_5 rfl (lv_at hl 1 rfl) ?_
  refine lv_if_lt (tgt := 23) hx hb dX12_did_6 (by decide) (fun c2 => ?_) (fun c2 => ?_)
  · skip
    have f3 : p0.toInt < 0 := b_lt rfl (by decide) c2
    refine lv_iconst (v := (-1)) hx hb dX12_did_23 (by decide) ?_
    exact W.iret (v := (-1)) hx hb hr (fun t ht hW => ⟨⟨(-1), (V1, L), rfl, ⟨hMV1, agV1, rfl⟩, by rw [ht]; exact hP, va_K.moved hW.alike hK, hD⟩, hS.F ht⟩) hS.2.2 dX12_did_24
  · skip
    have f4 : 0 ≤ p0.toInt := b_nlt rfl (by decide) c2
    refine lv_iload_n hx hb dX12_did_9 rfl (lv_at hl 1 rfl) ?_
    refine lv_aload_n hx hb dX12_did_10 rfl (lv_at hl 0 rfl) ?_
    refine va_get (D := D) (ci := 12) (v := .int (V1 0 76)) (C := RX12) (T := TX12) (N := 100) hx hb hg inX12 hown hK hP 0 rfl rfl 76 (by decide) (hg _ w1782) (fun _ h9 => h9) rfl dX12_did_11 ?_
    refine g_top (v := (V 0 76)) (up2_k hV1 (by decide)) ?_
    have r5 : 0 ≤ ((V 0 76)).toInt ∧ ((V 0 76)).toInt ≤ 2000000000 := hMV 0 76
    refine lv_icmp_ge (tgt := 23) hx hb dX12_did_14 (by decide) (fun c6 => ?_) (fun c6 => ?_)
    · skip
      have f7 : ((V 0 76)).toInt ≤ p0.toInt := b_le rfl rfl c6
      refine lv_iconst (v := (-1)) hx hb dX12_did_23 (by decide) ?_
      exact W.iret (v := (-1)) hx hb hr (fun t ht hW => ⟨⟨(-1), (V1, L), rfl, ⟨hMV1, agV1, rfl⟩, by rw [ht]; exact hP, va_K.moved hW.alike hK, hD⟩, hS.F ht⟩) hS.2.2 dX12_did_24
    · skip
      have f8 : p0.toInt < ((V 0 76)).toInt := b_nle rfl rfl c6
      refine lv_iload_n hx hb dX12_did_17 rfl (lv_at hl 1 rfl) ?_
      refine lv_bipush (v := 100) hx hb dX12_did_18 (by decide) ?_
      refine lv_icmp_lt (tgt := 25) hx hb dX12_did_20 (by decide) (fun c9 => ?_) (fun c9 => ?_)
      · skip
        have f10 : p0.toInt < 100 := b_lt rfl (by decide) c9
        refine lv_iload_n hx hb dX12_did_25 rfl (lv_at hl 2 rfl) ?_
        refine lv_if_ne (tgt := 38) hx hb dX12_did_26 (by decide) (fun c11 => ?_) (fun c11 => ?_)
        · skip
          have f12 : p1.toInt ≠ 0 := b_neq rfl (by decide) c11
          refine lv_iload_n hx hb dX12_did_38 rfl (lv_at hl 2 rfl) ?_
          refine lv_iconst (v := 1) hx hb dX12_did_39 (by decide) ?_
          refine lv_icmp_ne (tgt := 52) hx hb dX12_did_40 (by decide) (fun c13 => ?_) (fun c13 => ?_)
          · skip
            have f14 : p1.toInt ≠ 1 := b_neq rfl (by decide) c13
            refine lv_iload_n hx hb dX12_did_52 rfl (lv_at hl 2 rfl) ?_
            refine lv_iconst (v := 2) hx hb dX12_did_53 (by decide) ?_
            refine lv_icmp_ne (tgt := 66) hx hb dX12_did_54 (by decide) (fun c15 => ?_) (fun c15 => ?_)
            · skip
              have f16 : p1.toInt ≠ 2 := b_neq rfl (by decide) c15
              refine lv_iconst (v := (-1)) hx hb dX12_did_66 (by decide) ?_
              exact W.iret (v := (-1)) hx hb hr (fun t ht hW => ⟨⟨(-1), (V1, L), rfl, ⟨hMV1, agV1, rfl⟩, by rw [ht]; exact hP, va_K.moved hW.alike hK, hD⟩, hS.F ht⟩) hS.2.2 dX12_did_67
            · skip
              have f17 : p1.toInt = 2 := b_eq rfl (by decide) c15
              refine lv_aload_n hx hb dX12_did_57 rfl (lv_at hl 0 rfl) ?_
              refine va_get (D := D) (ci := 12) (v := .ref (ad 79)) (C := RX12) (T := TX12) (N := 100) hx hb hg inX12 hown hK hP 0 rfl rfl 79 (by decide) (hg _ w1785) (fun _ h9 => h9) rfl dX12_did_58 ?_
              refine lv_iload_n hx hb dX12_did_61 rfl (lv_at hl 1 rfl) ?_
              refine va_iald (D := D) (i := p0) hx hb hK hP 56 55 rfl rfl (i_in (a := p0.toInt) rfl (by (first | exact om_84fa328245f5 f4 f10 | omega))) dX12_did_62 ?_
              refine g_top (v := (V 79 (Int32.toNatClampNeg p0))) (up2_o hV1 (by decide)) ?_
              refine lv_goto (tgt := 67) hx hb dX12_did_63 (by decide) ?_
              exact W.iret (v := (V 79 (Int32.toNatClampNeg p0))) hx hb hr (fun t ht hW => ⟨⟨(V 79 (Int32.toNatClampNeg p0)), (V1, L), rfl, ⟨hMV1, agV1, rfl⟩, by rw [ht]; exact hP, va_K.moved hW.alike hK, hD⟩, hS.F ht⟩) hS.2.2 dX12_did_67
          · skip
            have f18 : p1.toInt = 1 := b_eq rfl (by decide) c13
            refine lv_aload_n hx hb dX12_did_43 rfl (lv_at hl 0 rfl) ?_
            refine va_get (D := D) (ci := 12) (v := .ref (ad 78)) (C := RX12) (T := TX12) (N := 100) hx hb hg inX12 hown hK hP 0 rfl rfl 78 (by decide) (hg _ w1784) (fun _ h9 => h9) rfl dX12_did_44 ?_
            refine lv_iload_n hx hb dX12_did_47 rfl (lv_at hl 1 rfl) ?_
            refine va_iald (D := D) (i := p0) hx hb hK hP 55 54 rfl rfl (i_in (a := p0.toInt) rfl (by (first | exact om_84fa328245f5 f4 f10 | omega))) dX12_did_48 ?_
            refine g_top (v := (V 78 (Int32.toNatClampNeg p0))) (up2_o hV1 (by decide)) ?_
            refine lv_goto (tgt := 67) hx hb dX12_did_49 (by decide) ?_
            exact W.iret (v := (V 78 (Int32.toNatClampNeg p0))) hx hb hr (fun t ht hW => ⟨⟨(V 78 (Int32.toNatClampNeg p0)), (V1, L), rfl, ⟨hMV1, agV1, rfl⟩, by rw [ht]; exact hP, va_K.moved hW.alike hK, hD⟩, hS.F ht⟩) hS.2.2 dX12_did_67
        · skip
          have f19 : p1.toInt = 0 := b_eq rfl (by decide) c11
          refine lv_aload_n hx hb dX12_did_29 rfl (lv_at hl 0 rfl) ?_
          refine va_get (D := D) (ci := 12) (v := .ref (ad 77)) (C := RX12) (T := TX12) (N := 100) hx hb hg inX12 hown hK hP 0 rfl rfl 77 (by decide) (hg _ w1783) (fun _ h9 => h9) rfl dX12_did_30 ?_
          refine lv_iload_n hx hb dX12_did_33 rfl (lv_at hl 1 rfl) ?_
          refine va_iald (D := D) (i := p0) hx hb hK hP 54 53 rfl rfl (i_in (a := p0.toInt) rfl (by (first | exact om_84fa328245f5 f4 f10 | omega))) dX12_did_34 ?_
          refine g_top (v := (V 77 (Int32.toNatClampNeg p0))) (up2_o hV1 (by decide)) ?_
          refine lv_goto (tgt := 67) hx hb dX12_did_35 (by decide) ?_
          exact W.iret (v := (V 77 (Int32.toNatClampNeg p0))) hx hb hr (fun t ht hW => ⟨⟨(V 77 (Int32.toNatClampNeg p0)), (V1, L), rfl, ⟨hMV1, agV1, rfl⟩, by rw [ht]; exact hP, va_K.moved hW.alike hK, hD⟩, hS.F ht⟩) hS.2.2 dX12_did_67
      · skip
        have f20 : 100 ≤ p0.toInt := b_nlt rfl (by decide) c9
        refine lv_iconst (v := (-1)) hx hb dX12_did_23 (by decide) ?_
        exact W.iret (v := (-1)) hx hb hr (fun t ht hW => ⟨⟨(-1), (V1, L), rfl, ⟨hMV1, agV1, rfl⟩, by rw [ht]; exact hP, va_K.moved hW.alike hK, hD⟩, hS.F ht⟩) hS.2.2 dX12_did_24
abbrev r_s_object : Room := { frames := 0, cells := 0, slots := 0, locals := 0 }
abbrev q_s_object (D : va_G) (ks : KS) (ad : Nat → Nat) (kk : Nat → ClassId) (V : Vf) (L : Lf) (p0 : Int32) (p1 : Int32) (A : Nat → Prop) : Array Value → State → Outcome → State → Prop := va_Qi (fun (r : Int32) (u : Vf × Lf) => rgd bM u.1 ∧ agr [(0, 0)] [] V u.1 ∧ u.2 = L) (fun u t => gq D A (mw ad kk ks.1 u.1 u.2) (mty kk) t) A
set_option maxHeartbeats 4000000 in
set_option maxRecDepth 100000 in
theorem s_object (l : Launch) (D : va_G) (ks : KS) (sz : Nat) (ad : Nat → Nat) (kk : Nat → ClassId) (V : Vf) (L : Lf) (p0 : Int32) (p1 : Int32) (hMV : rgd bM V)  : Met l yX12_object (Cond.code yX12_object cX12_object 3 (some .int) :: GW) r_s_object (va_Pc [.ref (ad 0), .int p0, .int p1] (gp D ks (mw ad kk ks.1 V L) (mty kk) sz)) (q_s_object D ks ad kk V L p0 p1 (va_A (mw ad kk ks.1 V L) sz)) 0 0 (va_A (mw ad kk ks.1 V L) sz) := by
  refine g_met (q_s_object D ks ad kk V L p0 p1) (by decide) (Nat.le_of_ble_eq_true rfl) ?_
  intro p e s m below meth c A ls H locs hx hb hr hml hown hg hlocks hin hnw hgk hP hK hD hS hA hl
  replace hown : s.vm.findClass RX12 = some m.cls := hown
  replace hl : lv_has ls 3 [(0, .ref (ad 0)), (1, .int p0), (2, .int p1)] := hl
  replace hP : va_P D vwCl (mw ad kk ks.1 V L) H := hP
  replace hD : va_D A (mw ad kk ks.1 V L) := hD
  replace hK : va_K D vwCl (mty kk) s := hK
  have agV : agr [(0, 0)] [] V V := agr.rf
  refine lv_aload_n hx hb dX12_object_0 rfl (lv_at hl 0 rfl) ?_
  refine lv_iload_n hx hb dX12_object_1 rfl (lv_at hl 1 rfl) ?_
  refine lv_if_lt (tgt := 26) hx hb dX12_object_2 (by decide) (fun c1 => ?_) (fun c1 => ?_)
  · skip
    have f2 : p0.toInt < 0 := b_lt rfl (by decide) c1
    refine lv_iconst (v := 1) hx hb dX12_object_26 (by decide) ?_
    refine va_put (D := D) (ci := 12) (v := .int 1) (ty := tyX12 0) (C := RX12) (T := TX12) (N := 100) hx hb hg inX12 tyX12 tyX12_ok nmX12 hown hK hP hD hS 0 rfl rfl 0 (by decide) (hg _ w1706) (fun _ h9 => h9) rfl (tyX12_ok 0 (by decide)) rfl rfl (Nat.le_of_ble_eq_true rfl) dX12_object_27 (fun H locs hP hD hS => ?_)
    obtain ⟨V3, hV3⟩ : ∃ z, z = up2 V 0 0 1 := ⟨_, rfl⟩
    have hP : va_P D vwCl (mw ad kk ks.1 V3 L) H := by rw [hV3]; exact hP
    have hD : va_D A (mw ad kk ks.1 V3 L) := by rw [hV3]; exact hD
    have hMV3 : rgd bM V3 := hMV.put hV3 (i_full _)
    have agV3 : agr [(0, 0)] [] V V3 := agV.up hV3 rfl
    refine lv_aload_n hx hb dX12_object_30 rfl (lv_at hl 0 rfl) ?_
    refine va_get (D := D) (ci := 12) (v := .int (V3 0 0)) (C := RX12) (T := TX12) (N := 100) hx hb hg inX12 hown hK hP 0 rfl rfl 0 (by decide) (hg _ w1706) (fun _ h9 => h9) rfl dX12_object_31 ?_
    refine g_top (v := 1) (up2_s hV3) ?_
    refine lv_if_le (tgt := 41) hx hb dX12_object_34 (by decide) (fun q => absurd q (by decide)) (fun _ => ?_)
    refine lv_iconst (v := 0) hx hb dX12_object_37 (by decide) ?_
    refine lv_goto (tgt := 74) hx hb dX12_object_38 (by decide) ?_
    exact W.iret (v := 0) hx hb hr (fun t ht hW => ⟨⟨0, (V3, L), rfl, ⟨hMV3, agV3, rfl⟩, by rw [ht]; exact hP, va_K.moved hW.alike hK, hD⟩, hS.F ht⟩) hS.2.2 dX12_object_74
  · skip
    have f4 : 0 ≤ p0.toInt := b_nlt rfl (by decide) c1
    refine lv_iload_n hx hb dX12_object_5 rfl (lv_at hl 1 rfl) ?_
    refine lv_aload_n hx hb dX12_object_6 rfl (lv_at hl 0 rfl) ?_
    refine va_get (D := D) (ci := 12) (v := .int (V 0 60)) (C := RX12) (T := TX12) (N := 100) hx hb hg inX12 hown hK hP 0 rfl rfl 60 (by decide) (hg _ w1766) (fun _ h9 => h9) rfl dX12_object_7 ?_
    have r5 : 0 ≤ ((V 0 60)).toInt ∧ ((V 0 60)).toInt ≤ 300 := hMV 0 60
    refine lv_icmp_ge (tgt := 26) hx hb dX12_object_10 (by decide) (fun c6 => ?_) (fun c6 => ?_)
    · skip
      have f7 : ((V 0 60)).toInt ≤ p0.toInt := b_le rfl rfl c6
      refine lv_iconst (v := 1) hx hb dX12_object_26 (by decide) ?_
      refine va_put (D := D) (ci := 12) (v := .int 1) (ty := tyX12 0) (C := RX12) (T := TX12) (N := 100) hx hb hg inX12 tyX12 tyX12_ok nmX12 hown hK hP hD hS 0 rfl rfl 0 (by decide) (hg _ w1706) (fun _ h9 => h9) rfl (tyX12_ok 0 (by decide)) rfl rfl (Nat.le_of_ble_eq_true rfl) dX12_object_27 (fun H locs hP hD hS => ?_)
      obtain ⟨V8, hV8⟩ : ∃ z, z = up2 V 0 0 1 := ⟨_, rfl⟩
      have hP : va_P D vwCl (mw ad kk ks.1 V8 L) H := by rw [hV8]; exact hP
      have hD : va_D A (mw ad kk ks.1 V8 L) := by rw [hV8]; exact hD
      have hMV8 : rgd bM V8 := hMV.put hV8 (i_full _)
      have agV8 : agr [(0, 0)] [] V V8 := agV.up hV8 rfl
      refine lv_aload_n hx hb dX12_object_30 rfl (lv_at hl 0 rfl) ?_
      refine va_get (D := D) (ci := 12) (v := .int (V8 0 0)) (C := RX12) (T := TX12) (N := 100) hx hb hg inX12 hown hK hP 0 rfl rfl 0 (by decide) (hg _ w1706) (fun _ h9 => h9) rfl dX12_object_31 ?_
      refine g_top (v := 1) (up2_s hV8) ?_
      refine lv_if_le (tgt := 41) hx hb dX12_object_34 (by decide) (fun q => absurd q (by decide)) (fun _ => ?_)
      refine lv_iconst (v := 0) hx hb dX12_object_37 (by decide) ?_
      refine lv_goto (tgt := 74) hx hb dX12_object_38 (by decide) ?_
      exact W.iret (v := 0) hx hb hr (fun t ht hW => ⟨⟨0, (V8, L), rfl, ⟨hMV8, agV8, rfl⟩, by rw [ht]; exact hP, va_K.moved hW.alike hK, hD⟩, hS.F ht⟩) hS.2.2 dX12_object_74
    · skip
      have f9 : p0.toInt < ((V 0 60)).toInt := b_nle rfl rfl c6
      refine lv_iload_n hx hb dX12_object_13 rfl (lv_at hl 2 rfl) ?_
      refine lv_if_lt (tgt := 26) hx hb dX12_object_14 (by decide) (fun c10 => ?_) (fun c10 => ?_)
      · skip
        have f11 : p1.toInt < 0 := b_lt rfl (by decide) c10
        refine lv_iconst (v := 1) hx hb dX12_object_26 (by decide) ?_
        refine va_put (D := D) (ci := 12) (v := .int 1) (ty := tyX12 0) (C := RX12) (T := TX12) (N := 100) hx hb hg inX12 tyX12 tyX12_ok nmX12 hown hK hP hD hS 0 rfl rfl 0 (by decide) (hg _ w1706) (fun _ h9 => h9) rfl (tyX12_ok 0 (by decide)) rfl rfl (Nat.le_of_ble_eq_true rfl) dX12_object_27 (fun H locs hP hD hS => ?_)
        obtain ⟨V12, hV12⟩ : ∃ z, z = up2 V 0 0 1 := ⟨_, rfl⟩
        have hP : va_P D vwCl (mw ad kk ks.1 V12 L) H := by rw [hV12]; exact hP
        have hD : va_D A (mw ad kk ks.1 V12 L) := by rw [hV12]; exact hD
        have hMV12 : rgd bM V12 := hMV.put hV12 (i_full _)
        have agV12 : agr [(0, 0)] [] V V12 := agV.up hV12 rfl
        refine lv_aload_n hx hb dX12_object_30 rfl (lv_at hl 0 rfl) ?_
        refine va_get (D := D) (ci := 12) (v := .int (V12 0 0)) (C := RX12) (T := TX12) (N := 100) hx hb hg inX12 hown hK hP 0 rfl rfl 0 (by decide) (hg _ w1706) (fun _ h9 => h9) rfl dX12_object_31 ?_
        refine g_top (v := 1) (up2_s hV12) ?_
        refine lv_if_le (tgt := 41) hx hb dX12_object_34 (by decide) (fun q => absurd q (by decide)) (fun _ => ?_)
        refine lv_iconst (v := 0) hx hb dX12_object_37 (by decide) ?_
        refine lv_goto (tgt := 74) hx hb dX12_object_38 (by decide) ?_
        exact W.iret (v := 0) hx hb hr (fun t ht hW => ⟨⟨0, (V12, L), rfl, ⟨hMV12, agV12, rfl⟩, by rw [ht]; exact hP, va_K.moved hW.alike hK, hD⟩, hS.F ht⟩) hS.2.2 dX12_object_74
      · skip
        have f13 : 0 ≤ p1.toInt := b_nlt rfl (by decide) c10
        refine lv_iload_n hx hb dX12_object_17 rfl (lv_at hl 2 rfl) ?_
        refine lv_iconst (v := 2) hx hb dX12_object_18 (by decide) ?_
        refine lv_icmp_gt (tgt := 26) hx hb dX12_object_19 (by decide) (fun c14 => ?_) (fun c14 => ?_)
        · skip
          have f15 : 2 < p1.toInt := b_lt (by decide) rfl c14
          refine lv_iconst (v := 1) hx hb dX12_object_26 (by decide) ?_
          refine va_put (D := D) (ci := 12) (v := .int 1) (ty := tyX12 0) (C := RX12) (T := TX12) (N := 100) hx hb hg inX12 tyX12 tyX12_ok nmX12 hown hK hP hD hS 0 rfl rfl 0 (by decide) (hg _ w1706) (fun _ h9 => h9) rfl (tyX12_ok 0 (by decide)) rfl rfl (Nat.le_of_ble_eq_true rfl) dX12_object_27 (fun H locs hP hD hS => ?_)
          obtain ⟨V16, hV16⟩ : ∃ z, z = up2 V 0 0 1 := ⟨_, rfl⟩
          have hP : va_P D vwCl (mw ad kk ks.1 V16 L) H := by rw [hV16]; exact hP
          have hD : va_D A (mw ad kk ks.1 V16 L) := by rw [hV16]; exact hD
          have hMV16 : rgd bM V16 := hMV.put hV16 (i_full _)
          have agV16 : agr [(0, 0)] [] V V16 := agV.up hV16 rfl
          refine lv_aload_n hx hb dX12_object_30 rfl (lv_at hl 0 rfl) ?_
          refine va_get (D := D) (ci := 12) (v := .int (V16 0 0)) (C := RX12) (T := TX12) (N := 100) hx hb hg inX12 hown hK hP 0 rfl rfl 0 (by decide) (hg _ w1706) (fun _ h9 => h9) rfl dX12_object_31 ?_
          refine g_top (v := 1) (up2_s hV16) ?_
          refine lv_if_le (tgt := 41) hx hb dX12_object_34 (by decide) (fun q => absurd q (by decide)) (fun _ => ?_)
          refine lv_iconst (v := 0) hx hb dX12_object_37 (by decide) ?_
          refine lv_goto (tgt := 74) hx hb dX12_object_38 (by decide) ?_
          exact W.iret (v := 0) hx hb hr (fun t ht hW => ⟨⟨0, (V16, L), rfl, ⟨hMV16, agV16, rfl⟩, by rw [ht]; exact hP, va_K.moved hW.alike hK, hD⟩, hS.F ht⟩) hS.2.2 dX12_object_74
        · skip
          have f17 : p1.toInt ≤ 2 := b_nlt (by decide) rfl c14
          refine lv_iconst (v := 0) hx hb dX12_object_22 (by decide) ?_
          refine lv_goto (tgt := 27) hx hb dX12_object_23 (by decide) ?_
          refine va_put (D := D) (ci := 12) (v := .int 0) (ty := tyX12 0) (C := RX12) (T := TX12) (N := 100) hx hb hg inX12 tyX12 tyX12_ok nmX12 hown hK hP hD hS 0 rfl rfl 0 (by decide) (hg _ w1706) (fun _ h9 => h9) rfl (tyX12_ok 0 (by decide)) rfl rfl (Nat.le_of_ble_eq_true rfl) dX12_object_27 (fun H locs hP hD hS => ?_)
          obtain ⟨V18, hV18⟩ : ∃ z, z = up2 V 0 0 0 := ⟨_, rfl⟩
          have hP : va_P D vwCl (mw ad kk ks.1 V18 L) H := by rw [hV18]; exact hP
          have hD : va_D A (mw ad kk ks.1 V18 L) := by rw [hV18]; exact hD
          have hMV18 : rgd bM V18 := hMV.put hV18 (i_full _)
          have agV18 : agr [(0, 0)] [] V V18 := agV.up hV18 rfl
          refine lv_aload_n hx hb dX12_object_30 rfl (lv_at hl 0 rfl) ?_
          refine va_get (D := D) (ci := 12) (v := .int (V18 0 0)) (C := RX12) (T := TX12) (N := 100) hx hb hg inX12 hown hK hP 0 rfl rfl 0 (by decide) (hg _ w1706) (fun _ h9 => h9) rfl dX12_object_31 ?_
          refine g_top (v := 0) (up2_s hV18) ?_
          refine lv_if_le (tgt := 41) hx hb dX12_object_34 (by decide) (fun _ => ?_) (fun q => absurd (by decide) q)
          refine lv_iload_n hx hb dX12_object_41 rfl (lv_at hl 2 rfl) ?_
          refine lv_if_ne (tgt := 54) hx hb dX12_object_42 (by decide) (fun c19 => ?_) (fun c19 => ?_)
          · skip
            have f20 : p1.toInt ≠ 0 := b_neq rfl (by decide) c19
            refine lv_iload_n hx hb dX12_object_54 rfl (lv_at hl 2 rfl) ?_
            refine lv_iconst (v := 1) hx hb dX12_object_55 (by decide) ?_
            refine lv_icmp_ne (tgt := 68) hx hb dX12_object_56 (by decide) (fun c21 => ?_) (fun c21 => ?_)
            · skip
              have f22 : p1.toInt ≠ 1 := b_neq rfl (by decide) c21
              refine lv_aload_n hx hb dX12_object_68 rfl (lv_at hl 0 rfl) ?_
              refine va_get (D := D) (ci := 12) (v := .ref (ad 63)) (C := RX12) (T := TX12) (N := 100) hx hb hg inX12 hown hK hP 0 rfl rfl 63 (by decide) (hg _ w1769) (fun _ h9 => h9) rfl dX12_object_69 ?_
              refine lv_iload_n hx hb dX12_object_72 rfl (lv_at hl 1 rfl) ?_
              refine va_iald (D := D) (i := p0) hx hb hK hP 48 47 rfl rfl (i_in (a := p0.toInt) rfl (by (first | exact om_cd73be67f278 f4 r5.2 f9 | omega))) dX12_object_73 ?_
              refine g_top (v := (V 63 (Int32.toNatClampNeg p0))) (up2_o hV18 (by decide)) ?_
              have r23 : 0 ≤ ((V 63 (Int32.toNatClampNeg p0))).toInt ∧ ((V 63 (Int32.toNatClampNeg p0))).toInt ≤ 2 := hMV 63 (Int32.toNatClampNeg p0)
              exact W.iret (v := (V 63 (Int32.toNatClampNeg p0))) hx hb hr (fun t ht hW => ⟨⟨(V 63 (Int32.toNatClampNeg p0)), (V18, L), rfl, ⟨hMV18, agV18, rfl⟩, by rw [ht]; exact hP, va_K.moved hW.alike hK, hD⟩, hS.F ht⟩) hS.2.2 dX12_object_74
            · skip
              have f24 : p1.toInt = 1 := b_eq rfl (by decide) c21
              refine lv_aload_n hx hb dX12_object_59 rfl (lv_at hl 0 rfl) ?_
              refine va_get (D := D) (ci := 12) (v := .ref (ad 62)) (C := RX12) (T := TX12) (N := 100) hx hb hg inX12 hown hK hP 0 rfl rfl 62 (by decide) (hg _ w1768) (fun _ h9 => h9) rfl dX12_object_60 ?_
              refine lv_iload_n hx hb dX12_object_63 rfl (lv_at hl 1 rfl) ?_
              refine va_iald (D := D) (i := p0) hx hb hK hP 47 46 rfl rfl (i_in (a := p0.toInt) rfl (by (first | exact om_cd73be67f278 f4 r5.2 f9 | omega))) dX12_object_64 ?_
              refine g_top (v := (V 62 (Int32.toNatClampNeg p0))) (up2_o hV18 (by decide)) ?_
              have r25 : 0 ≤ ((V 62 (Int32.toNatClampNeg p0))).toInt ∧ ((V 62 (Int32.toNatClampNeg p0))).toInt ≤ 39 := hMV 62 (Int32.toNatClampNeg p0)
              refine lv_goto (tgt := 74) hx hb dX12_object_65 (by decide) ?_
              exact W.iret (v := (V 62 (Int32.toNatClampNeg p0))) hx hb hr (fun t ht hW => ⟨⟨(V 62 (Int32.toNatClampNeg p0)), (V18, L), rfl, ⟨hMV18, agV18, rfl⟩, by rw [ht]; exact hP, va_K.moved hW.alike hK, hD⟩, hS.F ht⟩) hS.2.2 dX12_object_74
          · skip
            have f26 : p1.toInt = 0 := b_eq rfl (by decide) c19
            refine lv_aload_n hx hb dX12_object_45 rfl (lv_at hl 0 rfl) ?_
            refine va_get (D := D) (ci := 12) (v := .ref (ad 61)) (C := RX12) (T := TX12) (N := 100) hx hb hg inX12 hown hK hP 0 rfl rfl 61 (by decide) (hg _ w1767) (fun _ h9 => h9) rfl dX12_object_46 ?_
            refine lv_iload_n hx hb dX12_object_49 rfl (lv_at hl 1 rfl) ?_
            refine va_iald (D := D) (i := p0) hx hb hK hP 46 45 rfl rfl (i_in (a := p0.toInt) rfl (by (first | exact om_cd73be67f278 f4 r5.2 f9 | omega))) dX12_object_50 ?_
            refine g_top (v := (V 61 (Int32.toNatClampNeg p0))) (up2_o hV18 (by decide)) ?_
            have r27 : 0 ≤ ((V 61 (Int32.toNatClampNeg p0))).toInt ∧ ((V 61 (Int32.toNatClampNeg p0))).toInt ≤ 23 := hMV 61 (Int32.toNatClampNeg p0)
            refine lv_goto (tgt := 74) hx hb dX12_object_51 (by decide) ?_
            exact W.iret (v := (V 61 (Int32.toNatClampNeg p0))) hx hb hr (fun t ht hW => ⟨⟨(V 61 (Int32.toNatClampNeg p0)), (V18, L), rfl, ⟨hMV18, agV18, rfl⟩, by rw [ht]; exact hP, va_K.moved hW.alike hK, hD⟩, hS.F ht⟩) hS.2.2 dX12_object_74
abbrev r_s_spoiled : Room := { frames := 1, cells := 0, slots := 0, locals := 23 }
abbrev q_s_spoiled (D : va_G) (ks : KS) (ad : Nat → Nat) (kk : Nat → ClassId) (V : Vf) (L : Lf) (p0 : Int32) (p1 : Int32) (A : Nat → Prop) : Array Value → State → Outcome → State → Prop := va_Qi (fun (r : Int32) (u : Vf × Lf) => rgd bM u.1 ∧ agr [(0, 0)] [] V u.1 ∧ u.2 = L) (fun u t => gq D A (mw ad kk ks.1 u.1 u.2) (mty kk) t) A
abbrev r_s_component : Room := { frames := 1, cells := 0, slots := 0, locals := 22 }
abbrev q_s_component (D : va_G) (ks : KS) (ad : Nat → Nat) (kk : Nat → ClassId) (V : Vf) (L : Lf) (p0 : Int32) (p1 : Int32) (A : Nat → Prop) : Array Value → State → Outcome → State → Prop := va_Qi (fun (r : Int32) (u : Vf × Lf) => rgd bM u.1 ∧ agr [(0, 0)] [] V u.1 ∧ u.2 = L) (fun u t => gq D A (mw ad kk ks.1 u.1 u.2) (mty kk) t) A
set_option maxHeartbeats 4000000 in
set_option maxRecDepth 100000 in
theorem s_component (l : Launch) (D : va_G) (ks : KS) (sz : Nat) (ad : Nat → Nat) (kk : Nat → ClassId) (V : Vf) (L : Lf) (p0 : Int32) (p1 : Int32) (hMV : rgd bM V)  : Met l yX12_component (Cond.code yX12_component cX12_component 4 (some .int) :: GW) r_s_component (va_Pc [.ref (ad 0), .int p0, .int p1] (gp D ks (mw ad kk ks.1 V L) (mty kk) sz)) (q_s_component D ks ad kk V L p0 p1 (va_A (mw ad kk ks.1 V L) sz)) 0 0 (va_A (mw ad kk ks.1 V L) sz) := by
  refine g_met (q_s_component D ks ad kk V L p0 p1) (by decide) (Nat.le_of_ble_eq_true rfl) ?_
  intro p e s m below meth c A ls H locs hx hb hr hml hown hg hlocks hin hnw hgk hP hK hD hS hA hl
  replace hown : s.vm.findClass RX12 = some m.cls := hown
  replace hl : lv_has ls 4 [(0, .ref (ad 0)), (1, .int p0), (2, .int p1)] := hl
  replace hP : va_P D vwCl (mw ad kk ks.1 V L) H := hP
  replace hD : va_D A (mw ad kk ks.1 V L) := hD
  replace hK : va_K D vwCl (mty kk) s := hK
  have agV : agr [(0, 0)] [] V V := agr.rf
  refine lv_aload_n hx hb dX12_component_0 rfl (lv_at hl 0 rfl) ?_
  refine lv_iload_n hx hb dX12_component_1 rfl (lv_at hl 1 rfl) ?_
  refine lv_if_lt (tgt := 31) hx hb dX12_component_2 (by decide) (fun c1 => ?_) (fun c1 => ?_)
  · skip
    have f2 : p0.toInt < 0 := b_lt rfl (by decide) c1
    refine lv_iconst (v := 1) hx hb dX12_component_31 (by decide) ?_
    refine va_put (D := D) (ci := 12) (v := .int 1) (ty := tyX12 0) (C := RX12) (T := TX12) (N := 100) hx hb hg inX12 tyX12 tyX12_ok nmX12 hown hK hP hD hS 0 rfl rfl 0 (by decide) (hg _ w1706) (fun _ h9 => h9) rfl (tyX12_ok 0 (by decide)) rfl rfl (Nat.le_of_ble_eq_true rfl) dX12_component_32 (fun H locs hP hD hS => ?_)
    obtain ⟨V3, hV3⟩ : ∃ z, z = up2 V 0 0 1 := ⟨_, rfl⟩
    have hP : va_P D vwCl (mw ad kk ks.1 V3 L) H := by rw [hV3]; exact hP
    have hD : va_D A (mw ad kk ks.1 V3 L) := by rw [hV3]; exact hD
    have hMV3 : rgd bM V3 := hMV.put hV3 (i_full _)
    have agV3 : agr [(0, 0)] [] V V3 := agV.up hV3 rfl
    refine lv_aload_n hx hb dX12_component_35 rfl (lv_at hl 0 rfl) ?_
    refine va_get (D := D) (ci := 12) (v := .int (V3 0 0)) (C := RX12) (T := TX12) (N := 100) hx hb hg inX12 hown hK hP 0 rfl rfl 0 (by decide) (hg _ w1706) (fun _ h9 => h9) rfl dX12_component_36 ?_
    refine g_top (v := 1) (up2_s hV3) ?_
    refine lv_if_le (tgt := 44) hx hb dX12_component_39 (by decide) (fun q => absurd q (by decide)) (fun _ => ?_)
    refine lv_iconst (v := 0) hx hb dX12_component_42 (by decide) ?_
    exact W.iret (v := 0) hx hb hr (fun t ht hW => ⟨⟨0, (V3, L), rfl, ⟨hMV3, agV3, rfl⟩, by rw [ht]; exact hP, va_K.moved hW.alike hK, hD⟩, hS.F ht⟩) hS.2.2 dX12_component_43
  · skip
    have f4 : 0 ≤ p0.toInt := b_nlt rfl (by decide) c1
    refine lv_iload_n hx hb dX12_component_5 rfl (lv_at hl 1 rfl) ?_
    refine lv_aload_n hx hb dX12_component_6 rfl (lv_at hl 0 rfl) ?_
    refine va_get (D := D) (ci := 12) (v := .ref (ad 19)) (C := RX12) (T := TX12) (N := 100) hx hb hg inX12 hown hK hP 0 rfl rfl 19 (by decide) (hg _ w1725) (fun _ h9 => h9) rfl dX12_component_7 ?_
    refine lv_aload_n hx hb dX12_component_10 rfl (lv_at hl 0 rfl) ?_
    refine va_get (D := D) (ci := 12) (v := .int (V 0 11)) (C := RX12) (T := TX12) (N := 100) hx hb hg inX12 hown hK hP 0 rfl rfl 11 (by decide) (hg _ w1717) (fun _ h9 => h9) rfl dX12_component_11 ?_
    have r5 : 0 ≤ ((V 0 11)).toInt ∧ ((V 0 11)).toInt ≤ 1 := hMV 0 11
    refine va_iald (D := D) (i := (V 0 11)) hx hb hK hP 12 11 rfl rfl (i_in (a := ((V 0 11)).toInt) rfl (by (first | exact om_8367a84723c7 r5.1 r5.2 | omega))) dX12_component_14 ?_
    have r6 : 0 ≤ ((V 19 (Int32.toNatClampNeg (V 0 11)))).toInt ∧ ((V 19 (Int32.toNatClampNeg (V 0 11)))).toInt ≤ 24 := hMV 19 (Int32.toNatClampNeg (V 0 11))
    refine lv_icmp_ge (tgt := 31) hx hb dX12_component_15 (by decide) (fun c7 => ?_) (fun c7 => ?_)
    · skip
      have f8 : ((V 19 (Int32.toNatClampNeg (V 0 11)))).toInt ≤ p0.toInt := b_le rfl rfl c7
      refine lv_iconst (v := 1) hx hb dX12_component_31 (by decide) ?_
      refine va_put (D := D) (ci := 12) (v := .int 1) (ty := tyX12 0) (C := RX12) (T := TX12) (N := 100) hx hb hg inX12 tyX12 tyX12_ok nmX12 hown hK hP hD hS 0 rfl rfl 0 (by decide) (hg _ w1706) (fun _ h9 => h9) rfl (tyX12_ok 0 (by decide)) rfl rfl (Nat.le_of_ble_eq_true rfl) dX12_component_32 (fun H locs hP hD hS => ?_)
      obtain ⟨V9, hV9⟩ : ∃ z, z = up2 V 0 0 1 := ⟨_, rfl⟩
      have hP : va_P D vwCl (mw ad kk ks.1 V9 L) H := by rw [hV9]; exact hP
      have hD : va_D A (mw ad kk ks.1 V9 L) := by rw [hV9]; exact hD
      have hMV9 : rgd bM V9 := hMV.put hV9 (i_full _)
      have agV9 : agr [(0, 0)] [] V V9 := agV.up hV9 rfl
      refine lv_aload_n hx hb dX12_component_35 rfl (lv_at hl 0 rfl) ?_
      refine va_get (D := D) (ci := 12) (v := .int (V9 0 0)) (C := RX12) (T := TX12) (N := 100) hx hb hg inX12 hown hK hP 0 rfl rfl 0 (by decide) (hg _ w1706) (fun _ h9 => h9) rfl dX12_component_36 ?_
      refine g_top (v := 1) (up2_s hV9) ?_
      refine lv_if_le (tgt := 44) hx hb dX12_component_39 (by decide) (fun q => absurd q (by decide)) (fun _ => ?_)
      refine lv_iconst (v := 0) hx hb dX12_component_42 (by decide) ?_
      exact W.iret (v := 0) hx hb hr (fun t ht hW => ⟨⟨0, (V9, L), rfl, ⟨hMV9, agV9, rfl⟩, by rw [ht]; exact hP, va_K.moved hW.alike hK, hD⟩, hS.F ht⟩) hS.2.2 dX12_component_43
    · skip
      have f10 : p0.toInt < ((V 19 (Int32.toNatClampNeg (V 0 11)))).toInt := b_nle rfl rfl c7
      refine lv_iload_n hx hb dX12_component_18 rfl (lv_at hl 2 rfl) ?_
      refine lv_if_lt (tgt := 31) hx hb dX12_component_19 (by decide) (fun c11 => ?_) (fun c11 => ?_)
      · skip
        have f12 : p1.toInt < 0 := b_lt rfl (by decide) c11
        refine lv_iconst (v := 1) hx hb dX12_component_31 (by decide) ?_
        refine va_put (D := D) (ci := 12) (v := .int 1) (ty := tyX12 0) (C := RX12) (T := TX12) (N := 100) hx hb hg inX12 tyX12 tyX12_ok nmX12 hown hK hP hD hS 0 rfl rfl 0 (by decide) (hg _ w1706) (fun _ h9 => h9) rfl (tyX12_ok 0 (by decide)) rfl rfl (Nat.le_of_ble_eq_true rfl) dX12_component_32 (fun H locs hP hD hS => ?_)
        obtain ⟨V13, hV13⟩ : ∃ z, z = up2 V 0 0 1 := ⟨_, rfl⟩
        have hP : va_P D vwCl (mw ad kk ks.1 V13 L) H := by rw [hV13]; exact hP
        have hD : va_D A (mw ad kk ks.1 V13 L) := by rw [hV13]; exact hD
        have hMV13 : rgd bM V13 := hMV.put hV13 (i_full _)
        have agV13 : agr [(0, 0)] [] V V13 := agV.up hV13 rfl
        refine lv_aload_n hx hb dX12_component_35 rfl (lv_at hl 0 rfl) ?_
        refine va_get (D := D) (ci := 12) (v := .int (V13 0 0)) (C := RX12) (T := TX12) (N := 100) hx hb hg inX12 hown hK hP 0 rfl rfl 0 (by decide) (hg _ w1706) (fun _ h9 => h9) rfl dX12_component_36 ?_
        refine g_top (v := 1) (up2_s hV13) ?_
        refine lv_if_le (tgt := 44) hx hb dX12_component_39 (by decide) (fun q => absurd q (by decide)) (fun _ => ?_)
        refine lv_iconst (v := 0) hx hb dX12_component_42 (by decide) ?_
        exact W.iret (v := 0) hx hb hr (fun t ht hW => ⟨⟨0, (V13, L), rfl, ⟨hMV13, agV13, rfl⟩, by rw [ht]; exact hP, va_K.moved hW.alike hK, hD⟩, hS.F ht⟩) hS.2.2 dX12_component_43
      · skip
        have f14 : 0 ≤ p1.toInt := b_nlt rfl (by decide) c11
        refine lv_iload_n hx hb dX12_component_22 rfl (lv_at hl 2 rfl) ?_
        refine lv_iconst (v := 4) hx hb dX12_component_23 (by decide) ?_
        refine lv_icmp_gt (tgt := 31) hx hb dX12_component_24 (by decide) (fun c15 => ?_) (fun c15 => ?_)
        · skip
          have f16 : 4 < p1.toInt := b_lt (by decide) rfl c15
          refine lv_iconst (v := 1) hx hb dX12_component_31 (by decide) ?_
          refine va_put (D := D) (ci := 12) (v := .int 1) (ty := tyX12 0) (C := RX12) (T := TX12) (N := 100) hx hb hg inX12 tyX12 tyX12_ok nmX12 hown hK hP hD hS 0 rfl rfl 0 (by decide) (hg _ w1706) (fun _ h9 => h9) rfl (tyX12_ok 0 (by decide)) rfl rfl (Nat.le_of_ble_eq_true rfl) dX12_component_32 (fun H locs hP hD hS => ?_)
          obtain ⟨V17, hV17⟩ : ∃ z, z = up2 V 0 0 1 := ⟨_, rfl⟩
          have hP : va_P D vwCl (mw ad kk ks.1 V17 L) H := by rw [hV17]; exact hP
          have hD : va_D A (mw ad kk ks.1 V17 L) := by rw [hV17]; exact hD
          have hMV17 : rgd bM V17 := hMV.put hV17 (i_full _)
          have agV17 : agr [(0, 0)] [] V V17 := agV.up hV17 rfl
          refine lv_aload_n hx hb dX12_component_35 rfl (lv_at hl 0 rfl) ?_
          refine va_get (D := D) (ci := 12) (v := .int (V17 0 0)) (C := RX12) (T := TX12) (N := 100) hx hb hg inX12 hown hK hP 0 rfl rfl 0 (by decide) (hg _ w1706) (fun _ h9 => h9) rfl dX12_component_36 ?_
          refine g_top (v := 1) (up2_s hV17) ?_
          refine lv_if_le (tgt := 44) hx hb dX12_component_39 (by decide) (fun q => absurd q (by decide)) (fun _ => ?_)
          refine lv_iconst (v := 0) hx hb dX12_component_42 (by decide) ?_
          exact W.iret (v := 0) hx hb hr (fun t ht hW => ⟨⟨0, (V17, L), rfl, ⟨hMV17, agV17, rfl⟩, by rw [ht]; exact hP, va_K.moved hW.alike hK, hD⟩, hS.F ht⟩) hS.2.2 dX12_component_43
        · skip
          have f18 : p1.toInt ≤ 4 := b_nlt (by decide) rfl c15
          refine lv_iconst (v := 0) hx hb dX12_component_27 (by decide) ?_
          refine lv_goto (tgt := 32) hx hb dX12_component_28 (by decide) ?_
          refine va_put (D := D) (ci := 12) (v := .int 0) (ty := tyX12 0) (C := RX12) (T := TX12) (N := 100) hx hb hg inX12 tyX12 tyX12_ok nmX12 hown hK hP hD hS 0 rfl rfl 0 (by decide) (hg _ w1706) (fun _ h9 => h9) rfl (tyX12_ok 0 (by decide)) rfl rfl (Nat.le_of_ble_eq_true rfl) dX12_component_32 (fun H locs hP hD hS => ?_)
          obtain ⟨V19, hV19⟩ : ∃ z, z = up2 V 0 0 0 := ⟨_, rfl⟩
          have hP : va_P D vwCl (mw ad kk ks.1 V19 L) H := by rw [hV19]; exact hP
          have hD : va_D A (mw ad kk ks.1 V19 L) := by rw [hV19]; exact hD
          have hMV19 : rgd bM V19 := hMV.put hV19 (i_full _)
          have agV19 : agr [(0, 0)] [] V V19 := agV.up hV19 rfl
          refine lv_aload_n hx hb dX12_component_35 rfl (lv_at hl 0 rfl) ?_
          refine va_get (D := D) (ci := 12) (v := .int (V19 0 0)) (C := RX12) (T := TX12) (N := 100) hx hb hg inX12 hown hK hP 0 rfl rfl 0 (by decide) (hg _ w1706) (fun _ h9 => h9) rfl dX12_component_36 ?_
          refine g_top (v := 0) (up2_s hV19) ?_
          refine lv_if_le (tgt := 44) hx hb dX12_component_39 (by decide) (fun _ => ?_) (fun q => absurd (by decide) q)
          refine lv_bipush (v := 24) hx hb dX12_component_44 (by decide) ?_
          refine lv_aload_n hx hb dX12_component_46 rfl (lv_at hl 0 rfl) ?_
          refine va_get (D := D) (ci := 12) (v := .int (V19 0 11)) (C := RX12) (T := TX12) (N := 100) hx hb hg inX12 hown hK hP 0 rfl rfl 11 (by decide) (hg _ w1717) (fun _ h9 => h9) rfl dX12_component_47 ?_
          refine g_top (v := (V 0 11)) (up2_k hV19 (by decide)) ?_
          refine lv_imul hx hb dX12_component_50 ?_
          refine lv_topi (fun z20 ez20 => ?_)
          have hz20 : z20.toInt = 24 * ((V 0 11)).toInt := i_mul ez20 (by decide) rfl (by (first | exact om_3f8aba7b6ce1 r5.1 r5.2 | omega))
          refine lv_iload_n hx hb dX12_component_51 rfl (lv_at hl 1 rfl) ?_
          refine lv_iadd hx hb dX12_component_52 ?_
          refine lv_topi (fun z21 ez21 => ?_)
          have hz21 : z21.toInt = z20.toInt + p0.toInt := i_add ez21 rfl rfl (by (first | exact om_140f5757d01d f4 r5.1 r5.2 r6.2 f10 hz20 | omega))
          refine lv_istore_n (lv' := [(3, .int z21), (0, .ref (ad 0)), (1, .int p0), (2, .int p1)]) hx hb dX12_component_53 rfl hl (by decide) rfl (fun ls hl => ?_)
          refine lv_iload_n hx hb dX12_component_54 rfl (lv_at hl 3 rfl) ?_
          refine lv_if_ne (tgt := 67) hx hb dX12_component_55 (by decide) (fun c22 => ?_) (fun c22 => ?_)
          · skip
            have f23 : p1.toInt ≠ 0 := b_neq rfl (by decide) c22
            refine lv_iload_n hx hb dX12_component_67 rfl (lv_at hl 3 rfl) ?_
            refine lv_iconst (v := 1) hx hb dX12_component_68 (by decide) ?_
            refine lv_icmp_ne (tgt := 81) hx hb dX12_component_69 (by decide) (fun c24 => ?_) (fun c24 => ?_)
            · skip
              have f25 : p1.toInt ≠ 1 := b_neq rfl (by decide) c24
              refine lv_iload_n hx hb dX12_component_81 rfl (lv_at hl 3 rfl) ?_
              refine lv_iconst (v := 2) hx hb dX12_component_82 (by decide) ?_
              refine lv_icmp_ne (tgt := 102) hx hb dX12_component_83 (by decide) (fun c26 => ?_) (fun c26 => ?_)
              · skip
                have f27 : p1.toInt ≠ 2 := b_neq rfl (by decide) c26
                refine lv_iload_n hx hb dX12_component_102 rfl (lv_at hl 3 rfl) ?_
                refine lv_iconst (v := 3) hx hb dX12_component_103 (by decide) ?_
                refine lv_icmp_ne (tgt := 116) hx hb dX12_component_104 (by decide) (fun c28 => ?_) (fun c28 => ?_)
                · skip
                  have f29 : p1.toInt ≠ 3 := b_neq rfl (by decide) c28
                  refine lv_aload_n hx hb dX12_component_116 rfl (lv_at hl 1 rfl) ?_
                  refine va_get (D := D) (ci := 12) (v := .ref (ad 23)) (C := RX12) (T := TX12) (N := 100) hx hb hg inX12 hown hK hP 0 rfl rfl 23 (by decide) (hg _ w1729) (fun _ h9 => h9) rfl dX12_component_117 ?_
                  refine lv_iload_n hx hb dX12_component_120 rfl (lv_at hl 0 rfl) ?_
                  refine va_iald (D := D) (i := z21) hx hb hK hP 16 15 rfl rfl (i_in (a := z21.toInt) rfl (by (first | exact om_af63ae00f401 f4 r5.1 r5.2 r6.2 f10 hz20 hz21 | omega))) dX12_component_121 ?_
                  refine g_top (v := (V 23 (Int32.toNatClampNeg z21))) (up2_o hV19 (by decide)) ?_
                  exact W.iret (v := (V 23 (Int32.toNatClampNeg z21))) hx hb hr (fun t ht hW => ⟨⟨(V 23 (Int32.toNatClampNeg z21)), (V19, L), rfl, ⟨hMV19, agV19, rfl⟩, by rw [ht]; exact hP, va_K.moved hW.alike hK, hD⟩, hS.F ht⟩) hS.2.2 dX12_component_122
                · skip
                  have f30 : p1.toInt = 3 := b_eq rfl (by decide) c28
                  refine lv_aload_n hx hb dX12_component_107 rfl (lv_at hl 1 rfl) ?_
                  refine va_get (D := D) (ci := 12) (v := .ref (ad 27)) (C := RX12) (T := TX12) (N := 100) hx hb hg inX12 hown hK hP 0 rfl rfl 27 (by decide) (hg _ w1733) (fun _ h9 => h9) rfl dX12_component_108 ?_
                  refine lv_iload_n hx hb dX12_component_111 rfl (lv_at hl 0 rfl) ?_
                  refine va_iald (D := D) (i := z21) hx hb hK hP 20 19 rfl rfl (i_in (a := z21.toInt) rfl (by (first | exact om_af63ae00f401 f4 r5.1 r5.2 r6.2 f10 hz20 hz21 | omega))) dX12_component_112 ?_
                  refine g_top (v := (V 27 (Int32.toNatClampNeg z21))) (up2_o hV19 (by decide)) ?_
                  have r31 : 0 ≤ ((V 27 (Int32.toNatClampNeg z21))).toInt ∧ ((V 27 (Int32.toNatClampNeg z21))).toInt ≤ 8 := hMV 27 (Int32.toNatClampNeg z21)
                  refine lv_goto (tgt := 122) hx hb dX12_component_113 (by decide) ?_
                  exact W.iret (v := (V 27 (Int32.toNatClampNeg z21))) hx hb hr (fun t ht hW => ⟨⟨(V 27 (Int32.toNatClampNeg z21)), (V19, L), rfl, ⟨hMV19, agV19, rfl⟩, by rw [ht]; exact hP, va_K.moved hW.alike hK, hD⟩, hS.F ht⟩) hS.2.2 dX12_component_122
              · skip
                have f32 : p1.toInt = 2 := b_eq rfl (by decide) c26
                refine lv_aload_n hx hb dX12_component_86 rfl (lv_at hl 1 rfl) ?_
                refine lv_iload_n hx hb dX12_component_87 rfl (lv_at hl 2 rfl) ?_
                refine gA_int (gA_runV (As := [.int p0]) (rest := []) (ci := 12) (q0 := 0) hx hb hml hown hg hP hD hK hS hA hnw hgk (s_isThere l D ks H.size ad kk V19 L p0 hMV19 ) w2164 w2166 w117 w172 w2167 rfl rfl hdV_yX12_isThere ⟨Nat.le_of_ble_eq_true rfl, Nat.le_of_ble_eq_true rfl⟩ rfl hl.1 rfl (Nat.le_of_ble_eq_true rfl) dX12_component_88 ⟨Nat.le_of_ble_eq_true rfl, Nat.le_of_ble_eq_true rfl⟩) hP hD hK hS hA (fun z33 u34 H locs w35 hP hD hK hS => ?_)
                obtain ⟨rgz33, t36⟩ := w35
                replace rgz33 : 0 ≤ z33.toInt ∧ z33.toInt ≤ 1 := rgz33
                replace t36 : Imp (z33.toInt = 1) (0 ≤ p0.toInt ∧ p0.toInt ≤ 23) := t36
                refine lv_if_eq (tgt := 98) hx hb dX12_component_91 (by decide) (fun c37 => ?_) (fun c37 => ?_)
                · skip
                  have f38 : z33.toInt = 0 := b_eq rfl (by decide) c37
                  refine lv_iconst (v := 0) hx hb dX12_component_98 (by decide) ?_
                  refine lv_goto (tgt := 122) hx hb dX12_component_99 (by decide) ?_
                  exact W.iret (v := 0) hx hb hr (fun t ht hW => ⟨⟨0, (V19, L), rfl, ⟨hMV19, agV19, rfl⟩, by rw [ht]; exact hP, va_K.moved hW.alike hK, hD⟩, hS.F ht⟩) hS.2.2 dX12_component_122
                · skip
                  have f39 : z33.toInt ≠ 0 := b_neq rfl (by decide) c37
                  refine lv_iconst (v := 1) hx hb dX12_component_94 (by decide) ?_
                  refine lv_goto (tgt := 122) hx hb dX12_component_95 (by decide) ?_
                  exact W.iret (v := 1) hx hb hr (fun t ht hW => ⟨⟨1, (V19, L), rfl, ⟨hMV19, agV19, rfl⟩, by rw [ht]; exact hP, va_K.moved hW.alike hK, hD⟩, hS.F ht⟩) hS.2.2 dX12_component_122
            · skip
              have f40 : p1.toInt = 1 := b_eq rfl (by decide) c24
              refine lv_aload_n hx hb dX12_component_72 rfl (lv_at hl 1 rfl) ?_
              refine va_get (D := D) (ci := 12) (v := .ref (ad 24)) (C := RX12) (T := TX12) (N := 100) hx hb hg inX12 hown hK hP 0 rfl rfl 24 (by decide) (hg _ w1730) (fun _ h9 => h9) rfl dX12_component_73 ?_
              refine lv_iload_n hx hb dX12_component_76 rfl (lv_at hl 0 rfl) ?_
              refine va_iald (D := D) (i := z21) hx hb hK hP 17 16 rfl rfl (i_in (a := z21.toInt) rfl (by (first | exact om_af63ae00f401 f4 r5.1 r5.2 r6.2 f10 hz20 hz21 | omega))) dX12_component_77 ?_
              refine g_top (v := (V 24 (Int32.toNatClampNeg z21))) (up2_o hV19 (by decide)) ?_
              have r41 : 0 ≤ ((V 24 (Int32.toNatClampNeg z21))).toInt ∧ ((V 24 (Int32.toNatClampNeg z21))).toInt ≤ 9 := hMV 24 (Int32.toNatClampNeg z21)
              refine lv_goto (tgt := 122) hx hb dX12_component_78 (by decide) ?_
              exact W.iret (v := (V 24 (Int32.toNatClampNeg z21))) hx hb hr (fun t ht hW => ⟨⟨(V 24 (Int32.toNatClampNeg z21)), (V19, L), rfl, ⟨hMV19, agV19, rfl⟩, by rw [ht]; exact hP, va_K.moved hW.alike hK, hD⟩, hS.F ht⟩) hS.2.2 dX12_component_122
          · skip
            have f42 : p1.toInt = 0 := b_eq rfl (by decide) c22
            refine lv_aload_n hx hb dX12_component_58 rfl (lv_at hl 1 rfl) ?_
            refine va_get (D := D) (ci := 12) (v := .ref (ad 22)) (C := RX12) (T := TX12) (N := 100) hx hb hg inX12 hown hK hP 0 rfl rfl 22 (by decide) (hg _ w1728) (fun _ h9 => h9) rfl dX12_component_59 ?_
            refine lv_iload_n hx hb dX12_component_62 rfl (lv_at hl 0 rfl) ?_
            refine va_iald (D := D) (i := z21) hx hb hK hP 15 14 rfl rfl (i_in (a := z21.toInt) rfl (by (first | exact om_af63ae00f401 f4 r5.1 r5.2 r6.2 f10 hz20 hz21 | omega))) dX12_component_63 ?_
            refine g_top (v := (V 22 (Int32.toNatClampNeg z21))) (up2_o hV19 (by decide)) ?_
            refine lv_goto (tgt := 122) hx hb dX12_component_64 (by decide) ?_
            exact W.iret (v := (V 22 (Int32.toNatClampNeg z21))) hx hb hr (fun t ht hW => ⟨⟨(V 22 (Int32.toNatClampNeg z21)), (V19, L), rfl, ⟨hMV19, agV19, rfl⟩, by rw [ht]; exact hP, va_K.moved hW.alike hK, hD⟩, hS.F ht⟩) hS.2.2 dX12_component_122
abbrev r_s_count : Room := { frames := 0, cells := 0, slots := 0, locals := 0 }
abbrev q_s_count (D : va_G) (ks : KS) (ad : Nat → Nat) (kk : Nat → ClassId) (V : Vf) (L : Lf) (p0 : Int32) (A : Nat → Prop) : Array Value → State → Outcome → State → Prop := va_Qi (fun (r : Int32) (u : Vf × Lf) => rgd bM u.1 ∧ agr [(0, 0)] [] V u.1 ∧ u.2 = L) (fun u t => gq D A (mw ad kk ks.1 u.1 u.2) (mty kk) t) A
abbrev r_s_notes : Room := { frames := 0, cells := 0, slots := 0, locals := 0 }
abbrev q_s_notes (D : va_G) (ks : KS) (ad : Nat → Nat) (kk : Nat → ClassId) (V : Vf) (L : Lf) (p0 : Int32) (p1 : Int32) (p2 : Int32) (A : Nat → Prop) : Array Value → State → Outcome → State → Prop := va_Qv (fun (u : Vf × Lf) => rgd bM u.1 ∧ agr [(0, 76)] [77, 78, 79] V u.1 ∧ u.2 = L ∧ ((u.1 0 76).toInt = (V 0 76).toInt + 1)) (fun u t => gq D A (mw ad kk ks.1 u.1 u.2) (mty kk) t) A
end
