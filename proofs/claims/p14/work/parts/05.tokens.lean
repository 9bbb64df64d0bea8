theorem w1714 : Cond.fieldLink RX12 267 "WiringHouseModel" "fault" "I" ∈ GW := gw_k tk9_7 119 (by decide +kernel) rfl
theorem w1711 : Cond.fieldLink RX12 27 "WiringHouseModel" "place" "[I" ∈ GW := gw_k tk9_7 116 (by decide +kernel) rfl
theorem w1713 : Cond.fieldLink RX12 264 "WiringHouseModel" "at" "I" ∈ GW := gw_k tk9_7 118 (by decide +kernel) rfl
theorem w1710 : Cond.fieldLink RX12 24 "WiringHouseModel" "sort" "[I" ∈ GW := gw_k tk9_7 115 (by decide +kernel) rfl
theorem w1712 : Cond.fieldLink RX12 30 "WiringHouseModel" "word" "[J" ∈ GW := gw_k tk9_7 117 (by decide +kernel) rfl
theorem w1716 : Cond.fieldLink RX12 40 "WiringHouseModel" "words" "[J" ∈ GW := gw_k tk9_7 121 (by decide +kernel) rfl
theorem w2074 : Cond.code yX12_isSign cX12_isSign 2 (some .boolean) ∈ GW := gw_k tk9_8 239 (rfl) rfl
theorem w2071 : Cond.methodLink RX12 270 yX12_isSign ∈ GW := gw_k tk9_8 236 (by decide +kernel) rfl
theorem w2073 : Cond.instanceMethod yX12_isSign ∈ GW := gw_k tk9_8 238 (by decide +kernel) rfl
theorem w95 : Cond.selects RX12 yX12_isSign yX12_isSign ∈ GW := gw_mem 95 (by decide +kernel) rfl
theorem hdV_yX12_isSign : yX12_isSign.cls = RX12 ∧ yX12_isSign.cls ≠ "java/lang/invoke/MethodHandle" ∧ yX12_isSign.cls ≠ "java/lang/invoke/VarHandle" ∧ (parseMethodDescriptor yX12_isSign.desc).map (fun d => d.parameters.length) = some 1 := by decide +kernel
theorem w2038 : Cond.code yX12_wrong cX12_wrong 2 none ∈ GW := gw_k tk9_8 203 (rfl) rfl
theorem w2035 : Cond.methodLink RX12 273 yX12_wrong ∈ GW := gw_k tk9_8 200 (by decide +kernel) rfl
theorem w2037 : Cond.instanceMethod yX12_wrong ∈ GW := gw_k tk9_8 202 (by decide +kernel) rfl
theorem w86 : Cond.selects RX12 yX12_wrong yX12_wrong ∈ GW := gw_mem 86 (by decide +kernel) rfl
theorem hdV_yX12_wrong : yX12_wrong.cls = RX12 ∧ yX12_wrong.cls ≠ "java/lang/invoke/MethodHandle" ∧ yX12_wrong.cls ≠ "java/lang/invoke/VarHandle" ∧ (parseMethodDescriptor yX12_wrong.desc).map (fun d => d.parameters.length) = some 1 := by decide +kernel
theorem w2026 : Cond.code yX12_isWord cX12_isWord 2 (some .boolean) ∈ GW := gw_k tk9_8 191 (rfl) rfl
theorem w2023 : Cond.methodLink RX12 277 yX12_isWord ∈ GW := gw_k tk9_8 188 (by decide +kernel) rfl
theorem w2025 : Cond.instanceMethod yX12_isWord ∈ GW := gw_k tk9_8 190 (by decide +kernel) rfl
theorem w83 : Cond.selects RX12 yX12_isWord yX12_isWord ∈ GW := gw_mem 83 (by decide +kernel) rfl
theorem hdV_yX12_isWord : yX12_isWord.cls = RX12 ∧ yX12_isWord.cls ≠ "java/lang/invoke/MethodHandle" ∧ yX12_isWord.cls ≠ "java/lang/invoke/VarHandle" ∧ (parseMethodDescriptor yX12_isWord.desc).map (fun d => d.parameters.length) = some 1 := by decide +kernel
theorem w2054 : Cond.code yX12_hasWord cX12_hasWord 3 (some .boolean) ∈ GW := gw_k tk9_8 219 (rfl) rfl
theorem w2051 : Cond.methodLink RX12 280 yX12_hasWord ∈ GW := gw_k tk9_8 216 (by decide +kernel) rfl
theorem w2053 : Cond.instanceMethod yX12_hasWord ∈ GW := gw_k tk9_8 218 (by decide +kernel) rfl
theorem w90 : Cond.selects RX12 yX12_hasWord yX12_hasWord ∈ GW := gw_mem 90 (by decide +kernel) rfl
theorem hdV_yX12_hasWord : yX12_hasWord.cls = RX12 ∧ yX12_hasWord.cls ≠ "java/lang/invoke/MethodHandle" ∧ yX12_hasWord.cls ≠ "java/lang/invoke/VarHandle" ∧ (parseMethodDescriptor yX12_hasWord.desc).map (fun d => d.parameters.length) = some 1 := by decide +kernel
theorem dk9_dX12_wrong_0_0 : dOk cX12_wrong [(0, .aload_n 0, 1), (1, .getfield 267, 3), (4, .ifCond .ne 21, 3), (25, .return_, 1), (7, .aload_n 0, 1), (8, .iload_n 1, 1), (9, .bipush 16, 2), (11, .aload_n 0, 1), (12, .getfield 27, 3), (15, .aload_n 0, 1), (16, .getfield 264, 3), (19, .iaload, 1), (20, .imul, 1), (21, .iadd, 1), (22, .putfield 267, 3)] = true := by decide +kernel
theorem dX12_wrong_0 : decode cX12_wrong 0 = .ok (.aload_n 0, 1) := dr9 dk9_dX12_wrong_0_0 0 (0, .aload_n 0, 1) rfl
theorem dX12_wrong_1 : decode cX12_wrong 1 = .ok (.getfield 267, 3) := dr9 dk9_dX12_wrong_0_0 1 (1, .getfield 267, 3) rfl
theorem dX12_wrong_4 : decode cX12_wrong 4 = .ok (.ifCond .ne 21, 3) := dr9 dk9_dX12_wrong_0_0 2 (4, .ifCond .ne 21, 3) rfl
theorem dX12_wrong_25 : decode cX12_wrong 25 = .ok (.return_, 1) := dr9 dk9_dX12_wrong_0_0 3 (25, .return_, 1) rfl
theorem dX12_wrong_7 : decode cX12_wrong 7 = .ok (.aload_n 0, 1) := dr9 dk9_dX12_wrong_0_0 4 (7, .aload_n 0, 1) rfl
theorem dX12_wrong_8 : decode cX12_wrong 8 = .ok (.iload_n 1, 1) := dr9 dk9_dX12_wrong_0_0 5 (8, .iload_n 1, 1) rfl
theorem dX12_wrong_9 : decode cX12_wrong 9 = .ok (.bipush 16, 2) := dr9 dk9_dX12_wrong_0_0 6 (9, .bipush 16, 2) rfl
theorem dX12_wrong_11 : decode cX12_wrong 11 = .ok (.aload_n 0, 1) := dr9 dk9_dX12_wrong_0_0 7 (11, .aload_n 0, 1) rfl
theorem dX12_wrong_12 : decode cX12_wrong 12 = .ok (.getfield 27, 3) := dr9 dk9_dX12_wrong_0_0 8 (12, .getfield 27, 3) rfl
theorem dX12_wrong_15 : decode cX12_wrong 15 = .ok (.aload_n 0, 1) := dr9 dk9_dX12_wrong_0_0 9 (15, .aload_n 0, 1) rfl
theorem dX12_wrong_16 : decode cX12_wrong 16 = .ok (.getfield 264, 3) := dr9 dk9_dX12_wrong_0_0 10 (16, .getfield 264, 3) rfl
theorem dX12_wrong_19 : decode cX12_wrong 19 = .ok (.iaload, 1) := dr9 dk9_dX12_wrong_0_0 11 (19, .iaload, 1) rfl
theorem dX12_wrong_20 : decode cX12_wrong 20 = .ok (.imul, 1) := dr9 dk9_dX12_wrong_0_0 12 (20, .imul, 1) rfl
theorem dX12_wrong_21 : decode cX12_wrong 21 = .ok (.iadd, 1) := dr9 dk9_dX12_wrong_0_0 13 (21, .iadd, 1) rfl
theorem dX12_wrong_22 : decode cX12_wrong 22 = .ok (.putfield 267, 3) := dr9 dk9_dX12_wrong_0_0 14 (22, .putfield 267, 3) rfl
theorem dk9_dX12_isSign_0_0 : dOk cX12_isSign [(0, .aload_n 0, 1), (1, .getfield 267, 3), (4, .ifCond .ne 35, 3), (39, .iconst 0, 1), (40, .ireturn, 1), (7, .aload_n 0, 1), (8, .getfield 24, 3), (11, .aload_n 0, 1), (12, .getfield 264, 3), (15, .iaload, 1), (16, .iconst 3, 1), (17, .if_icmp .ne 22, 3), (20, .aload_n 0, 1), (21, .getfield 30, 3), (24, .aload_n 0, 1), (25, .getfield 264, 3), (28, .laload, 1), (29, .iload_n 1, 1), (30, .i2l, 1), (31, .lcmp, 1), (32, .ifCond .ne 7, 3), (35, .iconst 1, 1), (36, .goto 4, 3)] = true := by decide +kernel
theorem dX12_isSign_0 : decode cX12_isSign 0 = .ok (.aload_n 0, 1) := dr9 dk9_dX12_isSign_0_0 0 (0, .aload_n 0, 1) rfl
theorem dX12_isSign_1 : decode cX12_isSign 1 = .ok (.getfield 267, 3) := dr9 dk9_dX12_isSign_0_0 1 (1, .getfield 267, 3) rfl
theorem dX12_isSign_4 : decode cX12_isSign 4 = .ok (.ifCond .ne 35, 3) := dr9 dk9_dX12_isSign_0_0 2 (4, .ifCond .ne 35, 3) rfl
theorem dX12_isSign_39 : decode cX12_isSign 39 = .ok (.iconst 0, 1) := dr9 dk9_dX12_isSign_0_0 3 (39, .iconst 0, 1) rfl
theorem dX12_isSign_40 : decode cX12_isSign 40 = .ok (.ireturn, 1) := dr9 dk9_dX12_isSign_0_0 4 (40, .ireturn, 1) rfl
theorem dX12_isSign_7 : decode cX12_isSign 7 = .ok (.aload_n 0, 1) := dr9 dk9_dX12_isSign_0_0 5 (7, .aload_n 0, 1) rfl
theorem dX12_isSign_8 : decode cX12_isSign 8 = .ok (.getfield 24, 3) := dr9 dk9_dX12_isSign_0_0 6 (8, .getfield 24, 3) rfl
theorem dX12_isSign_11 : decode cX12_isSign 11 = .ok (.aload_n 0, 1) := dr9 dk9_dX12_isSign_0_0 7 (11, .aload_n 0, 1) rfl
theorem dX12_isSign_12 : decode cX12_isSign 12 = .ok (.getfield 264, 3) := dr9 dk9_dX12_isSign_0_0 8 (12, .getfield 264, 3) rfl
theorem dX12_isSign_15 : decode cX12_isSign 15 = .ok (.iaload, 1) := dr9 dk9_dX12_isSign_0_0 9 (15, .iaload, 1) rfl
theorem dX12_isSign_16 : decode cX12_isSign 16 = .ok (.iconst 3, 1) := dr9 dk9_dX12_isSign_0_0 10 (16, .iconst 3, 1) rfl
theorem dX12_isSign_17 : decode cX12_isSign 17 = .ok (.if_icmp .ne 22, 3) := dr9 dk9_dX12_isSign_0_0 11 (17, .if_icmp .ne 22, 3) rfl
theorem dX12_isSign_20 : decode cX12_isSign 20 = .ok (.aload_n 0, 1) := dr9 dk9_dX12_isSign_0_0 12 (20, .aload_n 0, 1) rfl
theorem dX12_isSign_21 : decode cX12_isSign 21 = .ok (.getfield 30, 3) := dr9 dk9_dX12_isSign_0_0 13 (21, .getfield 30, 3) rfl
theorem dX12_isSign_24 : decode cX12_isSign 24 = .ok (.aload_n 0, 1) := dr9 dk9_dX12_isSign_0_0 14 (24, .aload_n 0, 1) rfl
theorem dX12_isSign_25 : decode cX12_isSign 25 = .ok (.getfield 264, 3) := dr9 dk9_dX12_isSign_0_0 15 (25, .getfield 264, 3) rfl
theorem dX12_isSign_28 : decode cX12_isSign 28 = .ok (.laload, 1) := dr9 dk9_dX12_isSign_0_0 16 (28, .laload, 1) rfl
theorem dX12_isSign_29 : decode cX12_isSign 29 = .ok (.iload_n 1, 1) := dr9 dk9_dX12_isSign_0_0 17 (29, .iload_n 1, 1) rfl
theorem dX12_isSign_30 : decode cX12_isSign 30 = .ok (.i2l, 1) := dr9 dk9_dX12_isSign_0_0 18 (30, .i2l, 1) rfl
theorem dX12_isSign_31 : decode cX12_isSign 31 = .ok (.lcmp, 1) := dr9 dk9_dX12_isSign_0_0 19 (31, .lcmp, 1) rfl
theorem dX12_isSign_32 : decode cX12_isSign 32 = .ok (.ifCond .ne 7, 3) := dr9 dk9_dX12_isSign_0_0 20 (32, .ifCond .ne 7, 3) rfl
theorem dX12_isSign_35 : decode cX12_isSign 35 = .ok (.iconst 1, 1) := dr9 dk9_dX12_isSign_0_0 21 (35, .iconst 1, 1) rfl
theorem dX12_isSign_36 : decode cX12_isSign 36 = .ok (.goto 4, 3) := dr9 dk9_dX12_isSign_0_0 22 (36, .goto 4, 3) rfl
theorem dk9_dX12_isWord_0_0 : dOk cX12_isWord [(0, .aload_n 0, 1), (1, .getfield 267, 3), (4, .ifCond .ne 39, 3), (43, .iconst 0, 1), (44, .ireturn, 1), (7, .aload_n 0, 1), (8, .getfield 24, 3), (11, .aload_n 0, 1), (12, .getfield 264, 3), (15, .iaload, 1), (16, .iconst 1, 1), (17, .if_icmp .ne 26, 3), (20, .aload_n 0, 1), (21, .getfield 30, 3), (24, .aload_n 0, 1), (25, .getfield 264, 3), (28, .laload, 1), (29, .aload_n 0, 1), (30, .getfield 40, 3), (33, .iload_n 1, 1), (34, .laload, 1), (35, .lcmp, 1), (36, .ifCond .ne 7, 3), (39, .iconst 1, 1)] = true ∧ dOk cX12_isWord [(40, .goto 4, 3)] = true := by decide +kernel
theorem dX12_isWord_0 : decode cX12_isWord 0 = .ok (.aload_n 0, 1) := dr9 dk9_dX12_isWord_0_0.1 0 (0, .aload_n 0, 1) rfl
theorem dX12_isWord_1 : decode cX12_isWord 1 = .ok (.getfield 267, 3) := dr9 dk9_dX12_isWord_0_0.1 1 (1, .getfield 267, 3) rfl
theorem dX12_isWord_4 : decode cX12_isWord 4 = .ok (.ifCond .ne 39, 3) := dr9 dk9_dX12_isWord_0_0.1 2 (4, .ifCond .ne 39, 3) rfl
theorem dX12_isWord_43 : decode cX12_isWord 43 = .ok (.iconst 0, 1) := dr9 dk9_dX12_isWord_0_0.1 3 (43, .iconst 0, 1) rfl
theorem dX12_isWord_44 : decode cX12_isWord 44 = .ok (.ireturn, 1) := dr9 dk9_dX12_isWord_0_0.1 4 (44, .ireturn, 1) rfl
theorem dX12_isWord_7 : decode cX12_isWord 7 = .ok (.aload_n 0, 1) := dr9 dk9_dX12_isWord_0_0.1 5 (7, .aload_n 0, 1) rfl
theorem dX12_isWord_8 : decode cX12_isWord 8 = .ok (.getfield 24, 3) := dr9 dk9_dX12_isWord_0_0.1 6 (8, .getfield 24, 3) rfl
theorem dX12_isWord_11 : decode cX12_isWord 11 = .ok (.aload_n 0, 1) := dr9 dk9_dX12_isWord_0_0.1 7 (11, .aload_n 0, 1) rfl
theorem dX12_isWord_12 : decode cX12_isWord 12 = .ok (.getfield 264, 3) := dr9 dk9_dX12_isWord_0_0.1 8 (12, .getfield 264, 3) rfl
theorem dX12_isWord_15 : decode cX12_isWord 15 = .ok (.iaload, 1) := dr9 dk9_dX12_isWord_0_0.1 9 (15, .iaload, 1) rfl
theorem dX12_isWord_16 : decode cX12_isWord 16 = .ok (.iconst 1, 1) := dr9 dk9_dX12_isWord_0_0.1 10 (16, .iconst 1, 1) rfl
theorem dX12_isWord_17 : decode cX12_isWord 17 = .ok (.if_icmp .ne 26, 3) := dr9 dk9_dX12_isWord_0_0.1 11 (17, .if_icmp .ne 26, 3) rfl
theorem dX12_isWord_20 : decode cX12_isWord 20 = .ok (.aload_n 0, 1) := dr9 dk9_dX12_isWord_0_0.1 12 (20, .aload_n 0, 1) rfl
theorem dX12_isWord_21 : decode cX12_isWord 21 = .ok (.getfield 30, 3) := dr9 dk9_dX12_isWord_0_0.1 13 (21, .getfield 30, 3) rfl
theorem dX12_isWord_24 : decode cX12_isWord 24 = .ok (.aload_n 0, 1) := dr9 dk9_dX12_isWord_0_0.1 14 (24, .aload_n 0, 1) rfl
theorem dX12_isWord_25 : decode cX12_isWord 25 = .ok (.getfield 264, 3) := dr9 dk9_dX12_isWord_0_0.1 15 (25, .getfield 264, 3) rfl
theorem dX12_isWord_28 : decode cX12_isWord 28 = .ok (.laload, 1) := dr9 dk9_dX12_isWord_0_0.1 16 (28, .laload, 1) rfl
theorem dX12_isWord_29 : decode cX12_isWord 29 = .ok (.aload_n 0, 1) := dr9 dk9_dX12_isWord_0_0.1 17 (29, .aload_n 0, 1) rfl
theorem dX12_isWord_30 : decode cX12_isWord 30 = .ok (.getfield 40, 3) := dr9 dk9_dX12_isWord_0_0.1 18 (30, .getfield 40, 3) rfl
theorem dX12_isWord_33 : decode cX12_isWord 33 = .ok (.iload_n 1, 1) := dr9 dk9_dX12_isWord_0_0.1 19 (33, .iload_n 1, 1) rfl
theorem dX12_isWord_34 : decode cX12_isWord 34 = .ok (.laload, 1) := dr9 dk9_dX12_isWord_0_0.1 20 (34, .laload, 1) rfl
theorem dX12_isWord_35 : decode cX12_isWord 35 = .ok (.lcmp, 1) := dr9 dk9_dX12_isWord_0_0.1 21 (35, .lcmp, 1) rfl
theorem dX12_isWord_36 : decode cX12_isWord 36 = .ok (.ifCond .ne 7, 3) := dr9 dk9_dX12_isWord_0_0.1 22 (36, .ifCond .ne 7, 3) rfl
theorem dX12_isWord_39 : decode cX12_isWord 39 = .ok (.iconst 1, 1) := dr9 dk9_dX12_isWord_0_0.1 23 (39, .iconst 1, 1) rfl
theorem dX12_isWord_40 : decode cX12_isWord 40 = .ok (.goto 4, 3) := dr9 dk9_dX12_isWord_0_0.2 0 (40, .goto 4, 3) rfl
theorem dk9_dX12_takeSign_0_0 : dOk cX12_takeSign [(0, .aload_n 0, 1), (1, .iload_n 1, 1), (2, .invokevirtual 270, 3), (5, .ifCond .eq 16, 3), (21, .aload_n 0, 1), (22, .iconst 1, 1), (23, .invokevirtual 273, 3), (26, .return_, 1), (8, .aload_n 0, 1), (9, .dup, 1), (10, .getfield 264, 3), (13, .iconst 1, 1), (14, .iadd, 1), (15, .putfield 264, 3), (18, .goto 8, 3)] = true := by decide +kernel
theorem dX12_takeSign_0 : decode cX12_takeSign 0 = .ok (.aload_n 0, 1) := dr9 dk9_dX12_takeSign_0_0 0 (0, .aload_n 0, 1) rfl
theorem dX12_takeSign_1 : decode cX12_takeSign 1 = .ok (.iload_n 1, 1) := dr9 dk9_dX12_takeSign_0_0 1 (1, .iload_n 1, 1) rfl
theorem dX12_takeSign_2 : decode cX12_takeSign 2 = .ok (.invokevirtual 270, 3) := dr9 dk9_dX12_takeSign_0_0 2 (2, .invokevirtual 270, 3) rfl
theorem dX12_takeSign_5 : decode cX12_takeSign 5 = .ok (.ifCond .eq 16, 3) := dr9 dk9_dX12_takeSign_0_0 3 (5, .ifCond .eq 16, 3) rfl
theorem dX12_takeSign_21 : decode cX12_takeSign 21 = .ok (.aload_n 0, 1) := dr9 dk9_dX12_takeSign_0_0 4 (21, .aload_n 0, 1) rfl
theorem dX12_takeSign_22 : decode cX12_takeSign 22 = .ok (.iconst 1, 1) := dr9 dk9_dX12_takeSign_0_0 5 (22, .iconst 1, 1) rfl
theorem dX12_takeSign_23 : decode cX12_takeSign 23 = .ok (.invokevirtual 273, 3) := dr9 dk9_dX12_takeSign_0_0 6 (23, .invokevirtual 273, 3) rfl
theorem dX12_takeSign_26 : decode cX12_takeSign 26 = .ok (.return_, 1) := dr9 dk9_dX12_takeSign_0_0 7 (26, .return_, 1) rfl
theorem dX12_takeSign_8 : decode cX12_takeSign 8 = .ok (.aload_n 0, 1) := dr9 dk9_dX12_takeSign_0_0 8 (8, .aload_n 0, 1) rfl
theorem dX12_takeSign_9 : decode cX12_takeSign 9 = .ok (.dup, 1) := dr9 dk9_dX12_takeSign_0_0 9 (9, .dup, 1) rfl
theorem dX12_takeSign_10 : decode cX12_takeSign 10 = .ok (.getfield 264, 3) := dr9 dk9_dX12_takeSign_0_0 10 (10, .getfield 264, 3) rfl
theorem dX12_takeSign_13 : decode cX12_takeSign 13 = .ok (.iconst 1, 1) := dr9 dk9_dX12_takeSign_0_0 11 (13, .iconst 1, 1) rfl
theorem dX12_takeSign_14 : decode cX12_takeSign 14 = .ok (.iadd, 1) := dr9 dk9_dX12_takeSign_0_0 12 (14, .iadd, 1) rfl
theorem dX12_takeSign_15 : decode cX12_takeSign 15 = .ok (.putfield 264, 3) := dr9 dk9_dX12_takeSign_0_0 13 (15, .putfield 264, 3) rfl
theorem dX12_takeSign_18 : decode cX12_takeSign 18 = .ok (.goto 8, 3) := dr9 dk9_dX12_takeSign_0_0 14 (18, .goto 8, 3) rfl
theorem dk9_dX12_hasSign_0_0 : dOk cX12_hasSign [(0, .aload_n 0, 1), (1, .iload_n 1, 1), (2, .invokevirtual 270, 3), (5, .istore_n 2, 1), (6, .aload_n 0, 1), (7, .dup, 1), (8, .getfield 264, 3), (11, .iload_n 2, 1), (12, .ifCond .eq 7, 3), (19, .iconst 0, 1), (20, .iadd, 1), (21, .putfield 264, 3), (24, .iload_n 2, 1), (25, .ireturn, 1), (15, .iconst 1, 1), (16, .goto 4, 3)] = true := by decide +kernel
theorem dX12_hasSign_0 : decode cX12_hasSign 0 = .ok (.aload_n 0, 1) := dr9 dk9_dX12_hasSign_0_0 0 (0, .aload_n 0, 1) rfl
theorem dX12_hasSign_1 : decode cX12_hasSign 1 = .ok (.iload_n 1, 1) := dr9 dk9_dX12_hasSign_0_0 1 (1, .iload_n 1, 1) rfl
theorem dX12_hasSign_2 : decode cX12_hasSign 2 = .ok (.invokevirtual 270, 3) := dr9 dk9_dX12_hasSign_0_0 2 (2, .invokevirtual 270, 3) rfl
theorem dX12_hasSign_5 : decode cX12_hasSign 5 = .ok (.istore_n 2, 1) := dr9 dk9_dX12_hasSign_0_0 3 (5, .istore_n 2, 1) rfl
theorem dX12_hasSign_6 : decode cX12_hasSign 6 = .ok (.aload_n 0, 1) := dr9 dk9_dX12_hasSign_0_0 4 (6, .aload_n 0, 1) rfl
theorem dX12_hasSign_7 : decode cX12_hasSign 7 = .ok (.dup, 1) := dr9 dk9_dX12_hasSign_0_0 5 (7, .dup, 1) rfl
theorem dX12_hasSign_8 : decode cX12_hasSign 8 = .ok (.getfield 264, 3) := dr9 dk9_dX12_hasSign_0_0 6 (8, .getfield 264, 3) rfl
theorem dX12_hasSign_11 : decode cX12_hasSign 11 = .ok (.iload_n 2, 1) := dr9 dk9_dX12_hasSign_0_0 7 (11, .iload_n 2, 1) rfl
theorem dX12_hasSign_12 : decode cX12_hasSign 12 = .ok (.ifCond .eq 7, 3) := dr9 dk9_dX12_hasSign_0_0 8 (12, .ifCond .eq 7, 3) rfl
theorem dX12_hasSign_19 : decode cX12_hasSign 19 = .ok (.iconst 0, 1) := dr9 dk9_dX12_hasSign_0_0 9 (19, .iconst 0, 1) rfl
theorem dX12_hasSign_20 : decode cX12_hasSign 20 = .ok (.iadd, 1) := dr9 dk9_dX12_hasSign_0_0 10 (20, .iadd, 1) rfl
theorem dX12_hasSign_21 : decode cX12_hasSign 21 = .ok (.putfield 264, 3) := dr9 dk9_dX12_hasSign_0_0 11 (21, .putfield 264, 3) rfl
theorem dX12_hasSign_24 : decode cX12_hasSign 24 = .ok (.iload_n 2, 1) := dr9 dk9_dX12_hasSign_0_0 12 (24, .iload_n 2, 1) rfl
theorem dX12_hasSign_25 : decode cX12_hasSign 25 = .ok (.ireturn, 1) := dr9 dk9_dX12_hasSign_0_0 13 (25, .ireturn, 1) rfl
theorem dX12_hasSign_15 : decode cX12_hasSign 15 = .ok (.iconst 1, 1) := dr9 dk9_dX12_hasSign_0_0 14 (15, .iconst 1, 1) rfl
theorem dX12_hasSign_16 : decode cX12_hasSign 16 = .ok (.goto 4, 3) := dr9 dk9_dX12_hasSign_0_0 15 (16, .goto 4, 3) rfl
theorem dk9_dX12_hasWord_0_0 : dOk cX12_hasWord [(0, .aload_n 0, 1), (1, .iload_n 1, 1), (2, .invokevirtual 277, 3), (5, .istore_n 2, 1), (6, .aload_n 0, 1), (7, .dup, 1), (8, .getfield 264, 3), (11, .iload_n 2, 1), (12, .ifCond .eq 7, 3), (19, .iconst 0, 1), (20, .iadd, 1), (21, .putfield 264, 3), (24, .iload_n 2, 1), (25, .ireturn, 1), (15, .iconst 1, 1), (16, .goto 4, 3)] = true := by decide +kernel
theorem dX12_hasWord_0 : decode cX12_hasWord 0 = .ok (.aload_n 0, 1) := dr9 dk9_dX12_hasWord_0_0 0 (0, .aload_n 0, 1) rfl
theorem dX12_hasWord_1 : decode cX12_hasWord 1 = .ok (.iload_n 1, 1) := dr9 dk9_dX12_hasWord_0_0 1 (1, .iload_n 1, 1) rfl
theorem dX12_hasWord_2 : decode cX12_hasWord 2 = .ok (.invokevirtual 277, 3) := dr9 dk9_dX12_hasWord_0_0 2 (2, .invokevirtual 277, 3) rfl
theorem dX12_hasWord_5 : decode cX12_hasWord 5 = .ok (.istore_n 2, 1) := dr9 dk9_dX12_hasWord_0_0 3 (5, .istore_n 2, 1) rfl
theorem dX12_hasWord_6 : decode cX12_hasWord 6 = .ok (.aload_n 0, 1) := dr9 dk9_dX12_hasWord_0_0 4 (6, .aload_n 0, 1) rfl
theorem dX12_hasWord_7 : decode cX12_hasWord 7 = .ok (.dup, 1) := dr9 dk9_dX12_hasWord_0_0 5 (7, .dup, 1) rfl
theorem dX12_hasWord_8 : decode cX12_hasWord 8 = .ok (.getfield 264, 3) := dr9 dk9_dX12_hasWord_0_0 6 (8, .getfield 264, 3) rfl
theorem dX12_hasWord_11 : decode cX12_hasWord 11 = .ok (.iload_n 2, 1) := dr9 dk9_dX12_hasWord_0_0 7 (11, .iload_n 2, 1) rfl
theorem dX12_hasWord_12 : decode cX12_hasWord 12 = .ok (.ifCond .eq 7, 3) := dr9 dk9_dX12_hasWord_0_0 8 (12, .ifCond .eq 7, 3) rfl
theorem dX12_hasWord_19 : decode cX12_hasWord 19 = .ok (.iconst 0, 1) := dr9 dk9_dX12_hasWord_0_0 9 (19, .iconst 0, 1) rfl
theorem dX12_hasWord_20 : decode cX12_hasWord 20 = .ok (.iadd, 1) := dr9 dk9_dX12_hasWord_0_0 10 (20, .iadd, 1) rfl
theorem dX12_hasWord_21 : decode cX12_hasWord 21 = .ok (.putfield 264, 3) := dr9 dk9_dX12_hasWord_0_0 11 (21, .putfield 264, 3) rfl
theorem dX12_hasWord_24 : decode cX12_hasWord 24 = .ok (.iload_n 2, 1) := dr9 dk9_dX12_hasWord_0_0 12 (24, .iload_n 2, 1) rfl
theorem dX12_hasWord_25 : decode cX12_hasWord 25 = .ok (.ireturn, 1) := dr9 dk9_dX12_hasWord_0_0 13 (25, .ireturn, 1) rfl
theorem dX12_hasWord_15 : decode cX12_hasWord 15 = .ok (.iconst 1, 1) := dr9 dk9_dX12_hasWord_0_0 14 (15, .iconst 1, 1) rfl
theorem dX12_hasWord_16 : decode cX12_hasWord 16 = .ok (.goto 4, 3) := dr9 dk9_dX12_hasWord_0_0 15 (16, .goto 4, 3) rfl
theorem dk9_dX12_takeWord_0_0 : dOk cX12_takeWord [(0, .aload_n 0, 1), (1, .iload_n 1, 1), (2, .invokevirtual 280, 3), (5, .ifCond .ne 8, 3), (13, .return_, 1), (8, .aload_n 0, 1), (9, .iconst 1, 1), (10, .invokevirtual 273, 3)] = true := by decide +kernel
theorem dX12_takeWord_0 : decode cX12_takeWord 0 = .ok (.aload_n 0, 1) := dr9 dk9_dX12_takeWord_0_0 0 (0, .aload_n 0, 1) rfl
theorem dX12_takeWord_1 : decode cX12_takeWord 1 = .ok (.iload_n 1, 1) := dr9 dk9_dX12_takeWord_0_0 1 (1, .iload_n 1, 1) rfl
theorem dX12_takeWord_2 : decode cX12_takeWord 2 = .ok (.invokevirtual 280, 3) := dr9 dk9_dX12_takeWord_0_0 2 (2, .invokevirtual 280, 3) rfl
theorem dX12_takeWord_5 : decode cX12_takeWord 5 = .ok (.ifCond .ne 8, 3) := dr9 dk9_dX12_takeWord_0_0 3 (5, .ifCond .ne 8, 3) rfl
theorem dX12_takeWord_13 : decode cX12_takeWord 13 = .ok (.return_, 1) := dr9 dk9_dX12_takeWord_0_0 4 (13, .return_, 1) rfl
theorem dX12_takeWord_8 : decode cX12_takeWord 8 = .ok (.aload_n 0, 1) := dr9 dk9_dX12_takeWord_0_0 5 (8, .aload_n 0, 1) rfl
theorem dX12_takeWord_9 : decode cX12_takeWord 9 = .ok (.iconst 1, 1) := dr9 dk9_dX12_takeWord_0_0 6 (9, .iconst 1, 1) rfl
theorem dX12_takeWord_10 : decode cX12_takeWord 10 = .ok (.invokevirtual 273, 3) := dr9 dk9_dX12_takeWord_0_0 7 (10, .invokevirtual 273, 3) rfl
abbrev r_s_wrong : Room := { frames := 0, cells := 0, slots := 0, locals := 0 }
abbrev q_s_wrong (D : va_G) (ks : KS) (ad : Nat → Nat) (kk : Nat → ClassId) (V : Vf) (L : Lf) (p0 : Int32) (n : Nat) (A : Nat → Prop) : Array Value → State → Outcome → State → Prop := va_Qv (fun (u : Vf × Lf) => rgd bM u.1 ∧ agr [(0, 8)] [] V u.1 ∧ u.2 = L ∧ (1 ≤ (u.1 0 8).toInt)) (fun u t => gq D A (mw ad kk ks.1 u.1 u.2) (mty kk) t) A
set_option maxHeartbeats 4000000 in
set_option maxRecDepth 100000 in
theorem s_wrong (l : Launch) (D : va_G) (ks : KS) (sz : Nat) (ad : Nat → Nat) (kk : Nat → ClassId) (V : Vf) (L : Lf) (p0 : Int32) (n : Nat) (hMV : rgd bM V) (rg_p0 : 1 ≤ p0.toInt ∧ p0.toInt ≤ 5) (x1 : (V 4 n).toInt = 0) (x2 : n ≤ 4000) (x3 : Imp ((V 0 8).toInt = 0) (0 ≤ (V 0 7).toInt ∧ (V 0 7).toInt ≤ n))  : Met l yX12_wrong (Cond.code yX12_wrong cX12_wrong 2 none :: GW) r_s_wrong (va_Pc [.ref (ad 0), .int p0] (gp D ks (mw ad kk ks.1 V L) (mty kk) sz)) (q_s_wrong D ks ad kk V L p0 n (va_A (mw ad kk ks.1 V L) sz)) 0 0 (va_A (mw ad kk ks.1 V L) sz) := by
  refine g_met (q_s_wrong D ks ad kk V L p0 n) (by decide) (Nat.le_of_ble_eq_true rfl) ?_
  intro p e s m below meth c A ls H locs hx hb hr hml hown hg hlocks hin hnw hgk hP hK hD hS hA hl
  replace hown : s.vm.findClass RX12 = some m.cls := hown
  replace hl : lv_has ls 2 [(0, .ref (ad 0)), (1, .int p0)] := hl
  replace hP : va_P D vwCl (mw ad kk ks.1 V L) H := hP
  replace hD : va_D A (mw ad kk ks.1 V L) := hD
  replace hK : va_K D vwCl (mty kk) s := hK
  have agV : agr [(0, 8)] [] V V := agr.rf
  have r1 : 0 ≤ ((V 0 8)).toInt ∧ ((V 0 8)).toInt ≤ 70000 := hMV 0 8
  refine lv_aload_n hx hb dX12_wrong_0 rfl (lv_at hl 0 rfl) ?_
  refine va_get (D := D) (ci := 12) (v := .int (V 0 8)) (C := RX12) (T := TX12) (N := 100) hx hb hg inX12 hown hK hP 0 rfl rfl 8 (by decide) (hg _ w1714) (fun _ h9 => h9) rfl dX12_wrong_1 ?_
  refine lv_if_ne (tgt := 25) hx hb dX12_wrong_4 (by decide) (fun c2 => ?_) (fun c2 => ?_)
  · skip
    have f3 : ((V 0 8)).toInt ≠ 0 := b_neq rfl (by decide) c2
    exact W.vret hx hb hr (fun t ht hW => ⟨⟨(V, L), rfl, ⟨hMV, agV, rfl, (show 1 ≤ (V 0 8).toInt from by first | omega | ((try (have i_x3 := Imp.go x3 (by omega))); omega))⟩, by rw [ht]; exact hP, va_K.moved hW.alike hK, hD⟩, hS.F ht⟩) hS.2.2 dX12_wrong_25
  · skip
    have f4 : ((V 0 8)).toInt = 0 := b_eq rfl (by decide) c2
    refine lv_aload_n hx hb dX12_wrong_7 rfl (lv_at hl 0 rfl) ?_
    refine lv_iload_n hx hb dX12_wrong_8 rfl (lv_at hl 1 rfl) ?_
    refine lv_bipush (v := 16) hx hb dX12_wrong_9 (by decide) ?_
    refine lv_aload_n hx hb dX12_wrong_11 rfl (lv_at hl 0 rfl) ?_
    refine va_get (D := D) (ci := 12) (v := .ref (ad 5)) (C := RX12) (T := TX12) (N := 100) hx hb hg inX12 hown hK hP 0 rfl rfl 5 (by decide) (hg _ w1711) (fun _ h9 => h9) rfl dX12_wrong_12 ?_
    refine lv_aload_n hx hb dX12_wrong_15 rfl (lv_at hl 0 rfl) ?_
    refine va_get (D := D) (ci := 12) (v := .int (V 0 7)) (C := RX12) (T := TX12) (N := 100) hx hb hg inX12 hown hK hP 0 rfl rfl 7 (by decide) (hg _ w1713) (fun _ h9 => h9) rfl dX12_wrong_16 ?_
    refine va_iald (D := D) (i := (V 0 7)) hx hb hK hP 3 2 rfl rfl (i_in (a := ((V 0 7)).toInt) rfl (by first | omega | ((try (have i_x3 := Imp.go x3 (by omega))); omega))) dX12_wrong_19 ?_
    have r5 : 0 ≤ ((V 5 (Int32.toNatClampNeg (V 0 7)))).toInt ∧ ((V 5 (Int32.toNatClampNeg (V 0 7)))).toInt ≤ 4000 := hMV 5 (Int32.toNatClampNeg (V 0 7))
    refine lv_imul hx hb dX12_wrong_20 ?_
    refine lv_topi (fun z6 ez6 => ?_)
    have hz6 : z6.toInt = 16 * ((V 5 (Int32.toNatClampNeg (V 0 7)))).toInt := i_mul ez6 (by decide) rfl (by omega)
    refine lv_iadd hx hb dX12_wrong_21 ?_
    refine lv_topi (fun z7 ez7 => ?_)
    have hz7 : z7.toInt = p0.toInt + z6.toInt := i_add ez7 rfl rfl (by omega)
    refine va_put (D := D) (ci := 12) (v := .int z7) (ty := tyX12 8) (C := RX12) (T := TX12) (N := 100) hx hb hg inX12 tyX12 tyX12_ok nmX12 hown hK hP hD hS 0 rfl rfl 8 (by decide) (hg _ w1714) (fun _ h9 => h9) rfl (tyX12_ok 8 (by decide)) rfl rfl (Nat.le_of_ble_eq_true rfl) dX12_wrong_22 (fun H locs hP hD hS => ?_)
    obtain ⟨V8, hV8⟩ : ∃ z, z = up2 V 0 8 z7 := ⟨_, rfl⟩
    have hP : va_P D vwCl (mw ad kk ks.1 V8 L) H := by rw [hV8]; exact hP
    have hD : va_D A (mw ad kk ks.1 V8 L) := by rw [hV8]; exact hD
    have hMV8 : rgd bM V8 := hMV.put hV8 (show 0 ≤ z7.toInt ∧ z7.toInt ≤ 70000 from by first | omega | ((try (have i_x3 := Imp.go x3 (by omega))); omega))
    have agV8 : agr [(0, 8)] [] V V8 := agV.up hV8 rfl
    have pq9 : (V8 0 8).toInt = z7.toInt := congrArg Int32.toInt (up2_s hV8)
    exact W.vret hx hb hr (fun t ht hW => ⟨⟨(V8, L), rfl, ⟨hMV8, agV8, rfl, (show 1 ≤ (V8 0 8).toInt from by first | omega | ((try (have i_x3 := Imp.go x3 (by omega))); omega))⟩, by rw [ht]; exact hP, va_K.moved hW.alike hK, hD⟩, hS.F ht⟩) hS.2.2 dX12_wrong_25
abbrev r_s_isSign : Room := { frames := 0, cells := 0, slots := 0, locals := 0 }
abbrev q_s_isSign (D : va_G) (ks : KS) (ad : Nat → Nat) (kk : Nat → ClassId) (V : Vf) (L : Lf) (p0 : Int32) (n : Nat) (A : Nat → Prop) : Array Value → State → Outcome → State → Prop := va_Qi (fun (r : Int32) (_ : Unit) => (0 ≤ r.toInt ∧ r.toInt ≤ 1) ∧ (Imp (r.toInt = 1) ((V 0 8).toInt = 0 ∧ 0 ≤ (V 0 7).toInt ∧ (V 0 7).toInt < n))) (fun _ t => gq D A (mw ad kk ks.1 V L) (mty kk) t) A
abbrev r_s_isWord : Room := { frames := 0, cells := 0, slots := 0, locals := 0 }
abbrev q_s_isWord (D : va_G) (ks : KS) (ad : Nat → Nat) (kk : Nat → ClassId) (V : Vf) (L : Lf) (p0 : Int32) (n : Nat) (A : Nat → Prop) : Array Value → State → Outcome → State → Prop := va_Qi (fun (r : Int32) (_ : Unit) => (0 ≤ r.toInt ∧ r.toInt ≤ 1) ∧ (Imp (r.toInt = 1) ((V 0 8).toInt = 0 ∧ 0 ≤ (V 0 7).toInt ∧ (V 0 7).toInt < n))) (fun _ t => gq D A (mw ad kk ks.1 V L) (mty kk) t) A
set_option maxHeartbeats 4000000 in
set_option maxRecDepth 100000 in
theorem s_isWord (l : Launch) (D : va_G) (ks : KS) (sz : Nat) (ad : Nat → Nat) (kk : Nat → ClassId) (V : Vf) (L : Lf) (p0 : Int32) (n : Nat) (hMV : rgd bM V) (rg_p0 : 0 ≤ p0.toInt ∧ p0.toInt ≤ 29) (x1 : (V 4 n).toInt = 0) (x2 : n ≤ 4000) (x3 : Imp ((V 0 8).toInt = 0) (0 ≤ (V 0 7).toInt ∧ (V 0 7).toInt ≤ n))  : Met l yX12_isWord (Cond.code yX12_isWord cX12_isWord 2 (some .boolean) :: GW) r_s_isWord (va_Pc [.ref (ad 0), .int p0] (gp D ks (mw ad kk ks.1 V L) (mty kk) sz)) (q_s_isWord D ks ad kk V L p0 n (va_A (mw ad kk ks.1 V L) sz)) 0 0 (va_A (mw ad kk ks.1 V L) sz) := by
  refine g_met (q_s_isWord D ks ad kk V L p0 n) (by decide) (Nat.le_of_ble_eq_true rfl) ?_
  intro p e s m below meth c A ls H locs hx hb hr hml hown hg hlocks hin hnw hgk hP hK hD hS hA hl
  replace hown : s.vm.findClass RX12 = some m.cls := hown
  replace hl : lv_has ls 2 [(0, .ref (ad 0)), (1, .int p0)] := hl
  replace hP : va_P D vwCl (mw ad kk ks.1 V L) H := hP
  replace hD : va_D A (mw ad kk ks.1 V L) := hD
  replace hK : va_K D vwCl (mty kk) s := hK
  have r1 : 0 ≤ ((V 0 8)).toInt ∧ ((V 0 8)).toInt ≤ 70000 := hMV 0 8
  refine lv_aload_n hx hb dX12_isWord_0 rfl (lv_at hl 0 rfl) ?_
  refine va_get (D := D) (ci := 12) (v := .int (V 0 8)) (C := RX12) (T := TX12) (N := 100) hx hb hg inX12 hown hK hP 0 rfl rfl 8 (by decide) (hg _ w1714) (fun _ h9 => h9) rfl dX12_isWord_1 ?_
  refine lv_if_ne (tgt := 43) hx hb dX12_isWord_4 (by decide) (fun c2 => ?_) (fun c2 => ?_)
  · skip
    have f3 : ((V 0 8)).toInt ≠ 0 := b_neq rfl (by decide) c2
    refine lv_iconst (v := 0) hx hb dX12_isWord_43 (by decide) ?_
    exact W.zret (v := 0) hx hb hr rfl (fun t ht hW => ⟨⟨0, (), rfl, ⟨(by decide), (Imp.mk (fun hp => absurd hp (by decide)))⟩, by rw [ht]; exact hP, va_K.moved hW.alike hK, hD⟩, hS.F ht⟩) hS.2.2 dX12_isWord_44
  · skip
    have f4 : ((V 0 8)).toInt = 0 := b_eq rfl (by decide) c2
    refine lv_aload_n hx hb dX12_isWord_7 rfl (lv_at hl 0 rfl) ?_
    refine va_get (D := D) (ci := 12) (v := .ref (ad 4)) (C := RX12) (T := TX12) (N := 100) hx hb hg inX12 hown hK hP 0 rfl rfl 4 (by decide) (hg _ w1710) (fun _ h9 => h9) rfl dX12_isWord_8 ?_
    refine lv_aload_n hx hb dX12_isWord_11 rfl (lv_at hl 0 rfl) ?_
    refine va_get (D := D) (ci := 12) (v := .int (V 0 7)) (C := RX12) (T := TX12) (N := 100) hx hb hg inX12 hown hK hP 0 rfl rfl 7 (by decide) (hg _ w1713) (fun _ h9 => h9) rfl dX12_isWord_12 ?_
    refine va_iald (D := D) (i := (V 0 7)) hx hb hK hP 2 1 rfl rfl (i_in (a := ((V 0 7)).toInt) rfl (by first | omega | ((try (have i_x3 := Imp.go x3 (by omega))); omega))) dX12_isWord_15 ?_
    have t5 := tok_ne (V := V) (x := (V 0 7)) (n := n) x1 (by first | omega | ((try (have i_x3 := Imp.go x3 (by omega))); omega))
    refine lv_iconst (v := 1) hx hb dX12_isWord_16 (by decide) ?_
    refine lv_icmp_ne (tgt := 43) hx hb dX12_isWord_17 (by decide) (fun c6 => ?_) (fun c6 => ?_)
    · skip
      have f7 : ((V 4 (Int32.toNatClampNeg (V 0 7)))).toInt ≠ 1 := b_neq rfl (by decide) c6
      refine lv_iconst (v := 0) hx hb dX12_isWord_43 (by decide) ?_
      exact W.zret (v := 0) hx hb hr rfl (fun t ht hW => ⟨⟨0, (), rfl, ⟨(by decide), (Imp.mk (fun hp => absurd hp (by decide)))⟩, by rw [ht]; exact hP, va_K.moved hW.alike hK, hD⟩, hS.F ht⟩) hS.2.2 dX12_isWord_44
    · skip
      have f8 : ((V 4 (Int32.toNatClampNeg (V 0 7)))).toInt = 1 := b_eq rfl (by decide) c6
      refine lv_aload_n hx hb dX12_isWord_20 rfl (lv_at hl 0 rfl) ?_
      refine va_get (D := D) (ci := 12) (v := .ref (ad 6)) (C := RX12) (T := TX12) (N := 100) hx hb hg inX12 hown hK hP 0 rfl rfl 6 (by decide) (hg _ w1712) (fun _ h9 => h9) rfl dX12_isWord_21 ?_
      refine lv_aload_n hx hb dX12_isWord_24 rfl (lv_at hl 0 rfl) ?_
      refine va_get (D := D) (ci := 12) (v := .int (V 0 7)) (C := RX12) (T := TX12) (N := 100) hx hb hg inX12 hown hK hP 0 rfl rfl 7 (by decide) (hg _ w1713) (fun _ h9 => h9) rfl dX12_isWord_25 ?_
      refine va_lald (D := D) (i := (V 0 7)) hx hb hK hP 4 3 rfl rfl (i_in (a := ((V 0 7)).toInt) rfl (by first | omega | ((try (have i_t5 := Imp.go t5 (by omega))); (try (have i_x3 := Imp.go x3 (by omega))); (try (have i_x3 := Imp.go x3 (by omega))); (try (have i_t5 := Imp.go t5 (by omega))); omega))) dX12_isWord_28 ?_
      refine lv_topl (fun w9 ew9 => ?_)
      refine lv_aload_n hx hb dX12_isWord_29 rfl (lv_at hl 0 rfl) ?_
      refine va_get (D := D) (ci := 12) (v := .ref (ad 10)) (C := RX12) (T := TX12) (N := 100) hx hb hg inX12 hown hK hP 0 rfl rfl 10 (by decide) (hg _ w1716) (fun _ h9 => h9) rfl dX12_isWord_30 ?_
      refine lv_iload_n hx hb dX12_isWord_33 rfl (lv_at hl 1 rfl) ?_
      refine va_lald (D := D) (i := p0) hx hb hK hP 5 4 rfl rfl (i_in (a := p0.toInt) rfl (by first | omega | ((try (have i_t5 := Imp.go t5 (by omega))); (try (have i_x3 := Imp.go x3 (by omega))); (try (have i_x3 := Imp.go x3 (by omega))); (try (have i_t5 := Imp.go t5 (by omega))); omega))) dX12_isWord_34 ?_
      refine lv_topl (fun w10 ew10 => ?_)
      refine W.lcmp hx hb dX12_isWord_35 ?_
      refine lv_topi (fun z11 ez11 => ?_)
      have hz11 : -1 ≤ z11.toInt ∧ z11.toInt ≤ 1 := lcmp_r ez11
      refine lv_if_ne (tgt := 43) hx hb dX12_isWord_36 (by decide) (fun c12 => ?_) (fun c12 => ?_)
      · skip
        have f13 : z11.toInt ≠ 0 := b_neq rfl (by decide) c12
        refine lv_iconst (v := 0) hx hb dX12_isWord_43 (by decide) ?_
        exact W.zret (v := 0) hx hb hr rfl (fun t ht hW => ⟨⟨0, (), rfl, ⟨(by decide), (Imp.mk (fun hp => absurd hp (by decide)))⟩, by rw [ht]; exact hP, va_K.moved hW.alike hK, hD⟩, hS.F ht⟩) hS.2.2 dX12_isWord_44
      · skip
        have f14 : z11.toInt = 0 := b_eq rfl (by decide) c12
        refine lv_iconst (v := 1) hx hb dX12_isWord_39 (by decide) ?_
        refine lv_goto (tgt := 44) hx hb dX12_isWord_40 (by decide) ?_
        exact W.zret (v := 1) hx hb hr rfl (fun t ht hW => ⟨⟨1, (), rfl, ⟨(by decide), (Imp.mk (fun _ => (show (V 0 8).toInt = 0 ∧ 0 ≤ (V 0 7).toInt ∧ (V 0 7).toInt < n from by first | omega | ((try (have i_t5 := Imp.go t5 (by omega))); (try (have i_x3 := Imp.go x3 (by omega))); (try (have i_x3 := Imp.go x3 (by omega))); (try (have i_t5 := Imp.go t5 (by omega))); omega))))⟩, by rw [ht]; exact hP, va_K.moved hW.alike hK, hD⟩, hS.F ht⟩) hS.2.2 dX12_isWord_44
abbrev r_s_takeSign : Room := { frames := 1, cells := 0, slots := 0, locals := 21 }
abbrev q_s_takeSign (D : va_G) (ks : KS) (ad : Nat → Nat) (kk : Nat → ClassId) (V : Vf) (L : Lf) (p0 : Int32) (n : Nat) (A : Nat → Prop) : Array Value → State → Outcome → State → Prop := va_Qv (fun (u : Vf × Lf) => rgd bM u.1 ∧ agr [(0, 7), (0, 8)] [] V u.1 ∧ u.2 = L ∧ (Imp ((u.1 0 8).toInt = 0) (0 ≤ (u.1 0 7).toInt ∧ (u.1 0 7).toInt ≤ n ∧ (V 0 8).toInt = 0 ∧ (V 0 7).toInt ≤ (u.1 0 7).toInt))) (fun u t => gq D A (mw ad kk ks.1 u.1 u.2) (mty kk) t) A
abbrev r_s_hasSign : Room := { frames := 1, cells := 0, slots := 0, locals := 21 }
abbrev q_s_hasSign (D : va_G) (ks : KS) (ad : Nat → Nat) (kk : Nat → ClassId) (V : Vf) (L : Lf) (p0 : Int32) (n : Nat) (A : Nat → Prop) : Array Value → State → Outcome → State → Prop := va_Qi (fun (r : Int32) (u : Vf × Lf) => rgd bM u.1 ∧ agr [(0, 7)] [] V u.1 ∧ u.2 = L ∧ (0 ≤ r.toInt ∧ r.toInt ≤ 1) ∧ (Imp ((u.1 0 8).toInt = 0) (0 ≤ (u.1 0 7).toInt ∧ (u.1 0 7).toInt ≤ n ∧ (V 0 8).toInt = 0 ∧ (V 0 7).toInt ≤ (u.1 0 7).toInt)) ∧ (Imp (r.toInt = 1) ((u.1 0 8).toInt = 0 ∧ (V 0 7).toInt + 1 ≤ (u.1 0 7).toInt))) (fun u t => gq D A (mw ad kk ks.1 u.1 u.2) (mty kk) t) A
abbrev r_s_hasWord : Room := { frames := 1, cells := 0, slots := 0, locals := 21 }
abbrev q_s_hasWord (D : va_G) (ks : KS) (ad : Nat → Nat) (kk : Nat → ClassId) (V : Vf) (L : Lf) (p0 : Int32) (n : Nat) (A : Nat → Prop) : Array Value → State → Outcome → State → Prop := va_Qi (fun (r : Int32) (u : Vf × Lf) => rgd bM u.1 ∧ agr [(0, 7)] [] V u.1 ∧ u.2 = L ∧ (0 ≤ r.toInt ∧ r.toInt ≤ 1) ∧ (Imp ((u.1 0 8).toInt = 0) (0 ≤ (u.1 0 7).toInt ∧ (u.1 0 7).toInt ≤ n ∧ (V 0 8).toInt = 0 ∧ (V 0 7).toInt ≤ (u.1 0 7).toInt)) ∧ (Imp (r.toInt = 1) ((u.1 0 8).toInt = 0 ∧ (V 0 7).toInt + 1 ≤ (u.1 0 7).toInt))) (fun u t => gq D A (mw ad kk ks.1 u.1 u.2) (mty kk) t) A
set_option maxHeartbeats 4000000 in
set_option maxRecDepth 100000 in
theorem s_hasWord (l : Launch) (D : va_G) (ks : KS) (sz : Nat) (ad : Nat → Nat) (kk : Nat → ClassId) (V : Vf) (L : Lf) (p0 : Int32) (n : Nat) (hMV : rgd bM V) (rg_p0 : 0 ≤ p0.toInt ∧ p0.toInt ≤ 29) (x1 : (V 4 n).toInt = 0) (x2 : n ≤ 4000) (x3 : Imp ((V 0 8).toInt = 0) (0 ≤ (V 0 7).toInt ∧ (V 0 7).toInt ≤ n))  : Met l yX12_hasWord (Cond.code yX12_hasWord cX12_hasWord 3 (some .boolean) :: GW) r_s_hasWord (va_Pc [.ref (ad 0), .int p0] (gp D ks (mw ad kk ks.1 V L) (mty kk) sz)) (q_s_hasWord D ks ad kk V L p0 n (va_A (mw ad kk ks.1 V L) sz)) 0 0 (va_A (mw ad kk ks.1 V L) sz) := by
  refine g_met (q_s_hasWord D ks ad kk V L p0 n) (by decide) (Nat.le_of_ble_eq_true rfl) ?_
  intro p e s m below meth c A ls H locs hx hb hr hml hown hg hlocks hin hnw hgk hP hK hD hS hA hl
  replace hown : s.vm.findClass RX12 = some m.cls := hown
  replace hl : lv_has ls 3 [(0, .ref (ad 0)), (1, .int p0)] := hl
  replace hP : va_P D vwCl (mw ad kk ks.1 V L) H := hP
  replace hD : va_D A (mw ad kk ks.1 V L) := hD
  replace hK : va_K D vwCl (mty kk) s := hK
  have agV : agr [(0, 7)] [] V V := agr.rf
  have r1 : 0 ≤ ((V 0 8)).toInt ∧ ((V 0 8)).toInt ≤ 70000 := hMV 0 8
  refine lv_aload_n hx hb dX12_hasWord_0 rfl (lv_at hl 0 rfl) ?_
  refine lv_iload_n hx hb dX12_hasWord_1 rfl (lv_at hl 1 rfl) ?_
  refine gA_int (gA_runV (As := [.int p0]) (rest := []) (ci := 12) (q0 := 0) hx hb hml hown hg hP hD hK hS hA hnw hgk (s_isWord l D ks H.size ad kk V L p0 (n) hMV (by first | omega | ((try (have i_x3 := Imp.go x3 (by omega))); omega)) (show (V 4 (n)).toInt = 0 from by first | omega | ((try (have i_x3 := Imp.go x3 (by omega))); omega)) (show (n) ≤ 4000 from by first | omega | ((try (have i_x3 := Imp.go x3 (by omega))); omega)) (Imp.mk (fun hp => have hp : (V 0 8).toInt = 0 := hp; (show 0 ≤ (V 0 7).toInt ∧ (V 0 7).toInt ≤ (n) from by first | omega | ((try (have i_x3 := Imp.go x3 (by omega))); omega))))) w2023 w2025 w83 w172 w2026 rfl rfl hdV_yX12_isWord ⟨Nat.le_of_ble_eq_true rfl, Nat.le_of_ble_eq_true rfl⟩ rfl hl.1 rfl (Nat.le_of_ble_eq_true rfl) dX12_hasWord_2 ⟨Nat.le_of_ble_eq_true rfl, Nat.le_of_ble_eq_true rfl⟩) hP hD hK hS hA (fun z2 u3 H locs w4 hP hD hK hS => ?_)
  obtain ⟨rgz2, t5⟩ := w4
  replace rgz2 : 0 ≤ z2.toInt ∧ z2.toInt ≤ 1 := rgz2
  replace t5 : Imp (z2.toInt = 1) ((V 0 8).toInt = 0 ∧ 0 ≤ (V 0 7).toInt ∧ (V 0 7).toInt < (n)) := t5
  refine lv_istore_n (lv' := [(2, .int z2), (0, .ref (ad 0)), (1, .int p0)]) hx hb dX12_hasWord_5 rfl hl (by decide) rfl (fun ls hl => ?_)
  refine lv_aload_n hx hb dX12_hasWord_6 rfl (lv_at hl 1 rfl) ?_
  refine lv_dup hx hb dX12_hasWord_7 rfl ?_
  refine va_get (D := D) (ci := 12) (v := .int (V 0 7)) (C := RX12) (T := TX12) (N := 100) hx hb hg inX12 hown hK hP 0 rfl rfl 7 (by decide) (hg _ w1713) (fun _ h9 => h9) rfl dX12_hasWord_8 ?_
  refine lv_iload_n hx hb dX12_hasWord_11 rfl (lv_at hl 0 rfl) ?_
  refine lv_if_eq (tgt := 19) hx hb dX12_hasWord_12 (by decide) (fun c6 => ?_) (fun c6 => ?_)
  · skip
    have f7 : z2.toInt = 0 := b_eq rfl (by decide) c6
    refine lv_iconst (v := 0) hx hb dX12_hasWord_19 (by decide) ?_
    refine lv_iadd hx hb dX12_hasWord_20 ?_
    have r8 := i_full (V 0 7)
    refine lv_topi (fun z9 ez9 => ?_)
    have hz9 : z9.toInt = ((V 0 7)).toInt + 0 := i_add ez9 rfl (by decide) (by omega)
    refine va_put (D := D) (ci := 12) (v := .int z9) (ty := tyX12 7) (C := RX12) (T := TX12) (N := 100) hx hb hg inX12 tyX12 tyX12_ok nmX12 hown hK hP hD hS 0 rfl rfl 7 (by decide) (hg _ w1713) (fun _ h9 => h9) rfl (tyX12_ok 7 (by decide)) rfl rfl (Nat.le_of_ble_eq_true rfl) dX12_hasWord_21 (fun H locs hP hD hS => ?_)
    obtain ⟨V10, hV10⟩ : ∃ z, z = up2 V 0 7 z9 := ⟨_, rfl⟩
    have hP : va_P D vwCl (mw ad kk ks.1 V10 L) H := by rw [hV10]; exact hP
    have hD : va_D A (mw ad kk ks.1 V10 L) := by rw [hV10]; exact hD
    have hMV10 : rgd bM V10 := hMV.put hV10 (i_full _)
    have agV10 : agr [(0, 7)] [] V V10 := agV.up hV10 rfl
    refine lv_iload_n hx hb dX12_hasWord_24 rfl (lv_at hl 0 rfl) ?_
    have pq11 : (V10 0 7).toInt = z9.toInt := congrArg Int32.toInt (up2_s hV10)
    have pq12 : (V10 0 8).toInt = ((V 0 8)).toInt := congrArg Int32.toInt (up2_k hV10 (by decide))
    exact W.zret (v := z2) hx hb hr (nb_ok (by omega)) (fun t ht hW => ⟨⟨z2, (V10, L), rfl, ⟨hMV10, agV10, rfl, (show 0 ≤ z2.toInt ∧ z2.toInt ≤ 1 from by first | omega | ((try (have i_t5 := Imp.go t5 (by omega))); (try (have i_x3 := Imp.go x3 (by omega))); (try (have i_x3 := Imp.go x3 (by omega))); (try (have i_t5 := Imp.go t5 (by omega))); omega)), (Imp.mk (fun hp => have hp : (V10 0 8).toInt = 0 := hp; (show 0 ≤ (V10 0 7).toInt ∧ (V10 0 7).toInt ≤ n ∧ (V 0 8).toInt = 0 ∧ (V 0 7).toInt ≤ (V10 0 7).toInt from by first | omega | ((try (have i_t5 := Imp.go t5 (by omega))); (try (have i_x3 := Imp.go x3 (by omega))); (try (have i_x3 := Imp.go x3 (by omega))); (try (have i_t5 := Imp.go t5 (by omega))); omega)))), (Imp.mk (fun hp => have hp : z2.toInt = 1 := hp; (show (V10 0 8).toInt = 0 ∧ (V 0 7).toInt + 1 ≤ (V10 0 7).toInt from by first | omega | ((try (have i_t5 := Imp.go t5 (by omega))); (try (have i_x3 := Imp.go x3 (by omega))); (try (have i_x3 := Imp.go x3 (by omega))); (try (have i_t5 := Imp.go t5 (by omega))); omega))))⟩, by rw [ht]; exact hP, va_K.moved hW.alike hK, hD⟩, hS.F ht⟩) hS.2.2 dX12_hasWord_25
  · skip
    have f13 : z2.toInt ≠ 0 := b_neq rfl (by decide) c6
    refine lv_iconst (v := 1) hx hb dX12_hasWord_15 (by decide) ?_
    refine lv_goto (tgt := 20) hx hb dX12_hasWord_16 (by decide) ?_
    refine lv_iadd hx hb dX12_hasWord_20 ?_
    have r14 := i_full (V 0 7)
    refine lv_topi (fun z15 ez15 => ?_)
    have hz15 : Imp (-2147483648 ≤ ((V 0 7)).toInt + 1 ∧ ((V 0 7)).toInt + 1 ≤ 2147483647) (z15.toInt = ((V 0 7)).toInt + 1) := Imp.mk (fun hp => i_add ez15 rfl (by decide) hp)
    refine va_put (D := D) (ci := 12) (v := .int z15) (ty := tyX12 7) (C := RX12) (T := TX12) (N := 100) hx hb hg inX12 tyX12 tyX12_ok nmX12 hown hK hP hD hS 0 rfl rfl 7 (by decide) (hg _ w1713) (fun _ h9 => h9) rfl (tyX12_ok 7 (by decide)) rfl rfl (Nat.le_of_ble_eq_true rfl) dX12_hasWord_21 (fun H locs hP hD hS => ?_)
    obtain ⟨V16, hV16⟩ : ∃ z, z = up2 V 0 7 z15 := ⟨_, rfl⟩
    have hP : va_P D vwCl (mw ad kk ks.1 V16 L) H := by rw [hV16]; exact hP
    have hD : va_D A (mw ad kk ks.1 V16 L) := by rw [hV16]; exact hD
    have hMV16 : rgd bM V16 := hMV.put hV16 (i_full _)
    have agV16 : agr [(0, 7)] [] V V16 := agV.up hV16 rfl
    refine lv_iload_n hx hb dX12_hasWord_24 rfl (lv_at hl 0 rfl) ?_
    have pq17 : (V16 0 7).toInt = z15.toInt := congrArg Int32.toInt (up2_s hV16)
    have pq18 : (V16 0 8).toInt = ((V 0 8)).toInt := congrArg Int32.toInt (up2_k hV16 (by decide))
    exact W.zret (v := z2) hx hb hr (nb_ok (by omega)) (fun t ht hW => ⟨⟨z2, (V16, L), rfl, ⟨hMV16, agV16, rfl, (show 0 ≤ z2.toInt ∧ z2.toInt ≤ 1 from by first | omega | ((try (have i_hz15 := Imp.go hz15 (by omega))); (try (have i_t5 := Imp.go t5 (by omega))); (try (have i_x3 := Imp.go x3 (by omega))); (try (have i_x3 := Imp.go x3 (by omega))); (try (have i_t5 := Imp.go t5 (by omega))); (try (have i_hz15 := Imp.go hz15 (by omega))); omega)), (Imp.mk (fun hp => have hp : (V16 0 8).toInt = 0 := hp; (show 0 ≤ (V16 0 7).toInt ∧ (V16 0 7).toInt ≤ n ∧ (V 0 8).toInt = 0 ∧ (V 0 7).toInt ≤ (V16 0 7).toInt from by first | omega | ((try (have i_hz15 := Imp.go hz15 (by omega))); (try (have i_t5 := Imp.go t5 (by omega))); (try (have i_x3 := Imp.go x3 (by omega))); (try (have i_x3 := Imp.go x3 (by omega))); (try (have i_t5 := Imp.go t5 (by omega))); (try (have i_hz15 := Imp.go hz15 (by omega))); omega)))), (Imp.mk (fun hp => have hp : z2.toInt = 1 := hp; (show (V16 0 8).toInt = 0 ∧ (V 0 7).toInt + 1 ≤ (V16 0 7).toInt from by first | omega | ((try (have i_hz15 := Imp.go hz15 (by omega))); (try (have i_t5 := Imp.go t5 (by omega))); (try (have i_x3 := Imp.go x3 (by omega))); (try (have i_x3 := Imp.go x3 (by omega))); (try (have i_t5 := Imp.go t5 (by omega))); (try (have i_hz15 := Imp.go hz15 (by omega))); omega))))⟩, by rw [ht]; exact hP, va_K.moved hW.alike hK, hD⟩, hS.F ht⟩) hS.2.2 dX12_hasWord_25
abbrev r_s_takeWord : Room := { frames := 2, cells := 0, slots := 0, locals := 43 }
abbrev q_s_takeWord (D : va_G) (ks : KS) (ad : Nat → Nat) (kk : Nat → ClassId) (V : Vf) (L : Lf) (p0 : Int32) (n : Nat) (A : Nat → Prop) : Array Value → State → Outcome → State → Prop := va_Qv (fun (u : Vf × Lf) => rgd bM u.1 ∧ agr [(0, 7), (0, 8)] [] V u.1 ∧ u.2 = L ∧ (Imp ((u.1 0 8).toInt = 0) (0 ≤ (u.1 0 7).toInt ∧ (u.1 0 7).toInt ≤ n ∧ (V 0 8).toInt = 0 ∧ (V 0 7).toInt ≤ (u.1 0 7).toInt))) (fun u t => gq D A (mw ad kk ks.1 u.1 u.2) (mty kk) t) A