section
theorem w251 : Cond.code yX9_isDigit cX9_isDigit 1 (some .boolean) ∈ GW := gw_k tk9_1 96 (rfl) rfl
theorem w249 : Cond.methodLink RX9 75 yX9_isDigit ∈ GW := gw_k tk9_1 94 (by decide +kernel) rfl
theorem w157 : Cond.initialized RX9 ∈ GW := gw_k tk9_1 2 (by decide +kernel) rfl
theorem w250 : Cond.static yX9_isDigit ∈ GW := gw_k tk9_1 95 (by decide +kernel) rfl
theorem hdS_yX9_isDigit : yX9_isDigit.cls ≠ "java/lang/invoke/MethodHandle" ∧ yX9_isDigit.cls ≠ "java/lang/invoke/VarHandle" ∧ (parseMethodDescriptor yX9_isDigit.desc).map (fun d => d.parameters.length) = some 1 := by decide +kernel
theorem w253 : Cond.fieldLink RX9 15 "WiringHouse$Tape" "keywords" "[J" ∈ GW := gw_k tk9_1 98 (by decide +kernel) rfl
theorem w258 : Cond.fieldLink RX9 47 "WiringHouse$Tape" "length" "I" ∈ GW := gw_k tk9_1 103 (by decide +kernel) rfl
theorem w254 : Cond.fieldLink RX9 19 "WiringHouse$Tape" "kinds" "[I" ∈ GW := gw_k tk9_1 99 (by decide +kernel) rfl
theorem w261 : Cond.fieldLink RX9 59 "WiringHouse$Tape" "looking" "I" ∈ GW := gw_k tk9_1 106 (by decide +kernel) rfl
theorem w264 : Cond.fieldLink RX9 65 "WiringHouse$Tape" "kind" "I" ∈ GW := gw_k tk9_1 109 (by decide +kernel) rfl
theorem w255 : Cond.fieldLink RX9 23 "WiringHouse$Tape" "starts" "[I" ∈ GW := gw_k tk9_1 100 (by decide +kernel) rfl
theorem w265 : Cond.fieldLink RX9 68 "WiringHouse$Tape" "start" "I" ∈ GW := gw_k tk9_1 110 (by decide +kernel) rfl
theorem w256 : Cond.fieldLink RX9 26 "WiringHouse$Tape" "values" "[J" ∈ GW := gw_k tk9_1 101 (by decide +kernel) rfl
theorem w268 : Cond.fieldLink RX9 71 "WiringHouse$Tape" "value" "J" ∈ GW := gw_k tk9_1 113 (by decide +kernel) rfl
theorem w260 : Cond.fieldLink RX9 53 "WiringHouse$Tape" "tokens" "I" ∈ GW := gw_k tk9_1 105 (by decide +kernel) rfl
theorem w252 : Cond.fieldLink RX9 9 "WiringHouse$Tape" "signs" "[B" ∈ GW := gw_k tk9_1 97 (by decide +kernel) rfl
theorem w259 : Cond.fieldLink RX9 50 "WiringHouse$Tape" "position" "I" ∈ GW := gw_k tk9_1 104 (by decide +kernel) rfl
theorem w778 : Cond.constantLong RX9 93 10 ∈ GW := gw_k tk9_3 143 (by decide +kernel) rfl
theorem w779 : Cond.constantLong RX9 95 48 ∈ GW := gw_k tk9_3 144 (by decide +kernel) rfl
theorem w480 : Cond.fieldLink RX6 15 "WiringHouse$Names" "size" "I" ∈ GW := gw_k tk9_2 85 (by decide +kernel) rfl
theorem w479 : Cond.fieldLink RX6 9 "WiringHouse$Names" "words" "[J" ∈ GW := gw_k tk9_2 84 (by decide +kernel) rfl
theorem w440 : Cond.fieldLink RX7 27 "WiringHouse$Notes" "thingCount" "I" ∈ GW := gw_k tk9_2 45 (by decide +kernel) rfl
theorem w441 : Cond.fieldLink RX7 31 "WiringHouse$Notes" "closingCount" "I" ∈ GW := gw_k tk9_2 46 (by decide +kernel) rfl
theorem w442 : Cond.fieldLink RX7 34 "WiringHouse$Notes" "causeNeeds" "I" ∈ GW := gw_k tk9_2 47 (by decide +kernel) rfl
theorem w443 : Cond.fieldLink RX7 37 "WiringHouse$Notes" "causeKind" "I" ∈ GW := gw_k tk9_2 48 (by decide +kernel) rfl
theorem w444 : Cond.fieldLink RX7 40 "WiringHouse$Notes" "listening" "Z" ∈ GW := gw_k tk9_2 49 (by decide +kernel) rfl
theorem w435 : Cond.fieldLink RX7 9 "WiringHouse$Notes" "thingKinds" "[I" ∈ GW := gw_k tk9_2 40 (by decide +kernel) rfl
theorem w436 : Cond.fieldLink RX7 15 "WiringHouse$Notes" "things" "[I" ∈ GW := gw_k tk9_2 41 (by decide +kernel) rfl
theorem w437 : Cond.fieldLink RX7 18 "WiringHouse$Notes" "thingArgs" "[I" ∈ GW := gw_k tk9_2 42 (by decide +kernel) rfl
theorem w438 : Cond.fieldLink RX7 21 "WiringHouse$Notes" "closings" "[I" ∈ GW := gw_k tk9_2 43 (by decide +kernel) rfl
theorem w439 : Cond.fieldLink RX7 24 "WiringHouse$Notes" "closingKinds" "[I" ∈ GW := gw_k tk9_2 44 (by decide +kernel) rfl
theorem dk9_dX9_isDigit_0_0 : dOk cX9_isDigit [(0, .iload_n 0, 1), (1, .bipush 48, 2), (3, .if_icmp .lt 13, 3), (16, .iconst 0, 1), (17, .ireturn, 1), (6, .iload_n 0, 1), (7, .bipush 57, 2), (9, .if_icmp .gt 7, 3), (12, .iconst 1, 1), (13, .goto 4, 3)] = true := by decide +kernel
theorem dX9_isDigit_0 : decode cX9_isDigit 0 = .ok (.iload_n 0, 1) := dr9 dk9_dX9_isDigit_0_0 0 (0, .iload_n 0, 1) rfl
theorem dX9_isDigit_1 : decode cX9_isDigit 1 = .ok (.bipush 48, 2) := dr9 dk9_dX9_isDigit_0_0 1 (1, .bipush 48, 2) rfl
theorem dX9_isDigit_3 : decode cX9_isDigit 3 = .ok (.if_icmp .lt 13, 3) := dr9 dk9_dX9_isDigit_0_0 2 (3, .if_icmp .lt 13, 3) rfl
theorem dX9_isDigit_16 : decode cX9_isDigit 16 = .ok (.iconst 0, 1) := dr9 dk9_dX9_isDigit_0_0 3 (16, .iconst 0, 1) rfl
theorem dX9_isDigit_17 : decode cX9_isDigit 17 = .ok (.ireturn, 1) := dr9 dk9_dX9_isDigit_0_0 4 (17, .ireturn, 1) rfl
theorem dX9_isDigit_6 : decode cX9_isDigit 6 = .ok (.iload_n 0, 1) := dr9 dk9_dX9_isDigit_0_0 5 (6, .iload_n 0, 1) rfl
theorem dX9_isDigit_7 : decode cX9_isDigit 7 = .ok (.bipush 57, 2) := dr9 dk9_dX9_isDigit_0_0 6 (7, .bipush 57, 2) rfl
theorem dX9_isDigit_9 : decode cX9_isDigit 9 = .ok (.if_icmp .gt 7, 3) := dr9 dk9_dX9_isDigit_0_0 7 (9, .if_icmp .gt 7, 3) rfl
theorem dX9_isDigit_12 : decode cX9_isDigit 12 = .ok (.iconst 1, 1) := dr9 dk9_dX9_isDigit_0_0 8 (12, .iconst 1, 1) rfl
theorem dX9_isDigit_13 : decode cX9_isDigit 13 = .ok (.goto 4, 3) := dr9 dk9_dX9_isDigit_0_0 9 (13, .goto 4, 3) rfl
theorem dk9_dX9_isLetter_0_0 : dOk cX9_isLetter [(0, .iload_n 0, 1), (1, .bipush 97, 2), (3, .if_icmp .lt 13, 3), (16, .iconst 0, 1), (17, .ireturn, 1), (6, .iload_n 0, 1), (7, .bipush 122, 2), (9, .if_icmp .gt 7, 3), (12, .iconst 1, 1), (13, .goto 4, 3)] = true := by decide +kernel
theorem dX9_isLetter_0 : decode cX9_isLetter 0 = .ok (.iload_n 0, 1) := dr9 dk9_dX9_isLetter_0_0 0 (0, .iload_n 0, 1) rfl
theorem dX9_isLetter_1 : decode cX9_isLetter 1 = .ok (.bipush 97, 2) := dr9 dk9_dX9_isLetter_0_0 1 (1, .bipush 97, 2) rfl
theorem dX9_isLetter_3 : decode cX9_isLetter 3 = .ok (.if_icmp .lt 13, 3) := dr9 dk9_dX9_isLetter_0_0 2 (3, .if_icmp .lt 13, 3) rfl
theorem dX9_isLetter_16 : decode cX9_isLetter 16 = .ok (.iconst 0, 1) := dr9 dk9_dX9_isLetter_0_0 3 (16, .iconst 0, 1) rfl
theorem dX9_isLetter_17 : decode cX9_isLetter 17 = .ok (.ireturn, 1) := dr9 dk9_dX9_isLetter_0_0 4 (17, .ireturn, 1) rfl
theorem dX9_isLetter_6 : decode cX9_isLetter 6 = .ok (.iload_n 0, 1) := dr9 dk9_dX9_isLetter_0_0 5 (6, .iload_n 0, 1) rfl
theorem dX9_isLetter_7 : decode cX9_isLetter 7 = .ok (.bipush 122, 2) := dr9 dk9_dX9_isLetter_0_0 6 (7, .bipush 122, 2) rfl
theorem dX9_isLetter_9 : decode cX9_isLetter 9 = .ok (.if_icmp .gt 7, 3) := dr9 dk9_dX9_isLetter_0_0 7 (9, .if_icmp .gt 7, 3) rfl
theorem dX9_isLetter_12 : decode cX9_isLetter 12 = .ok (.iconst 1, 1) := dr9 dk9_dX9_isLetter_0_0 8 (12, .iconst 1, 1) rfl
theorem dX9_isLetter_13 : decode cX9_isLetter 13 = .ok (.goto 4, 3) := dr9 dk9_dX9_isLetter_0_0 9 (13, .goto 4, 3) rfl
theorem dk9_dX9_codeOf_0_0 : dOk cX9_codeOf [(0, .iload_n 0, 1), (1, .invokestatic 75, 3), (4, .ifCond .eq 13, 3), (17, .iload_n 0, 1), (18, .bipush 97, 2), (20, .isub, 1), (21, .iconst 1, 1), (22, .iadd, 1), (23, .ireturn, 1), (7, .iload_n 0, 1), (8, .bipush 48, 2), (10, .isub, 1), (11, .bipush 27, 2), (13, .iadd, 1), (14, .goto 9, 3)] = true := by decide +kernel
theorem dX9_codeOf_0 : decode cX9_codeOf 0 = .ok (.iload_n 0, 1) := dr9 dk9_dX9_codeOf_0_0 0 (0, .iload_n 0, 1) rfl
theorem dX9_codeOf_1 : decode cX9_codeOf 1 = .ok (.invokestatic 75, 3) := dr9 dk9_dX9_codeOf_0_0 1 (1, .invokestatic 75, 3) rfl
theorem dX9_codeOf_4 : decode cX9_codeOf 4 = .ok (.ifCond .eq 13, 3) := dr9 dk9_dX9_codeOf_0_0 2 (4, .ifCond .eq 13, 3) rfl
theorem dX9_codeOf_17 : decode cX9_codeOf 17 = .ok (.iload_n 0, 1) := dr9 dk9_dX9_codeOf_0_0 3 (17, .iload_n 0, 1) rfl
theorem dX9_codeOf_18 : decode cX9_codeOf 18 = .ok (.bipush 97, 2) := dr9 dk9_dX9_codeOf_0_0 4 (18, .bipush 97, 2) rfl
theorem dX9_codeOf_20 : decode cX9_codeOf 20 = .ok (.isub, 1) := dr9 dk9_dX9_codeOf_0_0 5 (20, .isub, 1) rfl
theorem dX9_codeOf_21 : decode cX9_codeOf 21 = .ok (.iconst 1, 1) := dr9 dk9_dX9_codeOf_0_0 6 (21, .iconst 1, 1) rfl
theorem dX9_codeOf_22 : decode cX9_codeOf 22 = .ok (.iadd, 1) := dr9 dk9_dX9_codeOf_0_0 7 (22, .iadd, 1) rfl
theorem dX9_codeOf_23 : decode cX9_codeOf 23 = .ok (.ireturn, 1) := dr9 dk9_dX9_codeOf_0_0 8 (23, .ireturn, 1) rfl
theorem dX9_codeOf_7 : decode cX9_codeOf 7 = .ok (.iload_n 0, 1) := dr9 dk9_dX9_codeOf_0_0 9 (7, .iload_n 0, 1) rfl
theorem dX9_codeOf_8 : decode cX9_codeOf 8 = .ok (.bipush 48, 2) := dr9 dk9_dX9_codeOf_0_0 10 (8, .bipush 48, 2) rfl
theorem dX9_codeOf_10 : decode cX9_codeOf 10 = .ok (.isub, 1) := dr9 dk9_dX9_codeOf_0_0 11 (10, .isub, 1) rfl
theorem dX9_codeOf_11 : decode cX9_codeOf 11 = .ok (.bipush 27, 2) := dr9 dk9_dX9_codeOf_0_0 12 (11, .bipush 27, 2) rfl
theorem dX9_codeOf_13 : decode cX9_codeOf 13 = .ok (.iadd, 1) := dr9 dk9_dX9_codeOf_0_0 13 (13, .iadd, 1) rfl
theorem dX9_codeOf_14 : decode cX9_codeOf 14 = .ok (.goto 9, 3) := dr9 dk9_dX9_codeOf_0_0 14 (14, .goto 9, 3) rfl
theorem dk9_dX9_kindOf_0_0 : dOk cX9_kindOf [(0, .iconst 0, 1), (1, .istore_n 3, 1), (2, .iload_n 3, 1), (3, .bipush 28, 2), (5, .if_icmp .ge 26, 3), (31, .iconst 3, 1), (32, .ireturn, 1), (8, .aload_n 0, 1), (9, .getfield 15, 3), (12, .iload_n 3, 1), (13, .laload, 1), (14, .lload_n 1, 1), (15, .lcmp, 1), (16, .ifCond .ne 9, 3), (25, .iinc 3 1, 3), (28, .goto (-26), 3), (19, .sipush 128, 3), (22, .iload_n 3, 1), (23, .iadd, 1), (24, .ireturn, 1)] = true := by decide +kernel
theorem dX9_kindOf_0 : decode cX9_kindOf 0 = .ok (.iconst 0, 1) := dr9 dk9_dX9_kindOf_0_0 0 (0, .iconst 0, 1) rfl
theorem dX9_kindOf_1 : decode cX9_kindOf 1 = .ok (.istore_n 3, 1) := dr9 dk9_dX9_kindOf_0_0 1 (1, .istore_n 3, 1) rfl
theorem dX9_kindOf_2 : decode cX9_kindOf 2 = .ok (.iload_n 3, 1) := dr9 dk9_dX9_kindOf_0_0 2 (2, .iload_n 3, 1) rfl
theorem dX9_kindOf_3 : decode cX9_kindOf 3 = .ok (.bipush 28, 2) := dr9 dk9_dX9_kindOf_0_0 3 (3, .bipush 28, 2) rfl
theorem dX9_kindOf_5 : decode cX9_kindOf 5 = .ok (.if_icmp .ge 26, 3) := dr9 dk9_dX9_kindOf_0_0 4 (5, .if_icmp .ge 26, 3) rfl
theorem dX9_kindOf_31 : decode cX9_kindOf 31 = .ok (.iconst 3, 1) := dr9 dk9_dX9_kindOf_0_0 5 (31, .iconst 3, 1) rfl
theorem dX9_kindOf_32 : decode cX9_kindOf 32 = .ok (.ireturn, 1) := dr9 dk9_dX9_kindOf_0_0 6 (32, .ireturn, 1) rfl
theorem dX9_kindOf_8 : decode cX9_kindOf 8 = .ok (.aload_n 0, 1) := dr9 dk9_dX9_kindOf_0_0 7 (8, .aload_n 0, 1) rfl
theorem dX9_kindOf_9 : decode cX9_kindOf 9 = .ok (.getfield 15, 3) := dr9 dk9_dX9_kindOf_0_0 8 (9, .getfield 15, 3) rfl
theorem dX9_kindOf_12 : decode cX9_kindOf 12 = .ok (.iload_n 3, 1) := dr9 dk9_dX9_kindOf_0_0 9 (12, .iload_n 3, 1) rfl
theorem dX9_kindOf_13 : decode cX9_kindOf 13 = .ok (.laload, 1) := dr9 dk9_dX9_kindOf_0_0 10 (13, .laload, 1) rfl
theorem dX9_kindOf_14 : decode cX9_kindOf 14 = .ok (.lload_n 1, 1) := dr9 dk9_dX9_kindOf_0_0 11 (14, .lload_n 1, 1) rfl
theorem dX9_kindOf_15 : decode cX9_kindOf 15 = .ok (.lcmp, 1) := dr9 dk9_dX9_kindOf_0_0 12 (15, .lcmp, 1) rfl
theorem dX9_kindOf_16 : decode cX9_kindOf 16 = .ok (.ifCond .ne 9, 3) := dr9 dk9_dX9_kindOf_0_0 13 (16, .ifCond .ne 9, 3) rfl
theorem dX9_kindOf_25 : decode cX9_kindOf 25 = .ok (.iinc 3 1, 3) := dr9 dk9_dX9_kindOf_0_0 14 (25, .iinc 3 1, 3) rfl
theorem dX9_kindOf_28 : decode cX9_kindOf 28 = .ok (.goto (-26), 3) := dr9 dk9_dX9_kindOf_0_0 15 (28, .goto (-26), 3) rfl
theorem dX9_kindOf_19 : decode cX9_kindOf 19 = .ok (.sipush 128, 3) := dr9 dk9_dX9_kindOf_0_0 16 (19, .sipush 128, 3) rfl
theorem dX9_kindOf_22 : decode cX9_kindOf 22 = .ok (.iload_n 3, 1) := dr9 dk9_dX9_kindOf_0_0 17 (22, .iload_n 3, 1) rfl
theorem dX9_kindOf_23 : decode cX9_kindOf 23 = .ok (.iadd, 1) := dr9 dk9_dX9_kindOf_0_0 18 (23, .iadd, 1) rfl
theorem dX9_kindOf_24 : decode cX9_kindOf 24 = .ok (.ireturn, 1) := dr9 dk9_dX9_kindOf_0_0 19 (24, .ireturn, 1) rfl
theorem dk9_dX9_empty_0_0 : dOk cX9_empty [(0, .aload_n 0, 1), (1, .iconst 0, 1), (2, .putfield 47, 3), (5, .return_, 1)] = true := by decide +kernel
theorem dX9_empty_0 : decode cX9_empty 0 = .ok (.aload_n 0, 1) := dr9 dk9_dX9_empty_0_0 0 (0, .aload_n 0, 1) rfl
theorem dX9_empty_1 : decode cX9_empty 1 = .ok (.iconst 0, 1) := dr9 dk9_dX9_empty_0_0 1 (1, .iconst 0, 1) rfl
theorem dX9_empty_2 : decode cX9_empty 2 = .ok (.putfield 47, 3) := dr9 dk9_dX9_empty_0_0 2 (2, .putfield 47, 3) rfl
theorem dX9_empty_5 : decode cX9_empty 5 = .ok (.return_, 1) := dr9 dk9_dX9_empty_0_0 3 (5, .return_, 1) rfl
theorem dk9_dX9_next_0_0 : dOk cX9_next [(0, .aload_n 0, 1), (1, .aload_n 0, 1), (2, .getfield 19, 3), (5, .aload_n 0, 1), (6, .getfield 59, 3), (9, .iaload, 1), (10, .putfield 65, 3), (13, .aload_n 0, 1), (14, .aload_n 0, 1), (15, .getfield 23, 3), (18, .aload_n 0, 1), (19, .getfield 59, 3), (22, .iaload, 1), (23, .putfield 68, 3), (26, .aload_n 0, 1), (27, .aload_n 0, 1), (28, .getfield 26, 3), (31, .aload_n 0, 1), (32, .getfield 59, 3), (35, .laload, 1), (36, .putfield 71, 3), (39, .aload_n 0, 1), (40, .getfield 59, 3), (43, .aload_n 0, 1)] = true ∧ dOk cX9_next [(44, .getfield 53, 3), (47, .if_icmp .ge 13, 3), (60, .return_, 1), (50, .aload_n 0, 1), (51, .dup, 1), (52, .getfield 59, 3), (55, .iconst 1, 1), (56, .iadd, 1), (57, .putfield 59, 3)] = true := by decide +kernel
theorem dX9_next_0 : decode cX9_next 0 = .ok (.aload_n 0, 1) := dr9 dk9_dX9_next_0_0.1 0 (0, .aload_n 0, 1) rfl
theorem dX9_next_1 : decode cX9_next 1 = .ok (.aload_n 0, 1) := dr9 dk9_dX9_next_0_0.1 1 (1, .aload_n 0, 1) rfl
theorem dX9_next_2 : decode cX9_next 2 = .ok (.getfield 19, 3) := dr9 dk9_dX9_next_0_0.1 2 (2, .getfield 19, 3) rfl
theorem dX9_next_5 : decode cX9_next 5 = .ok (.aload_n 0, 1) := dr9 dk9_dX9_next_0_0.1 3 (5, .aload_n 0, 1) rfl
theorem dX9_next_6 : decode cX9_next 6 = .ok (.getfield 59, 3) := dr9 dk9_dX9_next_0_0.1 4 (6, .getfield 59, 3) rfl
theorem dX9_next_9 : decode cX9_next 9 = .ok (.iaload, 1) := dr9 dk9_dX9_next_0_0.1 5 (9, .iaload, 1) rfl
theorem dX9_next_10 : decode cX9_next 10 = .ok (.putfield 65, 3) := dr9 dk9_dX9_next_0_0.1 6 (10, .putfield 65, 3) rfl
theorem dX9_next_13 : decode cX9_next 13 = .ok (.aload_n 0, 1) := dr9 dk9_dX9_next_0_0.1 7 (13, .aload_n 0, 1) rfl
theorem dX9_next_14 : decode cX9_next 14 = .ok (.aload_n 0, 1) := dr9 dk9_dX9_next_0_0.1 8 (14, .aload_n 0, 1) rfl
theorem dX9_next_15 : decode cX9_next 15 = .ok (.getfield 23, 3) := dr9 dk9_dX9_next_0_0.1 9 (15, .getfield 23, 3) rfl
theorem dX9_next_18 : decode cX9_next 18 = .ok (.aload_n 0, 1) := dr9 dk9_dX9_next_0_0.1 10 (18, .aload_n 0, 1) rfl
theorem dX9_next_19 : decode cX9_next 19 = .ok (.getfield 59, 3) := dr9 dk9_dX9_next_0_0.1 11 (19, .getfield 59, 3) rfl
theorem dX9_next_22 : decode cX9_next 22 = .ok (.iaload, 1) := dr9 dk9_dX9_next_0_0.1 12 (22, .iaload, 1) rfl
theorem dX9_next_23 : decode cX9_next 23 = .ok (.putfield 68, 3) := dr9 dk9_dX9_next_0_0.1 13 (23, .putfield 68, 3) rfl
theorem dX9_next_26 : decode cX9_next 26 = .ok (.aload_n 0, 1) := dr9 dk9_dX9_next_0_0.1 14 (26, .aload_n 0, 1) rfl
theorem dX9_next_27 : decode cX9_next 27 = .ok (.aload_n 0, 1) := dr9 dk9_dX9_next_0_0.1 15 (27, .aload_n 0, 1) rfl
theorem dX9_next_28 : decode cX9_next 28 = .ok (.getfield 26, 3) := dr9 dk9_dX9_next_0_0.1 16 (28, .getfield 26, 3) rfl
theorem dX9_next_31 : decode cX9_next 31 = .ok (.aload_n 0, 1) := dr9 dk9_dX9_next_0_0.1 17 (31, .aload_n 0, 1) rfl
theorem dX9_next_32 : decode cX9_next 32 = .ok (.getfield 59, 3) := dr9 dk9_dX9_next_0_0.1 18 (32, .getfield 59, 3) rfl
theorem dX9_next_35 : decode cX9_next 35 = .ok (.laload, 1) := dr9 dk9_dX9_next_0_0.1 19 (35, .laload, 1) rfl
theorem dX9_next_36 : decode cX9_next 36 = .ok (.putfield 71, 3) := dr9 dk9_dX9_next_0_0.1 20 (36, .putfield 71, 3) rfl
theorem dX9_next_39 : decode cX9_next 39 = .ok (.aload_n 0, 1) := dr9 dk9_dX9_next_0_0.1 21 (39, .aload_n 0, 1) rfl
theorem dX9_next_40 : decode cX9_next 40 = .ok (.getfield 59, 3) := dr9 dk9_dX9_next_0_0.1 22 (40, .getfield 59, 3) rfl
theorem dX9_next_43 : decode cX9_next 43 = .ok (.aload_n 0, 1) := dr9 dk9_dX9_next_0_0.1 23 (43, .aload_n 0, 1) rfl
theorem dX9_next_44 : decode cX9_next 44 = .ok (.getfield 53, 3) := dr9 dk9_dX9_next_0_0.2 0 (44, .getfield 53, 3) rfl
theorem dX9_next_47 : decode cX9_next 47 = .ok (.if_icmp .ge 13, 3) := dr9 dk9_dX9_next_0_0.2 1 (47, .if_icmp .ge 13, 3) rfl
theorem dX9_next_60 : decode cX9_next 60 = .ok (.return_, 1) := dr9 dk9_dX9_next_0_0.2 2 (60, .return_, 1) rfl
theorem dX9_next_50 : decode cX9_next 50 = .ok (.aload_n 0, 1) := dr9 dk9_dX9_next_0_0.2 3 (50, .aload_n 0, 1) rfl
theorem dX9_next_51 : decode cX9_next 51 = .ok (.dup, 1) := dr9 dk9_dX9_next_0_0.2 4 (51, .dup, 1) rfl
theorem dX9_next_52 : decode cX9_next 52 = .ok (.getfield 59, 3) := dr9 dk9_dX9_next_0_0.2 5 (52, .getfield 59, 3) rfl
theorem dX9_next_55 : decode cX9_next 55 = .ok (.iconst 1, 1) := dr9 dk9_dX9_next_0_0.2 6 (55, .iconst 1, 1) rfl
theorem dX9_next_56 : decode cX9_next 56 = .ok (.iadd, 1) := dr9 dk9_dX9_next_0_0.2 7 (56, .iadd, 1) rfl
theorem dX9_next_57 : decode cX9_next 57 = .ok (.putfield 59, 3) := dr9 dk9_dX9_next_0_0.2 8 (57, .putfield 59, 3) rfl
theorem dk9_dX9_append_0_0 : dOk cX9_append [(0, .bipush 56, 2), (2, .istore_n 3, 1), (3, .iload_n 3, 1), (4, .ifCond .lt 81, 3), (85, .return_, 1), (7, .lload_n 1, 1), (8, .iload_n 3, 1), (9, .lushr, 1), (10, .l2i, 1), (11, .sipush 255, 3), (14, .iand, 1), (15, .istore 4, 2), (17, .iload 4, 2), (19, .bipush 10, 2), (21, .if_icmp .eq 17, 3), (38, .iconst 1, 1), (39, .goto 4, 3), (43, .istore 5, 2), (45, .iload 5, 2), (47, .ifCond .eq 32, 3), (50, .aload_n 0, 1), (51, .getfield 47, 3), (54, .sipush 4000, 3), (57, .if_icmp .ge 22, 3)] = true ∧ dOk cX9_append [(79, .iinc 3 (-8), 3), (82, .goto (-79), 3), (60, .aload_n 0, 1), (61, .getfield 9, 3), (64, .aload_n 0, 1), (65, .dup, 1), (66, .getfield 47, 3), (69, .dup_x1, 1), (70, .iconst 1, 1), (71, .iadd, 1), (72, .putfield 47, 3), (75, .iload 4, 2), (77, .i2b, 1), (78, .bastore, 1), (24, .iload 4, 2), (26, .bipush 32, 2), (28, .if_icmp .lt 14, 3), (42, .iconst 0, 1), (31, .iload 4, 2), (33, .bipush 126, 2), (35, .if_icmp .gt 7, 3)] = true := by decide +kernel
theorem dX9_append_0 : decode cX9_append 0 = .ok (.bipush 56, 2) := dr9 dk9_dX9_append_0_0.1 0 (0, .bipush 56, 2) rfl
theorem dX9_append_2 : decode cX9_append 2 = .ok (.istore_n 3, 1) := dr9 dk9_dX9_append_0_0.1 1 (2, .istore_n 3, 1) rfl
theorem dX9_append_3 : decode cX9_append 3 = .ok (.iload_n 3, 1) := dr9 dk9_dX9_append_0_0.1 2 (3, .iload_n 3, 1) rfl
theorem dX9_append_4 : decode cX9_append 4 = .ok (.ifCond .lt 81, 3) := dr9 dk9_dX9_append_0_0.1 3 (4, .ifCond .lt 81, 3) rfl
theorem dX9_append_85 : decode cX9_append 85 = .ok (.return_, 1) := dr9 dk9_dX9_append_0_0.1 4 (85, .return_, 1) rfl
theorem dX9_append_7 : decode cX9_append 7 = .ok (.lload_n 1, 1) := dr9 dk9_dX9_append_0_0.1 5 (7, .lload_n 1, 1) rfl
theorem dX9_append_8 : decode cX9_append 8 = .ok (.iload_n 3, 1) := dr9 dk9_dX9_append_0_0.1 6 (8, .iload_n 3, 1) rfl
theorem dX9_append_9 : decode cX9_append 9 = .ok (.lushr, 1) := dr9 dk9_dX9_append_0_0.1 7 (9, .lushr, 1) rfl
theorem dX9_append_10 : decode cX9_append 10 = .ok (.l2i, 1) := dr9 dk9_dX9_append_0_0.1 8 (10, .l2i, 1) rfl
theorem dX9_append_11 : decode cX9_append 11 = .ok (.sipush 255, 3) := dr9 dk9_dX9_append_0_0.1 9 (11, .sipush 255, 3) rfl
theorem dX9_append_14 : decode cX9_append 14 = .ok (.iand, 1) := dr9 dk9_dX9_append_0_0.1 10 (14, .iand, 1) rfl
theorem dX9_append_15 : decode cX9_append 15 = .ok (.istore 4, 2) := dr9 dk9_dX9_append_0_0.1 11 (15, .istore 4, 2) rfl
theorem dX9_append_17 : decode cX9_append 17 = .ok (.iload 4, 2) := dr9 dk9_dX9_append_0_0.1 12 (17, .iload 4, 2) rfl
theorem dX9_append_19 : decode cX9_append 19 = .ok (.bipush 10, 2) := dr9 dk9_dX9_append_0_0.1 13 (19, .bipush 10, 2) rfl
theorem dX9_append_21 : decode cX9_append 21 = .ok (.if_icmp .eq 17, 3) := dr9 dk9_dX9_append_0_0.1 14 (21, .if_icmp .eq 17, 3) rfl
theorem dX9_append_38 : decode cX9_append 38 = .ok (.iconst 1, 1) := dr9 dk9_dX9_append_0_0.1 15 (38, .iconst 1, 1) rfl
theorem dX9_append_39 : decode cX9_append 39 = .ok (.goto 4, 3) := dr9 dk9_dX9_append_0_0.1 16 (39, .goto 4, 3) rfl
theorem dX9_append_43 : decode cX9_append 43 = .ok (.istore 5, 2) := dr9 dk9_dX9_append_0_0.1 17 (43, .istore 5, 2) rfl
theorem dX9_append_45 : decode cX9_append 45 = .ok (.iload 5, 2) := dr9 dk9_dX9_append_0_0.1 18 (45, .iload 5, 2) rfl
theorem dX9_append_47 : decode cX9_append 47 = .ok (.ifCond .eq 32, 3) := dr9 dk9_dX9_append_0_0.1 19 (47, .ifCond .eq 32, 3) rfl
theorem dX9_append_50 : decode cX9_append 50 = .ok (.aload_n 0, 1) := dr9 dk9_dX9_append_0_0.1 20 (50, .aload_n 0, 1) rfl
theorem dX9_append_51 : decode cX9_append 51 = .ok (.getfield 47, 3) := dr9 dk9_dX9_append_0_0.1 21 (51, .getfield 47, 3) rfl
theorem dX9_append_54 : decode cX9_append 54 = .ok (.sipush 4000, 3) := dr9 dk9_dX9_append_0_0.1 22 (54, .sipush 4000, 3) rfl
theorem dX9_append_57 : decode cX9_append 57 = .ok (.if_icmp .ge 22, 3) := dr9 dk9_dX9_append_0_0.1 23 (57, .if_icmp .ge 22, 3) rfl
theorem dX9_append_79 : decode cX9_append 79 = .ok (.iinc 3 (-8), 3) := dr9 dk9_dX9_append_0_0.2 0 (79, .iinc 3 (-8), 3) rfl
theorem dX9_append_82 : decode cX9_append 82 = .ok (.goto (-79), 3) := dr9 dk9_dX9_append_0_0.2 1 (82, .goto (-79), 3) rfl
theorem dX9_append_60 : decode cX9_append 60 = .ok (.aload_n 0, 1) := dr9 dk9_dX9_append_0_0.2 2 (60, .aload_n 0, 1) rfl
theorem dX9_append_61 : decode cX9_append 61 = .ok (.getfield 9, 3) := dr9 dk9_dX9_append_0_0.2 3 (61, .getfield 9, 3) rfl
theorem dX9_append_64 : decode cX9_append 64 = .ok (.aload_n 0, 1) := dr9 dk9_dX9_append_0_0.2 4 (64, .aload_n 0, 1) rfl
theorem dX9_append_65 : decode cX9_append 65 = .ok (.dup, 1) := dr9 dk9_dX9_append_0_0.2 5 (65, .dup, 1) rfl
theorem dX9_append_66 : decode cX9_append 66 = .ok (.getfield 47, 3) := dr9 dk9_dX9_append_0_0.2 6 (66, .getfield 47, 3) rfl
theorem dX9_append_69 : decode cX9_append 69 = .ok (.dup_x1, 1) := dr9 dk9_dX9_append_0_0.2 7 (69, .dup_x1, 1) rfl
theorem dX9_append_70 : decode cX9_append 70 = .ok (.iconst 1, 1) := dr9 dk9_dX9_append_0_0.2 8 (70, .iconst 1, 1) rfl
theorem dX9_append_71 : decode cX9_append 71 = .ok (.iadd, 1) := dr9 dk9_dX9_append_0_0.2 9 (71, .iadd, 1) rfl
theorem dX9_append_72 : decode cX9_append 72 = .ok (.putfield 47, 3) := dr9 dk9_dX9_append_0_0.2 10 (72, .putfield 47, 3) rfl
theorem dX9_append_75 : decode cX9_append 75 = .ok (.iload 4, 2) := dr9 dk9_dX9_append_0_0.2 11 (75, .iload 4, 2) rfl
theorem dX9_append_77 : decode cX9_append 77 = .ok (.i2b, 1) := dr9 dk9_dX9_append_0_0.2 12 (77, .i2b, 1) rfl
theorem dX9_append_78 : decode cX9_append 78 = .ok (.bastore, 1) := dr9 dk9_dX9_append_0_0.2 13 (78, .bastore, 1) rfl
theorem dX9_append_24 : decode cX9_append 24 = .ok (.iload 4, 2) := dr9 dk9_dX9_append_0_0.2 14 (24, .iload 4, 2) rfl
theorem dX9_append_26 : decode cX9_append 26 = .ok (.bipush 32, 2) := dr9 dk9_dX9_append_0_0.2 15 (26, .bipush 32, 2) rfl
theorem dX9_append_28 : decode cX9_append 28 = .ok (.if_icmp .lt 14, 3) := dr9 dk9_dX9_append_0_0.2 16 (28, .if_icmp .lt 14, 3) rfl
theorem dX9_append_42 : decode cX9_append 42 = .ok (.iconst 0, 1) := dr9 dk9_dX9_append_0_0.2 17 (42, .iconst 0, 1) rfl
theorem dX9_append_31 : decode cX9_append 31 = .ok (.iload 4, 2) := dr9 dk9_dX9_append_0_0.2 18 (31, .iload 4, 2) rfl
theorem dX9_append_33 : decode cX9_append 33 = .ok (.bipush 126, 2) := dr9 dk9_dX9_append_0_0.2 19 (33, .bipush 126, 2) rfl
theorem dX9_append_35 : decode cX9_append 35 = .ok (.if_icmp .gt 7, 3) := dr9 dk9_dX9_append_0_0.2 20 (35, .if_icmp .gt 7, 3) rfl
theorem dk9_dX9_cutNumber_0_0 : dOk cX9_cutNumber [(0, .iconst 0, 1), (1, .istore_n 1, 1), (2, .lconst 0, 1), (3, .lstore_n 2, 1), (4, .aload_n 0, 1), (5, .getfield 50, 3), (8, .aload_n 0, 1), (9, .getfield 47, 3), (12, .if_icmp .ge 65, 3), (77, .aload_n 0, 1), (78, .getfield 19, 3), (81, .aload_n 0, 1), (82, .getfield 53, 3), (85, .iload_n 1, 1), (86, .bipush 9, 2), (88, .if_icmp .le 7, 3), (95, .iconst 2, 1), (96, .iastore, 1), (97, .aload_n 0, 1), (98, .getfield 26, 3), (101, .aload_n 0, 1), (102, .getfield 53, 3), (105, .lload_n 2, 1), (106, .lastore, 1)] = true ∧ dOk cX9_cutNumber [(107, .return_, 1), (91, .iconst 1, 1), (92, .goto 4, 3), (15, .aload_n 0, 1), (16, .getfield 9, 3), (19, .aload_n 0, 1), (20, .getfield 50, 3), (23, .baload, 1), (24, .invokestatic 75, 3), (27, .ifCond .eq 50, 3), (30, .iload_n 1, 1), (31, .bipush 9, 2), (33, .if_icmp .ge 26, 3), (59, .lconst 0, 1), (60, .lstore_n 2, 1), (61, .iinc 1 1, 3), (64, .aload_n 0, 1), (65, .dup, 1), (66, .getfield 50, 3), (69, .iconst 1, 1), (70, .iadd, 1), (71, .putfield 50, 3), (74, .goto (-70), 3), (36, .lload_n 2, 1)] = true ∧ dOk cX9_cutNumber [(37, .ldc2_w 93, 3), (40, .lmul, 1), (41, .aload_n 0, 1), (42, .getfield 9, 3), (45, .aload_n 0, 1), (46, .getfield 50, 3), (49, .baload, 1), (50, .i2l, 1), (51, .ladd, 1), (52, .ldc2_w 95, 3), (55, .lsub, 1), (56, .goto 4, 3)] = true := by decide +kernel
theorem dX9_cutNumber_0 : decode cX9_cutNumber 0 = .ok (.iconst 0, 1) := dr9 dk9_dX9_cutNumber_0_0.1 0 (0, .iconst 0, 1) rfl
theorem dX9_cutNumber_1 : decode cX9_cutNumber 1 = .ok (.istore_n 1, 1) := dr9 dk9_dX9_cutNumber_0_0.1 1 (1, .istore_n 1, 1) rfl
theorem dX9_cutNumber_2 : decode cX9_cutNumber 2 = .ok (.lconst 0, 1) := dr9 dk9_dX9_cutNumber_0_0.1 2 (2, .lconst 0, 1) rfl
theorem dX9_cutNumber_3 : decode cX9_cutNumber 3 = .ok (.lstore_n 2, 1) := dr9 dk9_dX9_cutNumber_0_0.1 3 (3, .lstore_n 2, 1) rfl
theorem dX9_cutNumber_4 : decode cX9_cutNumber 4 = .ok (.aload_n 0, 1) := dr9 dk9_dX9_cutNumber_0_0.1 4 (4, .aload_n 0, 1) rfl
theorem dX9_cutNumber_5 : decode cX9_cutNumber 5 = .ok (.getfield 50, 3) := dr9 dk9_dX9_cutNumber_0_0.1 5 (5, .getfield 50, 3) rfl
theorem dX9_cutNumber_8 : decode cX9_cutNumber 8 = .ok (.aload_n 0, 1) := dr9 dk9_dX9_cutNumber_0_0.1 6 (8, .aload_n 0, 1) rfl
theorem dX9_cutNumber_9 : decode cX9_cutNumber 9 = .ok (.getfield 47, 3) := dr9 dk9_dX9_cutNumber_0_0.1 7 (9, .getfield 47, 3) rfl
theorem dX9_cutNumber_12 : decode cX9_cutNumber 12 = .ok (.if_icmp .ge 65, 3) := dr9 dk9_dX9_cutNumber_0_0.1 8 (12, .if_icmp .ge 65, 3) rfl
theorem dX9_cutNumber_77 : decode cX9_cutNumber 77 = .ok (.aload_n 0, 1) := dr9 dk9_dX9_cutNumber_0_0.1 9 (77, .aload_n 0, 1) rfl
theorem dX9_cutNumber_78 : decode cX9_cutNumber 78 = .ok (.getfield 19, 3) := dr9 dk9_dX9_cutNumber_0_0.1 10 (78, .getfield 19, 3) rfl
theorem dX9_cutNumber_81 : decode cX9_cutNumber 81 = .ok (.aload_n 0, 1) := dr9 dk9_dX9_cutNumber_0_0.1 11 (81, .aload_n 0, 1) rfl
theorem dX9_cutNumber_82 : decode cX9_cutNumber 82 = .ok (.getfield 53, 3) := dr9 dk9_dX9_cutNumber_0_0.1 12 (82, .getfield 53, 3) rfl
theorem dX9_cutNumber_85 : decode cX9_cutNumber 85 = .ok (.iload_n 1, 1) := dr9 dk9_dX9_cutNumber_0_0.1 13 (85, .iload_n 1, 1) rfl
theorem dX9_cutNumber_86 : decode cX9_cutNumber 86 = .ok (.bipush 9, 2) := dr9 dk9_dX9_cutNumber_0_0.1 14 (86, .bipush 9, 2) rfl
theorem dX9_cutNumber_88 : decode cX9_cutNumber 88 = .ok (.if_icmp .le 7, 3) := dr9 dk9_dX9_cutNumber_0_0.1 15 (88, .if_icmp .le 7, 3) rfl
theorem dX9_cutNumber_95 : decode cX9_cutNumber 95 = .ok (.iconst 2, 1) := dr9 dk9_dX9_cutNumber_0_0.1 16 (95, .iconst 2, 1) rfl
theorem dX9_cutNumber_96 : decode cX9_cutNumber 96 = .ok (.iastore, 1) := dr9 dk9_dX9_cutNumber_0_0.1 17 (96, .iastore, 1) rfl
theorem dX9_cutNumber_97 : decode cX9_cutNumber 97 = .ok (.aload_n 0, 1) := dr9 dk9_dX9_cutNumber_0_0.1 18 (97, .aload_n 0, 1) rfl
theorem dX9_cutNumber_98 : decode cX9_cutNumber 98 = .ok (.getfield 26, 3) := dr9 dk9_dX9_cutNumber_0_0.1 19 (98, .getfield 26, 3) rfl
theorem dX9_cutNumber_101 : decode cX9_cutNumber 101 = .ok (.aload_n 0, 1) := dr9 dk9_dX9_cutNumber_0_0.1 20 (101, .aload_n 0, 1) rfl
theorem dX9_cutNumber_102 : decode cX9_cutNumber 102 = .ok (.getfield 53, 3) := dr9 dk9_dX9_cutNumber_0_0.1 21 (102, .getfield 53, 3) rfl
theorem dX9_cutNumber_105 : decode cX9_cutNumber 105 = .ok (.lload_n 2, 1) := dr9 dk9_dX9_cutNumber_0_0.1 22 (105, .lload_n 2, 1) rfl
theorem dX9_cutNumber_106 : decode cX9_cutNumber 106 = .ok (.lastore, 1) := dr9 dk9_dX9_cutNumber_0_0.1 23 (106, .lastore, 1) rfl
theorem dX9_cutNumber_107 : decode cX9_cutNumber 107 = .ok (.return_, 1) := dr9 dk9_dX9_cutNumber_0_0.2.1 0 (107, .return_, 1) rfl
theorem dX9_cutNumber_91 : decode cX9_cutNumber 91 = .ok (.iconst 1, 1) := dr9 dk9_dX9_cutNumber_0_0.2.1 1 (91, .iconst 1, 1) rfl
theorem dX9_cutNumber_92 : decode cX9_cutNumber 92 = .ok (.goto 4, 3) := dr9 dk9_dX9_cutNumber_0_0.2.1 2 (92, .goto 4, 3) rfl
theorem dX9_cutNumber_15 : decode cX9_cutNumber 15 = .ok (.aload_n 0, 1) := dr9 dk9_dX9_cutNumber_0_0.2.1 3 (15, .aload_n 0, 1) rfl
theorem dX9_cutNumber_16 : decode cX9_cutNumber 16 = .ok (.getfield 9, 3) := dr9 dk9_dX9_cutNumber_0_0.2.1 4 (16, .getfield 9, 3) rfl
theorem dX9_cutNumber_19 : decode cX9_cutNumber 19 = .ok (.aload_n 0, 1) := dr9 dk9_dX9_cutNumber_0_0.2.1 5 (19, .aload_n 0, 1) rfl
theorem dX9_cutNumber_20 : decode cX9_cutNumber 20 = .ok (.getfield 50, 3) := dr9 dk9_dX9_cutNumber_0_0.2.1 6 (20, .getfield 50, 3) rfl
theorem dX9_cutNumber_23 : decode cX9_cutNumber 23 = .ok (.baload, 1) := dr9 dk9_dX9_cutNumber_0_0.2.1 7 (23, .baload, 1) rfl
theorem dX9_cutNumber_24 : decode cX9_cutNumber 24 = .ok (.invokestatic 75, 3) := dr9 dk9_dX9_cutNumber_0_0.2.1 8 (24, .invokestatic 75, 3) rfl
theorem dX9_cutNumber_27 : decode cX9_cutNumber 27 = .ok (.ifCond .eq 50, 3) := dr9 dk9_dX9_cutNumber_0_0.2.1 9 (27, .ifCond .eq 50, 3) rfl
theorem dX9_cutNumber_30 : decode cX9_cutNumber 30 = .ok (.iload_n 1, 1) := dr9 dk9_dX9_cutNumber_0_0.2.1 10 (30, .iload_n 1, 1) rfl
theorem dX9_cutNumber_31 : decode cX9_cutNumber 31 = .ok (.bipush 9, 2) := dr9 dk9_dX9_cutNumber_0_0.2.1 11 (31, .bipush 9, 2) rfl
theorem dX9_cutNumber_33 : decode cX9_cutNumber 33 = .ok (.if_icmp .ge 26, 3) := dr9 dk9_dX9_cutNumber_0_0.2.1 12 (33, .if_icmp .ge 26, 3) rfl
theorem dX9_cutNumber_59 : decode cX9_cutNumber 59 = .ok (.lconst 0, 1) := dr9 dk9_dX9_cutNumber_0_0.2.1 13 (59, .lconst 0, 1) rfl
theorem dX9_cutNumber_60 : decode cX9_cutNumber 60 = .ok (.lstore_n 2, 1) := dr9 dk9_dX9_cutNumber_0_0.2.1 14 (60, .lstore_n 2, 1) rfl
theorem dX9_cutNumber_61 : decode cX9_cutNumber 61 = .ok (.iinc 1 1, 3) := dr9 dk9_dX9_cutNumber_0_0.2.1 15 (61, .iinc 1 1, 3) rfl
theorem dX9_cutNumber_64 : decode cX9_cutNumber 64 = .ok (.aload_n 0, 1) := dr9 dk9_dX9_cutNumber_0_0.2.1 16 (64, .aload_n 0, 1) rfl
theorem dX9_cutNumber_65 : decode cX9_cutNumber 65 = .ok (.dup, 1) := dr9 dk9_dX9_cutNumber_0_0.2.1 17 (65, .dup, 1) rfl
theorem dX9_cutNumber_66 : decode cX9_cutNumber 66 = .ok (.getfield 50, 3) := dr9 dk9_dX9_cutNumber_0_0.2.1 18 (66, .getfield 50, 3) rfl
theorem dX9_cutNumber_69 : decode cX9_cutNumber 69 = .ok (.iconst 1, 1) := dr9 dk9_dX9_cutNumber_0_0.2.1 19 (69, .iconst 1, 1) rfl
theorem dX9_cutNumber_70 : decode cX9_cutNumber 70 = .ok (.iadd, 1) := dr9 dk9_dX9_cutNumber_0_0.2.1 20 (70, .iadd, 1) rfl
theorem dX9_cutNumber_71 : decode cX9_cutNumber 71 = .ok (.putfield 50, 3) := dr9 dk9_dX9_cutNumber_0_0.2.1 21 (71, .putfield 50, 3) rfl
theorem dX9_cutNumber_74 : decode cX9_cutNumber 74 = .ok (.goto (-70), 3) := dr9 dk9_dX9_cutNumber_0_0.2.1 22 (74, .goto (-70), 3) rfl
theorem dX9_cutNumber_36 : decode cX9_cutNumber 36 = .ok (.lload_n 2, 1) := dr9 dk9_dX9_cutNumber_0_0.2.1 23 (36, .lload_n 2, 1) rfl
theorem dX9_cutNumber_37 : decode cX9_cutNumber 37 = .ok (.ldc2_w 93, 3) := dr9 dk9_dX9_cutNumber_0_0.2.2 0 (37, .ldc2_w 93, 3) rfl
theorem dX9_cutNumber_40 : decode cX9_cutNumber 40 = .ok (.lmul, 1) := dr9 dk9_dX9_cutNumber_0_0.2.2 1 (40, .lmul, 1) rfl
theorem dX9_cutNumber_41 : decode cX9_cutNumber 41 = .ok (.aload_n 0, 1) := dr9 dk9_dX9_cutNumber_0_0.2.2 2 (41, .aload_n 0, 1) rfl
theorem dX9_cutNumber_42 : decode cX9_cutNumber 42 = .ok (.getfield 9, 3) := dr9 dk9_dX9_cutNumber_0_0.2.2 3 (42, .getfield 9, 3) rfl
theorem dX9_cutNumber_45 : decode cX9_cutNumber 45 = .ok (.aload_n 0, 1) := dr9 dk9_dX9_cutNumber_0_0.2.2 4 (45, .aload_n 0, 1) rfl
theorem dX9_cutNumber_46 : decode cX9_cutNumber 46 = .ok (.getfield 50, 3) := dr9 dk9_dX9_cutNumber_0_0.2.2 5 (46, .getfield 50, 3) rfl
theorem dX9_cutNumber_49 : decode cX9_cutNumber 49 = .ok (.baload, 1) := dr9 dk9_dX9_cutNumber_0_0.2.2 6 (49, .baload, 1) rfl
theorem dX9_cutNumber_50 : decode cX9_cutNumber 50 = .ok (.i2l, 1) := dr9 dk9_dX9_cutNumber_0_0.2.2 7 (50, .i2l, 1) rfl
theorem dX9_cutNumber_51 : decode cX9_cutNumber 51 = .ok (.ladd, 1) := dr9 dk9_dX9_cutNumber_0_0.2.2 8 (51, .ladd, 1) rfl
theorem dX9_cutNumber_52 : decode cX9_cutNumber 52 = .ok (.ldc2_w 95, 3) := dr9 dk9_dX9_cutNumber_0_0.2.2 9 (52, .ldc2_w 95, 3) rfl
theorem dX9_cutNumber_55 : decode cX9_cutNumber 55 = .ok (.lsub, 1) := dr9 dk9_dX9_cutNumber_0_0.2.2 10 (55, .lsub, 1) rfl
theorem dX9_cutNumber_56 : decode cX9_cutNumber 56 = .ok (.goto 4, 3) := dr9 dk9_dX9_cutNumber_0_0.2.2 11 (56, .goto 4, 3) rfl
theorem dk9_dX6_find_0_0 : dOk cX6_find [(0, .iconst 0, 1), (1, .istore_n 3, 1), (2, .iload_n 3, 1), (3, .aload_n 0, 1), (4, .getfield 15, 3), (7, .if_icmp .ge 22, 3), (29, .iconst (-1), 1), (30, .ireturn, 1), (10, .aload_n 0, 1), (11, .getfield 9, 3), (14, .iload_n 3, 1), (15, .laload, 1), (16, .lload_n 1, 1), (17, .lcmp, 1), (18, .ifCond .ne 5, 3), (23, .iinc 3 1, 3), (26, .goto (-24), 3), (21, .iload_n 3, 1), (22, .ireturn, 1)] = true := by decide +kernel
theorem dX6_find_0 : decode cX6_find 0 = .ok (.iconst 0, 1) := dr9 dk9_dX6_find_0_0 0 (0, .iconst 0, 1) rfl
theorem dX6_find_1 : decode cX6_find 1 = .ok (.istore_n 3, 1) := dr9 dk9_dX6_find_0_0 1 (1, .istore_n 3, 1) rfl
theorem dX6_find_2 : decode cX6_find 2 = .ok (.iload_n 3, 1) := dr9 dk9_dX6_find_0_0 2 (2, .iload_n 3, 1) rfl
theorem dX6_find_3 : decode cX6_find 3 = .ok (.aload_n 0, 1) := dr9 dk9_dX6_find_0_0 3 (3, .aload_n 0, 1) rfl
theorem dX6_find_4 : decode cX6_find 4 = .ok (.getfield 15, 3) := dr9 dk9_dX6_find_0_0 4 (4, .getfield 15, 3) rfl
theorem dX6_find_7 : decode cX6_find 7 = .ok (.if_icmp .ge 22, 3) := dr9 dk9_dX6_find_0_0 5 (7, .if_icmp .ge 22, 3) rfl
theorem dX6_find_29 : decode cX6_find 29 = .ok (.iconst (-1), 1) := dr9 dk9_dX6_find_0_0 6 (29, .iconst (-1), 1) rfl
theorem dX6_find_30 : decode cX6_find 30 = .ok (.ireturn, 1) := dr9 dk9_dX6_find_0_0 7 (30, .ireturn, 1) rfl
theorem dX6_find_10 : decode cX6_find 10 = .ok (.aload_n 0, 1) := dr9 dk9_dX6_find_0_0 8 (10, .aload_n 0, 1) rfl
theorem dX6_find_11 : decode cX6_find 11 = .ok (.getfield 9, 3) := dr9 dk9_dX6_find_0_0 9 (11, .getfield 9, 3) rfl
theorem dX6_find_14 : decode cX6_find 14 = .ok (.iload_n 3, 1) := dr9 dk9_dX6_find_0_0 10 (14, .iload_n 3, 1) rfl
theorem dX6_find_15 : decode cX6_find 15 = .ok (.laload, 1) := dr9 dk9_dX6_find_0_0 11 (15, .laload, 1) rfl
theorem dX6_find_16 : decode cX6_find 16 = .ok (.lload_n 1, 1) := dr9 dk9_dX6_find_0_0 12 (16, .lload_n 1, 1) rfl
theorem dX6_find_17 : decode cX6_find 17 = .ok (.lcmp, 1) := dr9 dk9_dX6_find_0_0 13 (17, .lcmp, 1) rfl
theorem dX6_find_18 : decode cX6_find 18 = .ok (.ifCond .ne 5, 3) := dr9 dk9_dX6_find_0_0 14 (18, .ifCond .ne 5, 3) rfl
theorem dX6_find_23 : decode cX6_find 23 = .ok (.iinc 3 1, 3) := dr9 dk9_dX6_find_0_0 15 (23, .iinc 3 1, 3) rfl
theorem dX6_find_26 : decode cX6_find 26 = .ok (.goto (-24), 3) := dr9 dk9_dX6_find_0_0 16 (26, .goto (-24), 3) rfl
theorem dX6_find_21 : decode cX6_find 21 = .ok (.iload_n 3, 1) := dr9 dk9_dX6_find_0_0 17 (21, .iload_n 3, 1) rfl
theorem dX6_find_22 : decode cX6_find 22 = .ok (.ireturn, 1) := dr9 dk9_dX6_find_0_0 18 (22, .ireturn, 1) rfl
theorem dk9_dX6_isFull_0_0 : dOk cX6_isFull [(0, .aload_n 0, 1), (1, .getfield 15, 3), (4, .aload_n 0, 1), (5, .getfield 9, 3), (8, .arraylength, 1), (9, .if_icmp .lt 7, 3), (16, .iconst 0, 1), (17, .ireturn, 1), (12, .iconst 1, 1), (13, .goto 4, 3)] = true := by decide +kernel
theorem dX6_isFull_0 : decode cX6_isFull 0 = .ok (.aload_n 0, 1) := dr9 dk9_dX6_isFull_0_0 0 (0, .aload_n 0, 1) rfl
theorem dX6_isFull_1 : decode cX6_isFull 1 = .ok (.getfield 15, 3) := dr9 dk9_dX6_isFull_0_0 1 (1, .getfield 15, 3) rfl
theorem dX6_isFull_4 : decode cX6_isFull 4 = .ok (.aload_n 0, 1) := dr9 dk9_dX6_isFull_0_0 2 (4, .aload_n 0, 1) rfl
theorem dX6_isFull_5 : decode cX6_isFull 5 = .ok (.getfield 9, 3) := dr9 dk9_dX6_isFull_0_0 3 (5, .getfield 9, 3) rfl
theorem dX6_isFull_8 : decode cX6_isFull 8 = .ok (.arraylength, 1) := dr9 dk9_dX6_isFull_0_0 4 (8, .arraylength, 1) rfl
theorem dX6_isFull_9 : decode cX6_isFull 9 = .ok (.if_icmp .lt 7, 3) := dr9 dk9_dX6_isFull_0_0 5 (9, .if_icmp .lt 7, 3) rfl
theorem dX6_isFull_16 : decode cX6_isFull 16 = .ok (.iconst 0, 1) := dr9 dk9_dX6_isFull_0_0 6 (16, .iconst 0, 1) rfl
theorem dX6_isFull_17 : decode cX6_isFull 17 = .ok (.ireturn, 1) := dr9 dk9_dX6_isFull_0_0 7 (17, .ireturn, 1) rfl
theorem dX6_isFull_12 : decode cX6_isFull 12 = .ok (.iconst 1, 1) := dr9 dk9_dX6_isFull_0_0 8 (12, .iconst 1, 1) rfl
theorem dX6_isFull_13 : decode cX6_isFull 13 = .ok (.goto 4, 3) := dr9 dk9_dX6_isFull_0_0 9 (13, .goto 4, 3) rfl
theorem dk9_dX6_add_0_0 : dOk cX6_add [(0, .aload_n 0, 1), (1, .getfield 15, 3), (4, .aload_n 0, 1), (5, .getfield 9, 3), (8, .arraylength, 1), (9, .if_icmp .lt 5, 3), (14, .aload_n 0, 1), (15, .getfield 9, 3), (18, .aload_n 0, 1), (19, .getfield 15, 3), (22, .lload_n 1, 1), (23, .lastore, 1), (24, .aload_n 0, 1), (25, .dup, 1), (26, .getfield 15, 3), (29, .dup_x1, 1), (30, .iconst 1, 1), (31, .iadd, 1), (32, .putfield 15, 3), (35, .ireturn, 1), (12, .iconst (-1), 1), (13, .ireturn, 1)] = true := by decide +kernel
theorem dX6_add_0 : decode cX6_add 0 = .ok (.aload_n 0, 1) := dr9 dk9_dX6_add_0_0 0 (0, .aload_n 0, 1) rfl
theorem dX6_add_1 : decode cX6_add 1 = .ok (.getfield 15, 3) := dr9 dk9_dX6_add_0_0 1 (1, .getfield 15, 3) rfl
theorem dX6_add_4 : decode cX6_add 4 = .ok (.aload_n 0, 1) := dr9 dk9_dX6_add_0_0 2 (4, .aload_n 0, 1) rfl
theorem dX6_add_5 : decode cX6_add 5 = .ok (.getfield 9, 3) := dr9 dk9_dX6_add_0_0 3 (5, .getfield 9, 3) rfl
theorem dX6_add_8 : decode cX6_add 8 = .ok (.arraylength, 1) := dr9 dk9_dX6_add_0_0 4 (8, .arraylength, 1) rfl
theorem dX6_add_9 : decode cX6_add 9 = .ok (.if_icmp .lt 5, 3) := dr9 dk9_dX6_add_0_0 5 (9, .if_icmp .lt 5, 3) rfl
theorem dX6_add_14 : decode cX6_add 14 = .ok (.aload_n 0, 1) := dr9 dk9_dX6_add_0_0 6 (14, .aload_n 0, 1) rfl
theorem dX6_add_15 : decode cX6_add 15 = .ok (.getfield 9, 3) := dr9 dk9_dX6_add_0_0 7 (15, .getfield 9, 3) rfl
theorem dX6_add_18 : decode cX6_add 18 = .ok (.aload_n 0, 1) := dr9 dk9_dX6_add_0_0 8 (18, .aload_n 0, 1) rfl
theorem dX6_add_19 : decode cX6_add 19 = .ok (.getfield 15, 3) := dr9 dk9_dX6_add_0_0 9 (19, .getfield 15, 3) rfl
theorem dX6_add_22 : decode cX6_add 22 = .ok (.lload_n 1, 1) := dr9 dk9_dX6_add_0_0 10 (22, .lload_n 1, 1) rfl
theorem dX6_add_23 : decode cX6_add 23 = .ok (.lastore, 1) := dr9 dk9_dX6_add_0_0 11 (23, .lastore, 1) rfl
theorem dX6_add_24 : decode cX6_add 24 = .ok (.aload_n 0, 1) := dr9 dk9_dX6_add_0_0 12 (24, .aload_n 0, 1) rfl
theorem dX6_add_25 : decode cX6_add 25 = .ok (.dup, 1) := dr9 dk9_dX6_add_0_0 13 (25, .dup, 1) rfl
theorem dX6_add_26 : decode cX6_add 26 = .ok (.getfield 15, 3) := dr9 dk9_dX6_add_0_0 14 (26, .getfield 15, 3) rfl
theorem dX6_add_29 : decode cX6_add 29 = .ok (.dup_x1, 1) := dr9 dk9_dX6_add_0_0 15 (29, .dup_x1, 1) rfl
theorem dX6_add_30 : decode cX6_add 30 = .ok (.iconst 1, 1) := dr9 dk9_dX6_add_0_0 16 (30, .iconst 1, 1) rfl
theorem dX6_add_31 : decode cX6_add 31 = .ok (.iadd, 1) := dr9 dk9_dX6_add_0_0 17 (31, .iadd, 1) rfl
theorem dX6_add_32 : decode cX6_add 32 = .ok (.putfield 15, 3) := dr9 dk9_dX6_add_0_0 18 (32, .putfield 15, 3) rfl
theorem dX6_add_35 : decode cX6_add 35 = .ok (.ireturn, 1) := dr9 dk9_dX6_add_0_0 19 (35, .ireturn, 1) rfl
theorem dX6_add_12 : decode cX6_add 12 = .ok (.iconst (-1), 1) := dr9 dk9_dX6_add_0_0 20 (12, .iconst (-1), 1) rfl
theorem dX6_add_13 : decode cX6_add 13 = .ok (.ireturn, 1) := dr9 dk9_dX6_add_0_0 21 (13, .ireturn, 1) rfl
theorem dk9_dX7_clear_0_0 : dOk cX7_clear [(0, .aload_n 0, 1), (1, .iconst 0, 1), (2, .putfield 27, 3), (5, .aload_n 0, 1), (6, .iconst 0, 1), (7, .putfield 31, 3), (10, .aload_n 0, 1), (11, .iconst 0, 1), (12, .putfield 34, 3), (15, .aload_n 0, 1), (16, .iconst 0, 1), (17, .putfield 37, 3), (20, .return_, 1)] = true := by decide +kernel
theorem dX7_clear_0 : decode cX7_clear 0 = .ok (.aload_n 0, 1) := dr9 dk9_dX7_clear_0_0 0 (0, .aload_n 0, 1) rfl
theorem dX7_clear_1 : decode cX7_clear 1 = .ok (.iconst 0, 1) := dr9 dk9_dX7_clear_0_0 1 (1, .iconst 0, 1) rfl
theorem dX7_clear_2 : decode cX7_clear 2 = .ok (.putfield 27, 3) := dr9 dk9_dX7_clear_0_0 2 (2, .putfield 27, 3) rfl
theorem dX7_clear_5 : decode cX7_clear 5 = .ok (.aload_n 0, 1) := dr9 dk9_dX7_clear_0_0 3 (5, .aload_n 0, 1) rfl
theorem dX7_clear_6 : decode cX7_clear 6 = .ok (.iconst 0, 1) := dr9 dk9_dX7_clear_0_0 4 (6, .iconst 0, 1) rfl
theorem dX7_clear_7 : decode cX7_clear 7 = .ok (.putfield 31, 3) := dr9 dk9_dX7_clear_0_0 5 (7, .putfield 31, 3) rfl
theorem dX7_clear_10 : decode cX7_clear 10 = .ok (.aload_n 0, 1) := dr9 dk9_dX7_clear_0_0 6 (10, .aload_n 0, 1) rfl
theorem dX7_clear_11 : decode cX7_clear 11 = .ok (.iconst 0, 1) := dr9 dk9_dX7_clear_0_0 7 (11, .iconst 0, 1) rfl
theorem dX7_clear_12 : decode cX7_clear 12 = .ok (.putfield 34, 3) := dr9 dk9_dX7_clear_0_0 8 (12, .putfield 34, 3) rfl
theorem dX7_clear_15 : decode cX7_clear 15 = .ok (.aload_n 0, 1) := dr9 dk9_dX7_clear_0_0 9 (15, .aload_n 0, 1) rfl
theorem dX7_clear_16 : decode cX7_clear 16 = .ok (.iconst 0, 1) := dr9 dk9_dX7_clear_0_0 10 (16, .iconst 0, 1) rfl
theorem dX7_clear_17 : decode cX7_clear 17 = .ok (.putfield 37, 3) := dr9 dk9_dX7_clear_0_0 11 (17, .putfield 37, 3) rfl
theorem dX7_clear_20 : decode cX7_clear 20 = .ok (.return_, 1) := dr9 dk9_dX7_clear_0_0 12 (20, .return_, 1) rfl
theorem dk9_dX7_forgetThings_0_0 : dOk cX7_forgetThings [(0, .aload_n 0, 1), (1, .iconst 0, 1), (2, .putfield 27, 3), (5, .return_, 1)] = true := by decide +kernel
theorem dX7_forgetThings_0 : decode cX7_forgetThings 0 = .ok (.aload_n 0, 1) := dr9 dk9_dX7_forgetThings_0_0 0 (0, .aload_n 0, 1) rfl
theorem dX7_forgetThings_1 : decode cX7_forgetThings 1 = .ok (.iconst 0, 1) := dr9 dk9_dX7_forgetThings_0_0 1 (1, .iconst 0, 1) rfl
theorem dX7_forgetThings_2 : decode cX7_forgetThings 2 = .ok (.putfield 27, 3) := dr9 dk9_dX7_forgetThings_0_0 2 (2, .putfield 27, 3) rfl
theorem dX7_forgetThings_5 : decode cX7_forgetThings 5 = .ok (.return_, 1) := dr9 dk9_dX7_forgetThings_0_0 3 (5, .return_, 1) rfl
theorem dk9_dX7_noteThing_0_0 : dOk cX7_noteThing [(0, .aload_n 0, 1), (1, .getfield 40, 3), (4, .ifCond .eq 52, 3), (56, .return_, 1), (7, .aload_n 0, 1), (8, .getfield 27, 3), (11, .bipush 100, 2), (13, .if_icmp .ge 43, 3), (16, .aload_n 0, 1), (17, .getfield 9, 3), (20, .aload_n 0, 1), (21, .getfield 27, 3), (24, .iload_n 1, 1), (25, .iastore, 1), (26, .aload_n 0, 1), (27, .getfield 15, 3), (30, .aload_n 0, 1), (31, .getfield 27, 3), (34, .iload_n 2, 1), (35, .iastore, 1), (36, .aload_n 0, 1), (37, .getfield 18, 3), (40, .aload_n 0, 1), (41, .getfield 27, 3)] = true ∧ dOk cX7_noteThing [(44, .iload_n 3, 1), (45, .iastore, 1), (46, .aload_n 0, 1), (47, .dup, 1), (48, .getfield 27, 3), (51, .iconst 1, 1), (52, .iadd, 1), (53, .putfield 27, 3)] = true := by decide +kernel
theorem dX7_noteThing_0 : decode cX7_noteThing 0 = .ok (.aload_n 0, 1) := dr9 dk9_dX7_noteThing_0_0.1 0 (0, .aload_n 0, 1) rfl
theorem dX7_noteThing_1 : decode cX7_noteThing 1 = .ok (.getfield 40, 3) := dr9 dk9_dX7_noteThing_0_0.1 1 (1, .getfield 40, 3) rfl
theorem dX7_noteThing_4 : decode cX7_noteThing 4 = .ok (.ifCond .eq 52, 3) := dr9 dk9_dX7_noteThing_0_0.1 2 (4, .ifCond .eq 52, 3) rfl
theorem dX7_noteThing_56 : decode cX7_noteThing 56 = .ok (.return_, 1) := dr9 dk9_dX7_noteThing_0_0.1 3 (56, .return_, 1) rfl
theorem dX7_noteThing_7 : decode cX7_noteThing 7 = .ok (.aload_n 0, 1) := dr9 dk9_dX7_noteThing_0_0.1 4 (7, .aload_n 0, 1) rfl
theorem dX7_noteThing_8 : decode cX7_noteThing 8 = .ok (.getfield 27, 3) := dr9 dk9_dX7_noteThing_0_0.1 5 (8, .getfield 27, 3) rfl
theorem dX7_noteThing_11 : decode cX7_noteThing 11 = .ok (.bipush 100, 2) := dr9 dk9_dX7_noteThing_0_0.1 6 (11, .bipush 100, 2) rfl
theorem dX7_noteThing_13 : decode cX7_noteThing 13 = .ok (.if_icmp .ge 43, 3) := dr9 dk9_dX7_noteThing_0_0.1 7 (13, .if_icmp .ge 43, 3) rfl
theorem dX7_noteThing_16 : decode cX7_noteThing 16 = .ok (.aload_n 0, 1) := dr9 dk9_dX7_noteThing_0_0.1 8 (16, .aload_n 0, 1) rfl
theorem dX7_noteThing_17 : decode cX7_noteThing 17 = .ok (.getfield 9, 3) := dr9 dk9_dX7_noteThing_0_0.1 9 (17, .getfield 9, 3) rfl
theorem dX7_noteThing_20 : decode cX7_noteThing 20 = .ok (.aload_n 0, 1) := dr9 dk9_dX7_noteThing_0_0.1 10 (20, .aload_n 0, 1) rfl
theorem dX7_noteThing_21 : decode cX7_noteThing 21 = .ok (.getfield 27, 3) := dr9 dk9_dX7_noteThing_0_0.1 11 (21, .getfield 27, 3) rfl
theorem dX7_noteThing_24 : decode cX7_noteThing 24 = .ok (.iload_n 1, 1) := dr9 dk9_dX7_noteThing_0_0.1 12 (24, .iload_n 1, 1) rfl
theorem dX7_noteThing_25 : decode cX7_noteThing 25 = .ok (.iastore, 1) := dr9 dk9_dX7_noteThing_0_0.1 13 (25, .iastore, 1) rfl
theorem dX7_noteThing_26 : decode cX7_noteThing 26 = .ok (.aload_n 0, 1) := dr9 dk9_dX7_noteThing_0_0.1 14 (26, .aload_n 0, 1) rfl
theorem dX7_noteThing_27 : decode cX7_noteThing 27 = .ok (.getfield 15, 3) := dr9 dk9_dX7_noteThing_0_0.1 15 (27, .getfield 15, 3) rfl
theorem dX7_noteThing_30 : decode cX7_noteThing 30 = .ok (.aload_n 0, 1) := dr9 dk9_dX7_noteThing_0_0.1 16 (30, .aload_n 0, 1) rfl
theorem dX7_noteThing_31 : decode cX7_noteThing 31 = .ok (.getfield 27, 3) := dr9 dk9_dX7_noteThing_0_0.1 17 (31, .getfield 27, 3) rfl
theorem dX7_noteThing_34 : decode cX7_noteThing 34 = .ok (.iload_n 2, 1) := dr9 dk9_dX7_noteThing_0_0.1 18 (34, .iload_n 2, 1) rfl
theorem dX7_noteThing_35 : decode cX7_noteThing 35 = .ok (.iastore, 1) := dr9 dk9_dX7_noteThing_0_0.1 19 (35, .iastore, 1) rfl
theorem dX7_noteThing_36 : decode cX7_noteThing 36 = .ok (.aload_n 0, 1) := dr9 dk9_dX7_noteThing_0_0.1 20 (36, .aload_n 0, 1) rfl
theorem dX7_noteThing_37 : decode cX7_noteThing 37 = .ok (.getfield 18, 3) := dr9 dk9_dX7_noteThing_0_0.1 21 (37, .getfield 18, 3) rfl
theorem dX7_noteThing_40 : decode cX7_noteThing 40 = .ok (.aload_n 0, 1) := dr9 dk9_dX7_noteThing_0_0.1 22 (40, .aload_n 0, 1) rfl
theorem dX7_noteThing_41 : decode cX7_noteThing 41 = .ok (.getfield 27, 3) := dr9 dk9_dX7_noteThing_0_0.1 23 (41, .getfield 27, 3) rfl
theorem dX7_noteThing_44 : decode cX7_noteThing 44 = .ok (.iload_n 3, 1) := dr9 dk9_dX7_noteThing_0_0.2 0 (44, .iload_n 3, 1) rfl
theorem dX7_noteThing_45 : decode cX7_noteThing 45 = .ok (.iastore, 1) := dr9 dk9_dX7_noteThing_0_0.2 1 (45, .iastore, 1) rfl
theorem dX7_noteThing_46 : decode cX7_noteThing 46 = .ok (.aload_n 0, 1) := dr9 dk9_dX7_noteThing_0_0.2 2 (46, .aload_n 0, 1) rfl
theorem dX7_noteThing_47 : decode cX7_noteThing 47 = .ok (.dup, 1) := dr9 dk9_dX7_noteThing_0_0.2 3 (47, .dup, 1) rfl
theorem dX7_noteThing_48 : decode cX7_noteThing 48 = .ok (.getfield 27, 3) := dr9 dk9_dX7_noteThing_0_0.2 4 (48, .getfield 27, 3) rfl
theorem dX7_noteThing_51 : decode cX7_noteThing 51 = .ok (.iconst 1, 1) := dr9 dk9_dX7_noteThing_0_0.2 5 (51, .iconst 1, 1) rfl
theorem dX7_noteThing_52 : decode cX7_noteThing 52 = .ok (.iadd, 1) := dr9 dk9_dX7_noteThing_0_0.2 6 (52, .iadd, 1) rfl
theorem dX7_noteThing_53 : decode cX7_noteThing 53 = .ok (.putfield 27, 3) := dr9 dk9_dX7_noteThing_0_0.2 7 (53, .putfield 27, 3) rfl
theorem dk9_dX7_ofThing_0_0 : dOk cX7_ofThing [(0, .iload_n 1, 1), (1, .ifCond .lt 11, 3), (12, .iconst (-1), 1), (13, .ireturn, 1), (4, .iload_n 1, 1), (5, .aload_n 0, 1), (6, .getfield 27, 3), (9, .if_icmp .lt 5, 3), (14, .iload_n 2, 1), (15, .tableswitch 46 0 2 #[25, 32, 39], 25), (40, .aload_n 0, 1), (41, .getfield 9, 3), (44, .iload_n 1, 1), (45, .iaload, 1), (46, .ireturn, 1), (47, .aload_n 0, 1), (48, .getfield 15, 3), (51, .iload_n 1, 1), (52, .iaload, 1), (53, .ireturn, 1), (54, .aload_n 0, 1), (55, .getfield 18, 3), (58, .iload_n 1, 1), (59, .iaload, 1)] = true ∧ dOk cX7_ofThing [(60, .ireturn, 1), (61, .iconst (-1), 1), (62, .ireturn, 1)] = true := by decide +kernel
theorem dX7_ofThing_0 : decode cX7_ofThing 0 = .ok (.iload_n 1, 1) := dr9 dk9_dX7_ofThing_0_0.1 0 (0, .iload_n 1, 1) rfl
theorem dX7_ofThing_1 : decode cX7_ofThing 1 = .ok (.ifCond .lt 11, 3) := dr9 dk9_dX7_ofThing_0_0.1 1 (1, .ifCond .lt 11, 3) rfl
theorem dX7_ofThing_12 : decode cX7_ofThing 12 = .ok (.iconst (-1), 1) := dr9 dk9_dX7_ofThing_0_0.1 2 (12, .iconst (-1), 1) rfl
theorem dX7_ofThing_13 : decode cX7_ofThing 13 = .ok (.ireturn, 1) := dr9 dk9_dX7_ofThing_0_0.1 3 (13, .ireturn, 1) rfl
theorem dX7_ofThing_4 : decode cX7_ofThing 4 = .ok (.iload_n 1, 1) := dr9 dk9_dX7_ofThing_0_0.1 4 (4, .iload_n 1, 1) rfl
theorem dX7_ofThing_5 : decode cX7_ofThing 5 = .ok (.aload_n 0, 1) := dr9 dk9_dX7_ofThing_0_0.1 5 (5, .aload_n 0, 1) rfl
theorem dX7_ofThing_6 : decode cX7_ofThing 6 = .ok (.getfield 27, 3) := dr9 dk9_dX7_ofThing_0_0.1 6 (6, .getfield 27, 3) rfl
theorem dX7_ofThing_9 : decode cX7_ofThing 9 = .ok (.if_icmp .lt 5, 3) := dr9 dk9_dX7_ofThing_0_0.1 7 (9, .if_icmp .lt 5, 3) rfl
theorem dX7_ofThing_14 : decode cX7_ofThing 14 = .ok (.iload_n 2, 1) := dr9 dk9_dX7_ofThing_0_0.1 8 (14, .iload_n 2, 1) rfl
theorem dX7_ofThing_15 : decode cX7_ofThing 15 = .ok (.tableswitch 46 0 2 #[25, 32, 39], 25) := dr9 dk9_dX7_ofThing_0_0.1 9 (15, .tableswitch 46 0 2 #[25, 32, 39], 25) rfl
theorem dX7_ofThing_40 : decode cX7_ofThing 40 = .ok (.aload_n 0, 1) := dr9 dk9_dX7_ofThing_0_0.1 10 (40, .aload_n 0, 1) rfl
theorem dX7_ofThing_41 : decode cX7_ofThing 41 = .ok (.getfield 9, 3) := dr9 dk9_dX7_ofThing_0_0.1 11 (41, .getfield 9, 3) rfl
theorem dX7_ofThing_44 : decode cX7_ofThing 44 = .ok (.iload_n 1, 1) := dr9 dk9_dX7_ofThing_0_0.1 12 (44, .iload_n 1, 1) rfl
theorem dX7_ofThing_45 : decode cX7_ofThing 45 = .ok (.iaload, 1) := dr9 dk9_dX7_ofThing_0_0.1 13 (45, .iaload, 1) rfl
theorem dX7_ofThing_46 : decode cX7_ofThing 46 = .ok (.ireturn, 1) := dr9 dk9_dX7_ofThing_0_0.1 14 (46, .ireturn, 1) rfl
theorem dX7_ofThing_47 : decode cX7_ofThing 47 = .ok (.aload_n 0, 1) := dr9 dk9_dX7_ofThing_0_0.1 15 (47, .aload_n 0, 1) rfl
theorem dX7_ofThing_48 : decode cX7_ofThing 48 = .ok (.getfield 15, 3) := dr9 dk9_dX7_ofThing_0_0.1 16 (48, .getfield 15, 3) rfl
theorem dX7_ofThing_51 : decode cX7_ofThing 51 = .ok (.iload_n 1, 1) := dr9 dk9_dX7_ofThing_0_0.1 17 (51, .iload_n 1, 1) rfl
theorem dX7_ofThing_52 : decode cX7_ofThing 52 = .ok (.iaload, 1) := dr9 dk9_dX7_ofThing_0_0.1 18 (52, .iaload, 1) rfl
theorem dX7_ofThing_53 : decode cX7_ofThing 53 = .ok (.ireturn, 1) := dr9 dk9_dX7_ofThing_0_0.1 19 (53, .ireturn, 1) rfl
theorem dX7_ofThing_54 : decode cX7_ofThing 54 = .ok (.aload_n 0, 1) := dr9 dk9_dX7_ofThing_0_0.1 20 (54, .aload_n 0, 1) rfl
theorem dX7_ofThing_55 : decode cX7_ofThing 55 = .ok (.getfield 18, 3) := dr9 dk9_dX7_ofThing_0_0.1 21 (55, .getfield 18, 3) rfl
theorem dX7_ofThing_58 : decode cX7_ofThing 58 = .ok (.iload_n 1, 1) := dr9 dk9_dX7_ofThing_0_0.1 22 (58, .iload_n 1, 1) rfl
theorem dX7_ofThing_59 : decode cX7_ofThing 59 = .ok (.iaload, 1) := dr9 dk9_dX7_ofThing_0_0.1 23 (59, .iaload, 1) rfl
theorem dX7_ofThing_60 : decode cX7_ofThing 60 = .ok (.ireturn, 1) := dr9 dk9_dX7_ofThing_0_0.2 0 (60, .ireturn, 1) rfl
theorem dX7_ofThing_61 : decode cX7_ofThing 61 = .ok (.iconst (-1), 1) := dr9 dk9_dX7_ofThing_0_0.2 1 (61, .iconst (-1), 1) rfl
theorem dX7_ofThing_62 : decode cX7_ofThing 62 = .ok (.ireturn, 1) := dr9 dk9_dX7_ofThing_0_0.2 2 (62, .ireturn, 1) rfl
theorem dk9_dX7_noteClosing_0_0 : dOk cX7_noteClosing [(0, .aload_n 0, 1), (1, .getfield 31, 3), (4, .sipush 300, 3), (7, .if_icmp .ge 33, 3), (40, .return_, 1), (10, .aload_n 0, 1), (11, .getfield 21, 3), (14, .aload_n 0, 1), (15, .getfield 31, 3), (18, .iload_n 1, 1), (19, .iastore, 1), (20, .aload_n 0, 1), (21, .getfield 24, 3), (24, .aload_n 0, 1), (25, .getfield 31, 3), (28, .iload_n 2, 1), (29, .iastore, 1), (30, .aload_n 0, 1), (31, .dup, 1), (32, .getfield 31, 3), (35, .iconst 1, 1), (36, .iadd, 1), (37, .putfield 31, 3)] = true := by decide +kernel
theorem dX7_noteClosing_0 : decode cX7_noteClosing 0 = .ok (.aload_n 0, 1) := dr9 dk9_dX7_noteClosing_0_0 0 (0, .aload_n 0, 1) rfl
theorem dX7_noteClosing_1 : decode cX7_noteClosing 1 = .ok (.getfield 31, 3) := dr9 dk9_dX7_noteClosing_0_0 1 (1, .getfield 31, 3) rfl
theorem dX7_noteClosing_4 : decode cX7_noteClosing 4 = .ok (.sipush 300, 3) := dr9 dk9_dX7_noteClosing_0_0 2 (4, .sipush 300, 3) rfl
theorem dX7_noteClosing_7 : decode cX7_noteClosing 7 = .ok (.if_icmp .ge 33, 3) := dr9 dk9_dX7_noteClosing_0_0 3 (7, .if_icmp .ge 33, 3) rfl
theorem dX7_noteClosing_40 : decode cX7_noteClosing 40 = .ok (.return_, 1) := dr9 dk9_dX7_noteClosing_0_0 4 (40, .return_, 1) rfl
theorem dX7_noteClosing_10 : decode cX7_noteClosing 10 = .ok (.aload_n 0, 1) := dr9 dk9_dX7_noteClosing_0_0 5 (10, .aload_n 0, 1) rfl
theorem dX7_noteClosing_11 : decode cX7_noteClosing 11 = .ok (.getfield 21, 3) := dr9 dk9_dX7_noteClosing_0_0 6 (11, .getfield 21, 3) rfl
theorem dX7_noteClosing_14 : decode cX7_noteClosing 14 = .ok (.aload_n 0, 1) := dr9 dk9_dX7_noteClosing_0_0 7 (14, .aload_n 0, 1) rfl
theorem dX7_noteClosing_15 : decode cX7_noteClosing 15 = .ok (.getfield 31, 3) := dr9 dk9_dX7_noteClosing_0_0 8 (15, .getfield 31, 3) rfl
theorem dX7_noteClosing_18 : decode cX7_noteClosing 18 = .ok (.iload_n 1, 1) := dr9 dk9_dX7_noteClosing_0_0 9 (18, .iload_n 1, 1) rfl
theorem dX7_noteClosing_19 : decode cX7_noteClosing 19 = .ok (.iastore, 1) := dr9 dk9_dX7_noteClosing_0_0 10 (19, .iastore, 1) rfl
theorem dX7_noteClosing_20 : decode cX7_noteClosing 20 = .ok (.aload_n 0, 1) := dr9 dk9_dX7_noteClosing_0_0 11 (20, .aload_n 0, 1) rfl
theorem dX7_noteClosing_21 : decode cX7_noteClosing 21 = .ok (.getfield 24, 3) := dr9 dk9_dX7_noteClosing_0_0 12 (21, .getfield 24, 3) rfl
theorem dX7_noteClosing_24 : decode cX7_noteClosing 24 = .ok (.aload_n 0, 1) := dr9 dk9_dX7_noteClosing_0_0 13 (24, .aload_n 0, 1) rfl
theorem dX7_noteClosing_25 : decode cX7_noteClosing 25 = .ok (.getfield 31, 3) := dr9 dk9_dX7_noteClosing_0_0 14 (25, .getfield 31, 3) rfl
theorem dX7_noteClosing_28 : decode cX7_noteClosing 28 = .ok (.iload_n 2, 1) := dr9 dk9_dX7_noteClosing_0_0 15 (28, .iload_n 2, 1) rfl
theorem dX7_noteClosing_29 : decode cX7_noteClosing 29 = .ok (.iastore, 1) := dr9 dk9_dX7_noteClosing_0_0 16 (29, .iastore, 1) rfl
theorem dX7_noteClosing_30 : decode cX7_noteClosing 30 = .ok (.aload_n 0, 1) := dr9 dk9_dX7_noteClosing_0_0 17 (30, .aload_n 0, 1) rfl
theorem dX7_noteClosing_31 : decode cX7_noteClosing 31 = .ok (.dup, 1) := dr9 dk9_dX7_noteClosing_0_0 18 (31, .dup, 1) rfl
theorem dX7_noteClosing_32 : decode cX7_noteClosing 32 = .ok (.getfield 31, 3) := dr9 dk9_dX7_noteClosing_0_0 19 (32, .getfield 31, 3) rfl
theorem dX7_noteClosing_35 : decode cX7_noteClosing 35 = .ok (.iconst 1, 1) := dr9 dk9_dX7_noteClosing_0_0 20 (35, .iconst 1, 1) rfl
theorem dX7_noteClosing_36 : decode cX7_noteClosing 36 = .ok (.iadd, 1) := dr9 dk9_dX7_noteClosing_0_0 21 (36, .iadd, 1) rfl
theorem dX7_noteClosing_37 : decode cX7_noteClosing 37 = .ok (.putfield 31, 3) := dr9 dk9_dX7_noteClosing_0_0 22 (37, .putfield 31, 3) rfl
theorem dk9_dX7_ofClosing_0_0 : dOk cX7_ofClosing [(0, .iload_n 1, 1), (1, .ifCond .lt 11, 3), (12, .iconst (-1), 1), (13, .ireturn, 1), (4, .iload_n 1, 1), (5, .aload_n 0, 1), (6, .getfield 31, 3), (9, .if_icmp .lt 5, 3), (14, .iload_n 2, 1), (15, .ifCond .ne 12, 3), (27, .iload_n 2, 1), (28, .iconst 1, 1), (29, .if_icmp .ne 12, 3), (41, .iconst (-1), 1), (42, .ireturn, 1), (32, .aload_n 0, 1), (33, .getfield 24, 3), (36, .iload_n 1, 1), (37, .iaload, 1), (38, .goto 4, 3), (18, .aload_n 0, 1), (19, .getfield 21, 3), (22, .iload_n 1, 1), (23, .iaload, 1)] = true ∧ dOk cX7_ofClosing [(24, .goto 18, 3)] = true := by decide +kernel
theorem dX7_ofClosing_0 : decode cX7_ofClosing 0 = .ok (.iload_n 1, 1) := dr9 dk9_dX7_ofClosing_0_0.1 0 (0, .iload_n 1, 1) rfl
theorem dX7_ofClosing_1 : decode cX7_ofClosing 1 = .ok (.ifCond .lt 11, 3) := dr9 dk9_dX7_ofClosing_0_0.1 1 (1, .ifCond .lt 11, 3) rfl
theorem dX7_ofClosing_12 : decode cX7_ofClosing 12 = .ok (.iconst (-1), 1) := dr9 dk9_dX7_ofClosing_0_0.1 2 (12, .iconst (-1), 1) rfl
theorem dX7_ofClosing_13 : decode cX7_ofClosing 13 = .ok (.ireturn, 1) := dr9 dk9_dX7_ofClosing_0_0.1 3 (13, .ireturn, 1) rfl
theorem dX7_ofClosing_4 : decode cX7_ofClosing 4 = .ok (.iload_n 1, 1) := dr9 dk9_dX7_ofClosing_0_0.1 4 (4, .iload_n 1, 1) rfl
theorem dX7_ofClosing_5 : decode cX7_ofClosing 5 = .ok (.aload_n 0, 1) := dr9 dk9_dX7_ofClosing_0_0.1 5 (5, .aload_n 0, 1) rfl
theorem dX7_ofClosing_6 : decode cX7_ofClosing 6 = .ok (.getfield 31, 3) := dr9 dk9_dX7_ofClosing_0_0.1 6 (6, .getfield 31, 3) rfl
theorem dX7_ofClosing_9 : decode cX7_ofClosing 9 = .ok (.if_icmp .lt 5, 3) := dr9 dk9_dX7_ofClosing_0_0.1 7 (9, .if_icmp .lt 5, 3) rfl
theorem dX7_ofClosing_14 : decode cX7_ofClosing 14 = .ok (.iload_n 2, 1) := dr9 dk9_dX7_ofClosing_0_0.1 8 (14, .iload_n 2, 1) rfl
theorem dX7_ofClosing_15 : decode cX7_ofClosing 15 = .ok (.ifCond .ne 12, 3) := dr9 dk9_dX7_ofClosing_0_0.1 9 (15, .ifCond .ne 12, 3) rfl
theorem dX7_ofClosing_27 : decode cX7_ofClosing 27 = .ok (.iload_n 2, 1) := dr9 dk9_dX7_ofClosing_0_0.1 10 (27, .iload_n 2, 1) rfl
theorem dX7_ofClosing_28 : decode cX7_ofClosing 28 = .ok (.iconst 1, 1) := dr9 dk9_dX7_ofClosing_0_0.1 11 (28, .iconst 1, 1) rfl
theorem dX7_ofClosing_29 : decode cX7_ofClosing 29 = .ok (.if_icmp .ne 12, 3) := dr9 dk9_dX7_ofClosing_0_0.1 12 (29, .if_icmp .ne 12, 3) rfl
theorem dX7_ofClosing_41 : decode cX7_ofClosing 41 = .ok (.iconst (-1), 1) := dr9 dk9_dX7_ofClosing_0_0.1 13 (41, .iconst (-1), 1) rfl
theorem dX7_ofClosing_42 : decode cX7_ofClosing 42 = .ok (.ireturn, 1) := dr9 dk9_dX7_ofClosing_0_0.1 14 (42, .ireturn, 1) rfl
theorem dX7_ofClosing_32 : decode cX7_ofClosing 32 = .ok (.aload_n 0, 1) := dr9 dk9_dX7_ofClosing_0_0.1 15 (32, .aload_n 0, 1) rfl
theorem dX7_ofClosing_33 : decode cX7_ofClosing 33 = .ok (.getfield 24, 3) := dr9 dk9_dX7_ofClosing_0_0.1 16 (33, .getfield 24, 3) rfl
theorem dX7_ofClosing_36 : decode cX7_ofClosing 36 = .ok (.iload_n 1, 1) := dr9 dk9_dX7_ofClosing_0_0.1 17 (36, .iload_n 1, 1) rfl
theorem dX7_ofClosing_37 : decode cX7_ofClosing 37 = .ok (.iaload, 1) := dr9 dk9_dX7_ofClosing_0_0.1 18 (37, .iaload, 1) rfl
theorem dX7_ofClosing_38 : decode cX7_ofClosing 38 = .ok (.goto 4, 3) := dr9 dk9_dX7_ofClosing_0_0.1 19 (38, .goto 4, 3) rfl
theorem dX7_ofClosing_18 : decode cX7_ofClosing 18 = .ok (.aload_n 0, 1) := dr9 dk9_dX7_ofClosing_0_0.1 20 (18, .aload_n 0, 1) rfl
theorem dX7_ofClosing_19 : decode cX7_ofClosing 19 = .ok (.getfield 21, 3) := dr9 dk9_dX7_ofClosing_0_0.1 21 (19, .getfield 21, 3) rfl
theorem dX7_ofClosing_22 : decode cX7_ofClosing 22 = .ok (.iload_n 1, 1) := dr9 dk9_dX7_ofClosing_0_0.1 22 (22, .iload_n 1, 1) rfl
theorem dX7_ofClosing_23 : decode cX7_ofClosing 23 = .ok (.iaload, 1) := dr9 dk9_dX7_ofClosing_0_0.1 23 (23, .iaload, 1) rfl
theorem dX7_ofClosing_24 : decode cX7_ofClosing 24 = .ok (.goto 18, 3) := dr9 dk9_dX7_ofClosing_0_0.2 0 (24, .goto 18, 3) rfl
theorem dk9_dX7_noteCause_0_0 : dOk cX7_noteCause [(0, .aload_n 0, 1), (1, .iload_n 1, 1), (2, .putfield 34, 3), (5, .aload_n 0, 1), (6, .iload_n 2, 1), (7, .putfield 37, 3), (10, .return_, 1)] = true := by decide +kernel
theorem dX7_noteCause_0 : decode cX7_noteCause 0 = .ok (.aload_n 0, 1) := dr9 dk9_dX7_noteCause_0_0 0 (0, .aload_n 0, 1) rfl
theorem dX7_noteCause_1 : decode cX7_noteCause 1 = .ok (.iload_n 1, 1) := dr9 dk9_dX7_noteCause_0_0 1 (1, .iload_n 1, 1) rfl
theorem dX7_noteCause_2 : decode cX7_noteCause 2 = .ok (.putfield 34, 3) := dr9 dk9_dX7_noteCause_0_0 2 (2, .putfield 34, 3) rfl
theorem dX7_noteCause_5 : decode cX7_noteCause 5 = .ok (.aload_n 0, 1) := dr9 dk9_dX7_noteCause_0_0 3 (5, .aload_n 0, 1) rfl
theorem dX7_noteCause_6 : decode cX7_noteCause 6 = .ok (.iload_n 2, 1) := dr9 dk9_dX7_noteCause_0_0 4 (6, .iload_n 2, 1) rfl
theorem dX7_noteCause_7 : decode cX7_noteCause 7 = .ok (.putfield 37, 3) := dr9 dk9_dX7_noteCause_0_0 5 (7, .putfield 37, 3) rfl
theorem dX7_noteCause_10 : decode cX7_noteCause 10 = .ok (.return_, 1) := dr9 dk9_dX7_noteCause_0_0 6 (10, .return_, 1) rfl
theorem dk9_dX7_kindOfCause_0_0 : dOk cX7_kindOfCause [(0, .iload_n 1, 1), (1, .ifCond .lt 11, 3), (12, .iconst 0, 1), (13, .ireturn, 1), (4, .iload_n 1, 1), (5, .aload_n 0, 1), (6, .getfield 34, 3), (9, .if_icmp .le 5, 3), (14, .iload_n 1, 1), (15, .aload_n 0, 1), (16, .getfield 34, 3), (19, .if_icmp .ge 8, 3), (27, .aload_n 0, 1), (28, .getfield 37, 3), (31, .ireturn, 1), (22, .bipush 20, 2), (24, .goto 7, 3)] = true := by decide +kernel
theorem dX7_kindOfCause_0 : decode cX7_kindOfCause 0 = .ok (.iload_n 1, 1) := dr9 dk9_dX7_kindOfCause_0_0 0 (0, .iload_n 1, 1) rfl
theorem dX7_kindOfCause_1 : decode cX7_kindOfCause 1 = .ok (.ifCond .lt 11, 3) := dr9 dk9_dX7_kindOfCause_0_0 1 (1, .ifCond .lt 11, 3) rfl
theorem dX7_kindOfCause_12 : decode cX7_kindOfCause 12 = .ok (.iconst 0, 1) := dr9 dk9_dX7_kindOfCause_0_0 2 (12, .iconst 0, 1) rfl
theorem dX7_kindOfCause_13 : decode cX7_kindOfCause 13 = .ok (.ireturn, 1) := dr9 dk9_dX7_kindOfCause_0_0 3 (13, .ireturn, 1) rfl
theorem dX7_kindOfCause_4 : decode cX7_kindOfCause 4 = .ok (.iload_n 1, 1) := dr9 dk9_dX7_kindOfCause_0_0 4 (4, .iload_n 1, 1) rfl
theorem dX7_kindOfCause_5 : decode cX7_kindOfCause 5 = .ok (.aload_n 0, 1) := dr9 dk9_dX7_kindOfCause_0_0 5 (5, .aload_n 0, 1) rfl
theorem dX7_kindOfCause_6 : decode cX7_kindOfCause 6 = .ok (.getfield 34, 3) := dr9 dk9_dX7_kindOfCause_0_0 6 (6, .getfield 34, 3) rfl
theorem dX7_kindOfCause_9 : decode cX7_kindOfCause 9 = .ok (.if_icmp .le 5, 3) := dr9 dk9_dX7_kindOfCause_0_0 7 (9, .if_icmp .le 5, 3) rfl
theorem dX7_kindOfCause_14 : decode cX7_kindOfCause 14 = .ok (.iload_n 1, 1) := dr9 dk9_dX7_kindOfCause_0_0 8 (14, .iload_n 1, 1) rfl
theorem dX7_kindOfCause_15 : decode cX7_kindOfCause 15 = .ok (.aload_n 0, 1) := dr9 dk9_dX7_kindOfCause_0_0 9 (15, .aload_n 0, 1) rfl
theorem dX7_kindOfCause_16 : decode cX7_kindOfCause 16 = .ok (.getfield 34, 3) := dr9 dk9_dX7_kindOfCause_0_0 10 (16, .getfield 34, 3) rfl
theorem dX7_kindOfCause_19 : decode cX7_kindOfCause 19 = .ok (.if_icmp .ge 8, 3) := dr9 dk9_dX7_kindOfCause_0_0 11 (19, .if_icmp .ge 8, 3) rfl
theorem dX7_kindOfCause_27 : decode cX7_kindOfCause 27 = .ok (.aload_n 0, 1) := dr9 dk9_dX7_kindOfCause_0_0 12 (27, .aload_n 0, 1) rfl
theorem dX7_kindOfCause_28 : decode cX7_kindOfCause 28 = .ok (.getfield 37, 3) := dr9 dk9_dX7_kindOfCause_0_0 13 (28, .getfield 37, 3) rfl
theorem dX7_kindOfCause_31 : decode cX7_kindOfCause 31 = .ok (.ireturn, 1) := dr9 dk9_dX7_kindOfCause_0_0 14 (31, .ireturn, 1) rfl
theorem dX7_kindOfCause_22 : decode cX7_kindOfCause 22 = .ok (.bipush 20, 2) := dr9 dk9_dX7_kindOfCause_0_0 15 (22, .bipush 20, 2) rfl
theorem dX7_kindOfCause_24 : decode cX7_kindOfCause 24 = .ok (.goto 7, 3) := dr9 dk9_dX7_kindOfCause_0_0 16 (24, .goto 7, 3) rfl
abbrev r_x_isDigit : Room := { frames := 0, cells := 0, slots := 0, locals := 0 }
abbrev q_x_isDigit (D : va_G) (p0 : Int32) (A : Nat → Prop) : Array Value → State → Outcome → State → Prop := va_Qi (fun (r : Int32) (_ : Unit) => (0 ≤ r.toInt ∧ r.toInt ≤ 1)) (fun _ t => gq D A [] [] t) A
set_option maxHeartbeats 4000000 in
set_option maxRecDepth 100000 in
theorem x_isDigit (l : Launch) (D : va_G) (ks : KS) (sz : Nat) (p0 : Int32)  : Met l yX9_isDigit (Cond.code yX9_isDigit cX9_isDigit 1 (some .boolean) :: GW) r_x_isDigit (va_Pc [.int p0] (gp D ks ([]) ([]) sz)) (q_x_isDigit D p0 (va_A ([]) sz)) 0 0 (va_A ([]) sz) := by
  refine g_met (q_x_isDigit D p0) (by decide) (Nat.le_of_ble_eq_true rfl) ?_
  intro p e s m below meth c A ls H locs hx hb hr hml hown hg hlocks hin hnw hgk hP hK hD hS hA hl
  have hown : s.vm.findClass RX9 = some m.cls := hown
  have hl : lv_has ls 1 [(0, .int p0)] := hl
  refine lv_iload_n hx hb dX9_isDigit_0 rfl (lv_at hl 0 rfl) ?_
  refine lv_bipush (v := 48) hx hb dX9_isDigit_1 (by decide) ?_
  refine lv_icmp_lt (tgt := 16) hx hb dX9_isDigit_3 (by decide) (fun c1 => ?_) (fun c1 => ?_)
  · skip
    have f2 : p0.toInt < 48 := b_lt rfl (by decide) c1
    refine lv_iconst (v := 0) hx hb dX9_isDigit_16 (by decide) ?_
    exact W.zret (v := 0) hx hb hr rfl (fun t ht hW => ⟨⟨0, (), rfl, (by decide), by rw [ht]; exact hP, va_K.moved hW.alike hK, hD⟩, hS.F ht⟩) hS.2.2 dX9_isDigit_17
  · skip
    have f3 : 48 ≤ p0.toInt := b_nlt rfl (by decide) c1
    refine lv_iload_n hx hb dX9_isDigit_6 rfl (lv_at hl 0 rfl) ?_
    refine lv_bipush (v := 57) hx hb dX9_isDigit_7 (by decide) ?_
    refine lv_icmp_gt (tgt := 16) hx hb dX9_isDigit_9 (by decide) (fun c4 => ?_) (fun c4 => ?_)
    · skip
      have f5 : 57 < p0.toInt := b_lt (by decide) rfl c4
      refine lv_iconst (v := 0) hx hb dX9_isDigit_16 (by decide) ?_
      exact W.zret (v := 0) hx hb hr rfl (fun t ht hW => ⟨⟨0, (), rfl, (by decide), by rw [ht]; exact hP, va_K.moved hW.alike hK, hD⟩, hS.F ht⟩) hS.2.2 dX9_isDigit_17
    · skip
      have f6 : p0.toInt ≤ 57 := b_nlt (by decide) rfl c4
      refine lv_iconst (v := 1) hx hb dX9_isDigit_12 (by decide) ?_
      refine lv_goto (tgt := 17) hx hb dX9_isDigit_13 (by decide) ?_
      exact W.zret (v := 1) hx hb hr rfl (fun t ht hW => ⟨⟨1, (), rfl, (by decide), by rw [ht]; exact hP, va_K.moved hW.alike hK, hD⟩, hS.F ht⟩) hS.2.2 dX9_isDigit_17
abbrev r_x_isLetter : Room := { frames := 0, cells := 0, slots := 0, locals := 0 }
abbrev q_x_isLetter (D : va_G) (p0 : Int32) (A : Nat → Prop) : Array Value → State → Outcome → State → Prop := va_Qi (fun (r : Int32) (_ : Unit) => (0 ≤ r.toInt ∧ r.toInt ≤ 1)) (fun _ t => gq D A [] [] t) A
set_option maxHeartbeats 4000000 in
set_option maxRecDepth 100000 in
theorem x_isLetter (l : Launch) (D : va_G) (ks : KS) (sz : Nat) (p0 : Int32)  : Met l yX9_isLetter (Cond.code yX9_isLetter cX9_isLetter 1 (some .boolean) :: GW) r_x_isLetter (va_Pc [.int p0] (gp D ks ([]) ([]) sz)) (q_x_isLetter D p0 (va_A ([]) sz)) 0 0 (va_A ([]) sz) := by
  refine g_met (q_x_isLetter D p0) (by decide) (Nat.le_of_ble_eq_true rfl) ?_
  intro p e s m below meth c A ls H locs hx hb hr hml hown hg hlocks hin hnw hgk hP hK hD hS hA hl
  have hown : s.vm.findClass RX9 = some m.cls := hown
  have hl : lv_has ls 1 [(0, .int p0)] := hl
  refine lv_iload_n hx hb dX9_isLetter_0 rfl (lv_at hl 0 rfl) ?_
  refine lv_bipush (v := 97) hx hb dX9_isLetter_1 (by decide) ?_
  refine lv_icmp_lt (tgt := 16) hx hb dX9_isLetter_3 (by decide) (fun c1 => ?_) (fun c1 => ?_)
  · skip
    have f2 : p0.toInt < 97 := b_lt rfl (by decide) c1
    refine lv_iconst (v := 0) hx hb dX9_isLetter_16 (by decide) ?_
    exact W.zret (v := 0) hx hb hr rfl (fun t ht hW => ⟨⟨0, (), rfl, (by decide), by rw [ht]; exact hP, va_K.moved hW.alike hK, hD⟩, hS.F ht⟩) hS.2.2 dX9_isLetter_17
  · skip
    have f3 : 97 ≤ p0.toInt := b_nlt rfl (by decide) c1
    refine lv_iload_n hx hb dX9_isLetter_6 rfl (lv_at hl 0 rfl) ?_
    refine lv_bipush (v := 122) hx hb dX9_isLetter_7 (by decide) ?_
    refine lv_icmp_gt (tgt := 16) hx hb dX9_isLetter_9 (by decide) (fun c4 => ?_) (fun c4 => ?_)
    · skip
      have f5 : 122 < p0.toInt := b_lt (by decide) rfl c4
      refine lv_iconst (v := 0) hx hb dX9_isLetter_16 (by decide) ?_
      exact W.zret (v := 0) hx hb hr rfl (fun t ht hW => ⟨⟨0, (), rfl, (by decide), by rw [ht]; exact hP, va_K.moved hW.alike hK, hD⟩, hS.F ht⟩) hS.2.2 dX9_isLetter_17
    · skip
      have f6 : p0.toInt ≤ 122 := b_nlt (by decide) rfl c4
      refine lv_iconst (v := 1) hx hb dX9_isLetter_12 (by decide) ?_
      refine lv_goto (tgt := 17) hx hb dX9_isLetter_13 (by decide) ?_
      exact W.zret (v := 1) hx hb hr rfl (fun t ht hW => ⟨⟨1, (), rfl, (by decide), by rw [ht]; exact hP, va_K.moved hW.alike hK, hD⟩, hS.F ht⟩) hS.2.2 dX9_isLetter_17
abbrev r_x_codeOf : Room := { frames := 1, cells := 0, slots := 0, locals := 20 }
abbrev q_x_codeOf (D : va_G) (p0 : Int32) (A : Nat → Prop) : Array Value → State → Outcome → State → Prop := va_Qi (fun (r : Int32) (_ : Unit) => True) (fun _ t => gq D A [] [] t) A
set_option maxHeartbeats 4000000 in
set_option maxRecDepth 100000 in
theorem x_codeOf (l : Launch) (D : va_G) (ks : KS) (sz : Nat) (p0 : Int32)  : Met l yX9_codeOf (Cond.code yX9_codeOf cX9_codeOf 1 (some .int) :: GW) r_x_codeOf (va_Pc [.int p0] (gp D ks ([]) ([]) sz)) (q_x_codeOf D p0 (va_A ([]) sz)) 0 0 (va_A ([]) sz) := by
  refine g_met (q_x_codeOf D p0) (by decide) (Nat.le_of_ble_eq_true rfl) ?_
  intro p e s m below meth c A ls H locs hx hb hr hml hown hg hlocks hin hnw hgk hP hK hD hS hA hl
  have hown : s.vm.findClass RX9 = some m.cls := hown
  have hl : lv_has ls 1 [(0, .int p0)] := hl
  refine lv_iload_n hx hb dX9_codeOf_0 rfl (lv_at hl 0 rfl) ?_
  refine gE_int (g_runS (As := [.int p0]) (rest := []) (wc := []) (tc := []) hx hb hml hown hg gw_self hP hD hK hS hA hnw hgk [] [] (by decide) rfl rfl (x_isDigit l D ks H.size p0 ) w249 w250 w157 w251 hdS_yX9_isDigit ⟨Nat.le_of_ble_eq_true rfl, Nat.le_of_ble_eq_true rfl⟩ rfl hl.1 rfl (Nat.le_of_ble_eq_true rfl) dX9_codeOf_1 ⟨Nat.le_of_ble_eq_true rfl, Nat.le_of_ble_eq_true rfl⟩) hP hD hK hS hA (fun z1 u2 H locs w3 hP hD hK hS => ?_)
  have rgz1 := w3
  have rgz1 : 0 ≤ z1.toInt ∧ z1.toInt ≤ 1 := rgz1
  refine lv_if_eq (tgt := 17) hx hb dX9_codeOf_4 (by decide) (fun c4 => ?_) (fun c4 => ?_)
  · skip
    have f5 : z1.toInt = 0 := b_eq rfl (by decide) c4
    refine lv_iload_n hx hb dX9_codeOf_17 rfl (lv_at hl 0 rfl) ?_
    refine lv_bipush (v := 97) hx hb dX9_codeOf_18 (by decide) ?_
    refine lv_isub hx hb dX9_codeOf_20 ?_
    have r6 := i_full p0
    refine lv_topi (fun z7 ez7 => ?_)
    have hz7 : Imp (-2147483648 ≤ p0.toInt - 97 ∧ p0.toInt - 97 ≤ 2147483647) (z7.toInt = p0.toInt - 97) := Imp.mk (fun hp => i_sub ez7 rfl (by decide) hp)
    refine lv_iconst (v := 1) hx hb dX9_codeOf_21 (by decide) ?_
    refine lv_iadd hx hb dX9_codeOf_22 ?_
    have r8 := i_full z7
    refine lv_topi (fun z9 ez9 => ?_)
    have hz9 : Imp (-2147483648 ≤ z7.toInt + 1 ∧ z7.toInt + 1 ≤ 2147483647) (z9.toInt = z7.toInt + 1) := Imp.mk (fun hp => i_add ez9 rfl (by decide) hp)
    exact W.iret (v := z9) hx hb hr (fun t ht hW => ⟨⟨z9, (), rfl, trivial, by rw [ht]; exact hP, va_K.moved hW.alike hK, hD⟩, hS.F ht⟩) hS.2.2 dX9_codeOf_23
  · skip
    have f10 : z1.toInt ≠ 0 := b_neq rfl (by decide) c4
    refine lv_iload_n hx hb dX9_codeOf_7 rfl (lv_at hl 0 rfl) ?_
    refine lv_bipush (v := 48) hx hb dX9_codeOf_8 (by decide) ?_
    refine lv_isub hx hb dX9_codeOf_10 ?_
    have r11 := i_full p0
    refine lv_topi (fun z12 ez12 => ?_)
    have hz12 : Imp (-2147483648 ≤ p0.toInt - 48 ∧ p0.toInt - 48 ≤ 2147483647) (z12.toInt = p0.toInt - 48) := Imp.mk (fun hp => i_sub ez12 rfl (by decide) hp)
    refine lv_bipush (v := 27) hx hb dX9_codeOf_11 (by decide) ?_
    refine lv_iadd hx hb dX9_codeOf_13 ?_
    have r13 := i_full z12
    refine lv_topi (fun z14 ez14 => ?_)
    have hz14 : Imp (-2147483648 ≤ z12.toInt + 27 ∧ z12.toInt + 27 ≤ 2147483647) (z14.toInt = z12.toInt + 27) := Imp.mk (fun hp => i_add ez14 rfl (by decide) hp)
    refine lv_goto (tgt := 23) hx hb dX9_codeOf_14 (by decide) ?_
    exact W.iret (v := z14) hx hb hr (fun t ht hW => ⟨⟨z14, (), rfl, trivial, by rw [ht]; exact hP, va_K.moved hW.alike hK, hD⟩, hS.F ht⟩) hS.2.2 dX9_codeOf_23
abbrev r_x_kindOf : Room := { frames := 0, cells := 0, slots := 0, locals := 0 }
abbrev q_x_kindOf (D : va_G) (ks : KS) (ad : Nat → Nat) (kk : Nat → ClassId) (V : Vf) (L : Lf) (Z : XZ) (p0 : Int64) (A : Nat → Prop) : Array Value → State → Outcome → State → Prop := va_Qi (fun (r : Int32) (_ : Unit) => True) (fun _ t => gq D A (xw ad kk V L Z) (xty kk Z) t) A
set_option maxHeartbeats 4000000 in
set_option maxRecDepth 100000 in
theorem x_kindOf (l : Launch) (D : va_G) (ks : KS) (sz : Nat) (ad : Nat → Nat) (kk : Nat → ClassId) (V : Vf) (L : Lf) (Z : XZ) (p0 : Int64) (hMV : rgd bX V)  : Met l yX9_kindOf (Cond.code yX9_kindOf cX9_kindOf 4 (some .int) :: GW) r_x_kindOf (va_Pc [.ref (ad 6), .long p0] (gp D ks (xw ad kk V L Z) (xty kk Z) sz)) (q_x_kindOf D ks ad kk V L Z p0 (va_A (xw ad kk V L Z) sz)) 0 0 (va_A (xw ad kk V L Z) sz) := by
  refine g_met (q_x_kindOf D ks ad kk V L Z p0) (by decide) (Nat.le_of_ble_eq_true rfl) ?_
  intro p e s m below meth c A ls H locs hx hb hr hml hown hg hlocks hin hnw hgk hP hK hD hS hA hl
  have hown : s.vm.findClass RX9 = some m.cls := hown
  have hl : lv_has ls 4 [(0, .ref (ad 6)), (1, .long p0)] := hl
  have hP : va_P D vwCl (xw ad kk V L Z) H := hP
  have hD : va_D A (xw ad kk V L Z) := hD
  have hK : va_K D vwCl (xty kk Z) s := hK
  refine lv_iconst (v := 0) hx hb dX9_kindOf_0 (by decide) ?_
  refine lv_istore_n (lv' := [(3, .int 0), (0, .ref (ad 6)), (1, .long p0)]) hx hb dX9_kindOf_1 rfl hl (by decide) rfl (fun ls hl => ?_)
  have lp2 : ∀ (fulp2 : Nat) (y1 : Int32) (H : Heap) (locs : List Loc) (ls : Array Slot), 0 ≤ y1.toInt ∧ y1.toInt ≤ 28 → 28 - y1.toInt < (fulp2 : Int) → va_P D vwCl (xw ad kk V L Z) H → va_D A (xw ad kk V L Z) → va_S A s.heap H locs → lv_has ls 4 [(3, .int y1), (0, .ref (ad 6)), (1, .long p0)] → W p l e r_x_kindOf s m ([.ref (ad 6), .long p0] : List Value).toArray below meth c H locs 0 0 (MQ below (q_x_kindOf D ks ad kk V L Z p0 A) ([.ref (ad 6), .long p0] : List Value).toArray s 0 0 A) (F0 m 2 ls []) := by
    intro fulp2
    induction fulp2 with
    | zero =>
      intro y1 H locs ls klp2_0 hn  hP hD hS hl
      exfalso; (first | exact om_8009d6250780 klp2_0.2 hn | omega)
    | succ fulp2 ihlp2 =>
      intro y1 H locs ls klp2_0 hn  hP hD hS hl
      refine lv_iload_n hx hb dX9_kindOf_2 rfl (lv_at hl 0 rfl) ?_
      refine lv_bipush (v := 28) hx hb dX9_kindOf_3 (by decide) ?_
      refine lv_icmp_ge (tgt := 31) hx hb dX9_kindOf_5 (by decide) (fun c3 => ?_) (fun c3 => ?_)
      · skip
        have f4 : 28 ≤ y1.toInt := b_le (by decide) rfl c3
        refine lv_iconst (v := 3) hx hb dX9_kindOf_31 (by decide) ?_
        exact W.iret (v := 3) hx hb hr (fun t ht hW => ⟨⟨3, (), rfl, trivial, by rw [ht]; exact hP, va_K.moved hW.alike hK, hD⟩, hS.F ht⟩) hS.2.2 dX9_kindOf_32
      · skip
        have f5 : y1.toInt < 28 := b_nle (by decide) rfl c3
        refine lv_aload_n hx hb dX9_kindOf_8 rfl (lv_at hl 1 rfl) ?_
        refine va_get (D := D) (ci := 9) (v := .ref (ad 8)) (fs := (xfTape ad V L Z)) (C := RX9) (T := TX9) (N := 12) hx hb hg inX9 hown hK hP 6 xgTape rfl 1 (by decide) (hg _ w253) (fun _ h9 => h9) rfl dX9_kindOf_9 ?_
        refine lv_iload_n hx hb dX9_kindOf_12 rfl (lv_at hl 0 rfl) ?_
        refine va_lald (D := D) (i := y1) hx hb hK hP 8 1 rfl rfl (i_in (a := y1.toInt) rfl (by (first | exact om_f6a89a6d9ec1 klp2_0.1 f5 | omega))) dX9_kindOf_13 ?_
        refine lv_topl (fun w6 ew6 => ?_)
        refine lv_lload_n hx hb dX9_kindOf_14 rfl (lv_at hl 2 rfl) ?_
        refine W.lcmp hx hb dX9_kindOf_15 ?_
        refine lv_topi (fun z7 ez7 => ?_)
        have hz7 : -1 ≤ z7.toInt ∧ z7.toInt ≤ 1 := lcmp_r ez7
        refine lv_if_ne (tgt := 25) hx hb dX9_kindOf_16 (by decide) (fun c8 => ?_) (fun c8 => ?_)
        · skip
          have f9 : z7.toInt ≠ 0 := b_neq rfl (by decide) c8
          obtain ⟨z10, ez10⟩ : ∃ y : Int32, y = y1 + 1 := ⟨_, rfl⟩
          have hz10 : z10.toInt = y1.toInt + 1 := i_add ez10 rfl (by decide) (by (first | exact om_5bde2511380b klp2_0.1 f5 | omega))
          refine lv_iinc (v := z10) (lv' := [(3, .int z10), (0, .ref (ad 6)), (1, .long p0)]) hx hb dX9_kindOf_25 hl (k := 0) rfl (by rw [ez10]; rfl) (by decide) rfl (fun ls hl => ?_)
          refine lv_goto (tgt := 2) hx hb dX9_kindOf_28 (by decide) ?_
          exact ihlp2 z10 H locs ls (by (first | exact om_e53fff2320c6 klp2_0.1 f5 hz10 | omega)) (by (first | exact om_e591ec508e02 hn hz10 | omega)) hP hD hS (lv_sub hl [0, 1, 2] rfl)
        · skip
          have f11 : z7.toInt = 0 := b_eq rfl (by decide) c8
          refine lv_sipush (v := 128) hx hb dX9_kindOf_19 (by decide) ?_
          refine lv_iload_n hx hb dX9_kindOf_22 rfl (lv_at hl 0 rfl) ?_
          refine lv_iadd hx hb dX9_kindOf_23 ?_
          refine lv_topi (fun z12 ez12 => ?_)
          have hz12 : z12.toInt = 128 + y1.toInt := i_add ez12 (by decide) rfl (by (first | exact om_e545d8213972 klp2_0.1 f5 | omega))
          exact W.iret (v := z12) hx hb hr (fun t ht hW => ⟨⟨z12, (), rfl, trivial, by rw [ht]; exact hP, va_K.moved hW.alike hK, hD⟩, hS.F ht⟩) hS.2.2 dX9_kindOf_24
  have r13 : Int32.toInt 0 = 0 := by decide
  exact lp2 ((28 - (Int32.toInt 0) + 1 : Int).toNat) 0 H locs ls (by decide) (by (first | exact om_8d46326cbfc1 | omega)) hP hD hS (lv_sub hl [0, 1, 2] rfl)
abbrev r_x_empty : Room := { frames := 0, cells := 0, slots := 0, locals := 0 }
abbrev q_x_empty (D : va_G) (ks : KS) (ad : Nat → Nat) (kk : Nat → ClassId) (V : Vf) (L : Lf) (Z : XZ) (A : Nat → Prop) : Array Value → State → Outcome → State → Prop := va_Qv (fun (u : Vf × Lf) => rgd bX u.1 ∧ agr [(6, 5)] [] V u.1 ∧ u.2 = L ∧ ((u.1 6 5).toInt = 0)) (fun u t => gq D A (xw ad kk u.1 u.2 Z) (xty kk Z) t) A
set_option maxHeartbeats 4000000 in
set_option maxRecDepth 100000 in
theorem x_empty (l : Launch) (D : va_G) (ks : KS) (sz : Nat) (ad : Nat → Nat) (kk : Nat → ClassId) (V : Vf) (L : Lf) (Z : XZ)  (hMV : rgd bX V)  : Met l yX9_empty (Cond.code yX9_empty cX9_empty 1 none :: GW) r_x_empty (va_Pc [.ref (ad 6)] (gp D ks (xw ad kk V L Z) (xty kk Z) sz)) (q_x_empty D ks ad kk V L Z  (va_A (xw ad kk V L Z) sz)) 0 0 (va_A (xw ad kk V L Z) sz) := by
  refine g_met (q_x_empty D ks ad kk V L Z) (by decide) (Nat.le_of_ble_eq_true rfl) ?_
  intro p e s m below meth c A ls H locs hx hb hr hml hown hg hlocks hin hnw hgk hP hK hD hS hA hl
  have hown : s.vm.findClass RX9 = some m.cls := hown
  have hl : lv_has ls 1 [(0, .ref (ad 6))] := hl
  have hP : va_P D vwCl (xw ad kk V L Z) H := hP
  have hD : va_D A (xw ad kk V L Z) := hD
  have hK : va_K D vwCl (xty kk Z) s := hK
  have agV : agr [(6, 5)] [] V V := agr.rf
  refine lv_aload_n hx hb dX9_empty_0 rfl (lv_at hl 0 rfl) ?_
  refine lv_iconst (v := 0) hx hb dX9_empty_1 (by decide) ?_
  refine va_put (D := D) (ci := 9) (v := .int 0) (ty := tyX9 5) (fs := (xfTape ad V L Z)) (C := RX9) (T := TX9) (N := 12) hx hb hg inX9 tyX9 tyX9_ok nmX9 hown hK hP hD hS 6 xgTape rfl 5 (by decide) (hg _ w258) (fun _ h9 => h9) rfl (tyX9_ok 5 (by decide)) rfl rfl (Nat.le_of_ble_eq_true rfl) dX9_empty_2 (fun H locs hP hD hS => ?_)
  obtain ⟨V1, hV1⟩ : ∃ z, z = up2 V 6 5 0 := ⟨_, rfl⟩
  have ew2 : (xw ad kk V L Z).set 6 ((ad 6), .inr (9, (xfTape ad V L Z).set 5 (.int 0))) = xw ad kk V1 L Z := by rw [hV1]; exact xw_ss (by decide) rfl (xb_si (by decide))
  have hP : va_P D vwCl (xw ad kk V1 L Z) H := by rw [← ew2]; exact hP
  have hD : va_D A (xw ad kk V1 L Z) := by rw [← ew2]; exact hD
  have hMV1 : rgd bX V1 := hMV.put hV1 (by decide)
  have agV1 : agr [(6, 5)] [] V V1 := agV.up hV1 rfl
  have pq3 : (V1 6 5).toInt = 0 := (congrArg Int32.toInt (up2_s hV1)).trans (by decide)
  exact W.vret hx hb hr (fun t ht hW => ⟨⟨(V1, L), rfl, ⟨hMV1, agV1, rfl, (show (V1 6 5).toInt = 0 from by (first | exact om_b66ba74381d5 pq3 | omega))⟩, by rw [ht]; exact hP, va_K.moved hW.alike hK, hD⟩, hS.F ht⟩) hS.2.2 dX9_empty_5
abbrev r_x_next : Room := { frames := 0, cells := 0, slots := 0, locals := 0 }
abbrev q_x_next (D : va_G) (ks : KS) (ad : Nat → Nat) (kk : Nat → ClassId) (V : Vf) (L : Lf) (Z : XZ) (A : Nat → Prop) : Array Value → State → Outcome → State → Prop := va_Qv (fun (u : Vf × Lf) => rgd bX u.1 ∧ agr [(6, 8), (6, 9), (6, 10)] [] V u.1 ∧ agL [6] L u.2) (fun u t => gq D A (xw ad kk u.1 u.2 Z) (xty kk Z) t) A
set_option maxHeartbeats 4000000 in
set_option maxRecDepth 100000 in
theorem x_next (l : Launch) (D : va_G) (ks : KS) (sz : Nat) (ad : Nat → Nat) (kk : Nat → ClassId) (V : Vf) (L : Lf) (Z : XZ)  (hMV : rgd bX V)  : Met l yX9_next (Cond.code yX9_next cX9_next 1 none :: GW) r_x_next (va_Pc [.ref (ad 6)] (gp D ks (xw ad kk V L Z) (xty kk Z) sz)) (q_x_next D ks ad kk V L Z  (va_A (xw ad kk V L Z) sz)) 0 0 (va_A (xw ad kk V L Z) sz) := by
  refine g_met (q_x_next D ks ad kk V L Z) (by decide) (Nat.le_of_ble_eq_true rfl) ?_
  intro p e s m below meth c A ls H locs hx hb hr hml hown hg hlocks hin hnw hgk hP hK hD hS hA hl
  have hown : s.vm.findClass RX9 = some m.cls := hown
  have hl : lv_has ls 1 [(0, .ref (ad 6))] := hl
  have hP : va_P D vwCl (xw ad kk V L Z) H := hP
  have hD : va_D A (xw ad kk V L Z) := hD
  have hK : va_K D vwCl (xty kk Z) s := hK
  have agV : agr [(6, 8), (6, 9), (6, 10)] [] V V := agr.rf
  have alL : agL [6] L L := agL.rf
  refine lv_aload_n hx hb dX9_next_0 rfl (lv_at hl 0 rfl) ?_
  refine lv_aload_n hx hb dX9_next_1 rfl (lv_at hl 0 rfl) ?_
  refine va_get (D := D) (ci := 9) (v := .ref (ad 9)) (fs := (xfTape ad V L Z)) (C := RX9) (T := TX9) (N := 12) hx hb hg inX9 hown hK hP 6 xgTape rfl 2 (by decide) (hg _ w254) (fun _ h9 => h9) rfl dX9_next_2 ?_
  refine lv_aload_n hx hb dX9_next_5 rfl (lv_at hl 0 rfl) ?_
  refine va_get (D := D) (ci := 9) (v := .int (V 6 8)) (fs := (xfTape ad V L Z)) (C := RX9) (T := TX9) (N := 12) hx hb hg inX9 hown hK hP 6 xgTape rfl 8 (by decide) (hg _ w261) (fun _ h9 => h9) rfl dX9_next_6 ?_
  have r1 : 0 ≤ ((V 6 8)).toInt ∧ ((V 6 8)).toInt ≤ 4000 := hMV 6 8
  refine va_iald (D := D) (i := (V 6 8)) hx hb hK hP 9 2 rfl rfl (i_in (a := ((V 6 8)).toInt) rfl (by (first | exact om_d7f25fda8b0e r1.1 r1.2 | omega))) dX9_next_9 ?_
  refine va_put (D := D) (ci := 9) (v := .int (V 12 (Int32.toNatClampNeg (V 6 8)))) (ty := tyX9 9) (fs := (xfTape ad V L Z)) (C := RX9) (T := TX9) (N := 12) hx hb hg inX9 tyX9 tyX9_ok nmX9 hown hK hP hD hS 6 xgTape rfl 9 (by decide) (hg _ w264) (fun _ h9 => h9) rfl (tyX9_ok 9 (by decide)) rfl rfl (Nat.le_of_ble_eq_true rfl) dX9_next_10 (fun H locs hP hD hS => ?_)
  obtain ⟨V2, hV2⟩ : ∃ z, z = up2 V 6 9 (V 12 (Int32.toNatClampNeg (V 6 8))) := ⟨_, rfl⟩
  have ew3 : (xw ad kk V L Z).set 6 ((ad 6), .inr (9, (xfTape ad V L Z).set 9 (.int (V 12 (Int32.toNatClampNeg (V 6 8)))))) = xw ad kk V2 L Z := by rw [hV2]; exact xw_ss (by decide) rfl (xb_si (by decide))
  have hP : va_P D vwCl (xw ad kk V2 L Z) H := by rw [← ew3]; exact hP
  have hD : va_D A (xw ad kk V2 L Z) := by rw [← ew3]; exact hD
  have hMV2 : rgd bX V2 := hMV.put hV2 (i_full _)
  have agV2 : agr [(6, 8), (6, 9), (6, 10)] [] V V2 := agV.up hV2 rfl
  refine lv_aload_n hx hb dX9_next_13 rfl (lv_at hl 0 rfl) ?_
  refine lv_aload_n hx hb dX9_next_14 rfl (lv_at hl 0 rfl) ?_
  refine va_get (D := D) (ci := 9) (v := .ref (ad 10)) (fs := (xfTape ad V2 L Z)) (C := RX9) (T := TX9) (N := 12) hx hb hg inX9 hown hK hP 6 xgTape rfl 3 (by decide) (hg _ w255) (fun _ h9 => h9) rfl dX9_next_15 ?_
  refine lv_aload_n hx hb dX9_next_18 rfl (lv_at hl 0 rfl) ?_
  refine va_get (D := D) (ci := 9) (v := .int (V2 6 8)) (fs := (xfTape ad V2 L Z)) (C := RX9) (T := TX9) (N := 12) hx hb hg inX9 hown hK hP 6 xgTape rfl 8 (by decide) (hg _ w261) (fun _ h9 => h9) rfl dX9_next_19 ?_
  refine g_top (v := (V 6 8)) (up2_k hV2 (by decide)) ?_
  refine va_iald (D := D) (i := (V 6 8)) hx hb hK hP 10 3 rfl rfl (i_in (a := ((V 6 8)).toInt) rfl (by (first | exact om_d7f25fda8b0e r1.1 r1.2 | omega))) dX9_next_22 ?_
  refine g_top (v := (V 13 (Int32.toNatClampNeg (V 6 8)))) (up2_o hV2 (by decide)) ?_
  have r4 : 0 ≤ ((V 13 (Int32.toNatClampNeg (V 6 8)))).toInt ∧ ((V 13 (Int32.toNatClampNeg (V 6 8)))).toInt ≤ 4000 := hMV 13 (Int32.toNatClampNeg (V 6 8))
  refine va_put (D := D) (ci := 9) (v := .int (V 13 (Int32.toNatClampNeg (V 6 8)))) (ty := tyX9 10) (fs := (xfTape ad V2 L Z)) (C := RX9) (T := TX9) (N := 12) hx hb hg inX9 tyX9 tyX9_ok nmX9 hown hK hP hD hS 6 xgTape rfl 10 (by decide) (hg _ w265) (fun _ h9 => h9) rfl (tyX9_ok 10 (by decide)) rfl rfl (Nat.le_of_ble_eq_true rfl) dX9_next_23 (fun H locs hP hD hS => ?_)
  obtain ⟨V5, hV5⟩ : ∃ z, z = up2 V2 6 10 (V 13 (Int32.toNatClampNeg (V 6 8))) := ⟨_, rfl⟩
  have ew6 : (xw ad kk V2 L Z).set 6 ((ad 6), .inr (9, (xfTape ad V2 L Z).set 10 (.int (V 13 (Int32.toNatClampNeg (V 6 8)))))) = xw ad kk V5 L Z := by rw [hV5]; exact xw_ss (by decide) rfl (xb_si (by decide))
  have hP : va_P D vwCl (xw ad kk V5 L Z) H := by rw [← ew6]; exact hP
  have hD : va_D A (xw ad kk V5 L Z) := by rw [← ew6]; exact hD
  have hMV5 : rgd bX V5 := hMV2.put hV5 (show 0 ≤ ((V 13 (Int32.toNatClampNeg (V 6 8)))).toInt ∧ ((V 13 (Int32.toNatClampNeg (V 6 8)))).toInt ≤ 4000 from by (first | exact om_1194ef72f15b r4.1 r4.2 | omega))
  have agV5 : agr [(6, 8), (6, 9), (6, 10)] [] V V5 := agV2.up hV5 rfl
  refine lv_aload_n hx hb dX9_next_26 rfl (lv_at hl 0 rfl) ?_
  refine lv_aload_n hx hb dX9_next_27 rfl (lv_at hl 0 rfl) ?_
  refine va_get (D := D) (ci := 9) (v := .ref (ad 11)) (fs := (xfTape ad V5 L Z)) (C := RX9) (T := TX9) (N := 12) hx hb hg inX9 hown hK hP 6 xgTape rfl 4 (by decide) (hg _ w256) (fun _ h9 => h9) rfl dX9_next_28 ?_
  refine lv_aload_n hx hb dX9_next_31 rfl (lv_at hl 0 rfl) ?_
  refine va_get (D := D) (ci := 9) (v := .int (V5 6 8)) (fs := (xfTape ad V5 L Z)) (C := RX9) (T := TX9) (N := 12) hx hb hg inX9 hown hK hP 6 xgTape rfl 8 (by decide) (hg _ w261) (fun _ h9 => h9) rfl dX9_next_32 ?_
  refine g_top (v := (V 6 8)) ((up2_k hV5 (by decide)).trans (up2_k hV2 (by decide))) ?_
  refine va_lald (D := D) (i := (V 6 8)) hx hb hK hP 11 4 rfl rfl (i_in (a := ((V 6 8)).toInt) rfl (by (first | exact om_d7f25fda8b0e r1.1 r1.2 | omega))) dX9_next_35 ?_
  refine lv_topl (fun w7 ew7 => ?_)
  refine va_put (D := D) (ci := 9) (v := .long w7) (ty := tyX9 11) (fs := (xfTape ad V5 L Z)) (C := RX9) (T := TX9) (N := 12) hx hb hg inX9 tyX9 tyX9_ok nmX9 hown hK hP hD hS 6 xgTape rfl 11 (by decide) (hg _ w268) (fun _ h9 => h9) rfl (tyX9_ok 11 (by decide)) rfl rfl (Nat.le_of_ble_eq_true rfl) dX9_next_36 (fun H locs hP hD hS => ?_)
  obtain ⟨L8, hL8⟩ : ∃ z, z = upL L 6 11 w7 := ⟨_, rfl⟩
  have ew9 : (xw ad kk V5 L Z).set 6 ((ad 6), .inr (9, (xfTape ad V5 L Z).set 11 (.long w7))) = xw ad kk V5 L8 Z := by rw [hL8]; exact xw_ss (by decide) rfl (fun j => xe_L (fun a => absurd a.1 (by decide)))
  have hP : va_P D vwCl (xw ad kk V5 L8 Z) H := by rw [← ew9]; exact hP
  have hD : va_D A (xw ad kk V5 L8 Z) := by rw [← ew9]; exact hD
  have alL8 : agL [6] L L8 := agL.up alL hL8 rfl
  refine lv_aload_n hx hb dX9_next_39 rfl (lv_at hl 0 rfl) ?_
  refine va_get (D := D) (ci := 9) (v := .int (V5 6 8)) (fs := (xfTape ad V5 L8 Z)) (C := RX9) (T := TX9) (N := 12) hx hb hg inX9 hown hK hP 6 xgTape rfl 8 (by decide) (hg _ w261) (fun _ h9 => h9) rfl dX9_next_40 ?_
  refine g_top (v := (V 6 8)) ((up2_k hV5 (by decide)).trans (up2_k hV2 (by decide))) ?_
  refine lv_aload_n hx hb dX9_next_43 rfl (lv_at hl 0 rfl) ?_
  refine va_get (D := D) (ci := 9) (v := .int (V5 6 7)) (fs := (xfTape ad V5 L8 Z)) (C := RX9) (T := TX9) (N := 12) hx hb hg inX9 hown hK hP 6 xgTape rfl 7 (by decide) (hg _ w260) (fun _ h9 => h9) rfl dX9_next_44 ?_
  refine g_top (v := (V 6 7)) ((up2_k hV5 (by decide)).trans (up2_k hV2 (by decide))) ?_
  have r10 : 0 ≤ ((V 6 7)).toInt ∧ ((V 6 7)).toInt ≤ 4000 := hMV 6 7
  refine lv_icmp_ge (tgt := 60) hx hb dX9_next_47 (by decide) (fun c11 => ?_) (fun c11 => ?_)
  · skip
    have f12 : ((V 6 7)).toInt ≤ ((V 6 8)).toInt := b_le rfl rfl c11
    exact W.vret hx hb hr (fun t ht hW => ⟨⟨(V5, L8), rfl, ⟨hMV5, agV5, alL8⟩, by rw [ht]; exact hP, va_K.moved hW.alike hK, hD⟩, hS.F ht⟩) hS.2.2 dX9_next_60
  · skip
    have f13 : ((V 6 8)).toInt < ((V 6 7)).toInt := b_nle rfl rfl c11
    refine lv_aload_n hx hb dX9_next_50 rfl (lv_at hl 0 rfl) ?_
    refine lv_dup hx hb dX9_next_51 rfl ?_
    refine va_get (D := D) (ci := 9) (v := .int (V5 6 8)) (fs := (xfTape ad V5 L8 Z)) (C := RX9) (T := TX9) (N := 12) hx hb hg inX9 hown hK hP 6 xgTape rfl 8 (by decide) (hg _ w261) (fun _ h9 => h9) rfl dX9_next_52 ?_
    refine g_top (v := (V 6 8)) ((up2_k hV5 (by decide)).trans (up2_k hV2 (by decide))) ?_
    refine lv_iconst (v := 1) hx hb dX9_next_55 (by decide) ?_
    refine lv_iadd hx hb dX9_next_56 ?_
    refine lv_topi (fun z14 ez14 => ?_)
    have hz14 : z14.toInt = ((V 6 8)).toInt + 1 := i_add ez14 rfl (by decide) (by (first | exact om_b8a2391ac875 r1.1 r10.2 f13 | omega))
    refine va_put (D := D) (ci := 9) (v := .int z14) (ty := tyX9 8) (fs := (xfTape ad V5 L8 Z)) (C := RX9) (T := TX9) (N := 12) hx hb hg inX9 tyX9 tyX9_ok nmX9 hown hK hP hD hS 6 xgTape rfl 8 (by decide) (hg _ w261) (fun _ h9 => h9) rfl (tyX9_ok 8 (by decide)) rfl rfl (Nat.le_of_ble_eq_true rfl) dX9_next_57 (fun H locs hP hD hS => ?_)
    obtain ⟨V15, hV15⟩ : ∃ z, z = up2 V5 6 8 z14 := ⟨_, rfl⟩
    have ew16 : (xw ad kk V5 L8 Z).set 6 ((ad 6), .inr (9, (xfTape ad V5 L8 Z).set 8 (.int z14))) = xw ad kk V15 L8 Z := by rw [hV15]; exact xw_ss (by decide) rfl (xb_si (by decide))
    have hP : va_P D vwCl (xw ad kk V15 L8 Z) H := by rw [← ew16]; exact hP
    have hD : va_D A (xw ad kk V15 L8 Z) := by rw [← ew16]; exact hD
    have hMV15 : rgd bX V15 := hMV5.put hV15 (show 0 ≤ z14.toInt ∧ z14.toInt ≤ 4000 from by (first | exact om_65a6d0bb414d r1.1 r10.2 f13 hz14 | omega))
    have agV15 : agr [(6, 8), (6, 9), (6, 10)] [] V V15 := agV5.up hV15 rfl
    exact W.vret hx hb hr (fun t ht hW => ⟨⟨(V15, L8), rfl, ⟨hMV15, agV15, alL8⟩, by rw [ht]; exact hP, va_K.moved hW.alike hK, hD⟩, hS.F ht⟩) hS.2.2 dX9_next_60
abbrev r_x_append : Room := { frames := 0, cells := 0, slots := 0, locals := 0 }
abbrev q_x_append (D : va_G) (ks : KS) (ad : Nat → Nat) (kk : Nat → ClassId) (V : Vf) (L : Lf) (Z : XZ) (p0 : Int64) (k0 : Nat) (A : Nat → Prop) : Array Value → State → Outcome → State → Prop := va_Qv (fun (u : Vf × Lf) => rgd bX u.1 ∧ agr [(6, 5)] [10] V u.1 ∧ u.2 = L ∧ ((u.1 6 5).toInt = ((apk 8 p0 k0 : Nat) : Int))) (fun u t => gq D A (xw ad kk u.1 u.2 Z) (xty kk Z) t) A
abbrev r_x_cutNumber : Room := { frames := 1, cells := 0, slots := 0, locals := 20 }
abbrev q_x_cutNumber (D : va_G) (ks : KS) (ad : Nat → Nat) (kk : Nat → ClassId) (V : Vf) (L : Lf) (Z : XZ) (A : Nat → Prop) : Array Value → State → Outcome → State → Prop := va_Qv (fun (u : Vf × Lf) => rgd bX u.1 ∧ agr [(6, 6)] [12, 14] V u.1 ∧ agL [14] L u.2 ∧ ((u.1 6 6).toInt ≤ (V 6 5).toInt) ∧ ((V 6 6).toInt ≤ (u.1 6 6).toInt)) (fun u t => gq D A (xw ad kk u.1 u.2 Z) (xty kk Z) t) A
set_option maxHeartbeats 4000000 in
set_option maxRecDepth 100000 in
theorem x_cutNumber (l : Launch) (D : va_G) (ks : KS) (sz : Nat) (ad : Nat → Nat) (kk : Nat → ClassId) (V : Vf) (L : Lf) (Z : XZ)  (hMV : rgd bX V) (y1 : (V 6 6).toInt ≤ (V 6 5).toInt) (y2 : (V 6 7).toInt < (V 6 6).toInt ∨ (V 6 7).toInt ≤ 3999)  : Met l yX9_cutNumber (Cond.code yX9_cutNumber cX9_cutNumber 4 none :: GW) r_x_cutNumber (va_Pc [.ref (ad 6)] (gp D ks (xw ad kk V L Z) (xty kk Z) sz)) (q_x_cutNumber D ks ad kk V L Z  (va_A (xw ad kk V L Z) sz)) 0 0 (va_A (xw ad kk V L Z) sz) := by
  refine g_met (q_x_cutNumber D ks ad kk V L Z) (by decide) (Nat.le_of_ble_eq_true rfl) ?_
  intro p e s m below meth c A ls H locs hx hb hr hml hown hg hlocks hin hnw hgk hP hK hD hS hA hl
  have hown : s.vm.findClass RX9 = some m.cls := hown
  have hl : lv_has ls 4 [(0, .ref (ad 6))] := hl
  have hP : va_P D vwCl (xw ad kk V L Z) H := hP
  have hD : va_D A (xw ad kk V L Z) := hD
  have hK : va_K D vwCl (xty kk Z) s := hK
  have agV : agr [(6, 6)] [12, 14] V V := agr.rf
  have alL : agL [14] L L := agL.rf
  have r1 : 0 ≤ ((V 6 5)).toInt ∧ ((V 6 5)).toInt ≤ 4000 := hMV 6 5
  have r2 : 0 ≤ ((V 6 6)).toInt ∧ ((V 6 6)).toInt ≤ 4000 := hMV 6 6
  have r3 : 0 ≤ ((V 6 7)).toInt ∧ ((V 6 7)).toInt ≤ 4000 := hMV 6 7
  refine lv_iconst (v := 0) hx hb dX9_cutNumber_0 (by decide) ?_
  refine lv_istore_n (lv' := [(1, .int 0), (0, .ref (ad 6))]) hx hb dX9_cutNumber_1 rfl hl (by decide) rfl (fun ls hl => ?_)
  refine lv_lconst (v := 0) hx hb dX9_cutNumber_2 (by decide) ?_
  refine lv_lstore_n (lv' := [(2, .long 0), (1, .int 0), (0, .ref (ad 6))]) hx hb dX9_cutNumber_3 rfl hl (by decide) rfl (fun ls hl => ?_)
  have lp7 : ∀ (fulp7 : Nat) (y4 : Int64) (y5 : Int32) (V6 : Vf) (H : Heap) (locs : List Loc) (ls : Array Slot), 0 ≤ y5.toInt ∧ y5.toInt ≤ 4000 → (V6 6 6).toInt ≤ (V6 6 5).toInt → (V 6 6).toInt + y5.toInt = (V6 6 6).toInt → (V6 6 5).toInt - (V6 6 6).toInt < (fulp7 : Int) → agr [(6, 6)] [] V V6 → rgd bX V6 → va_P D vwCl (xw ad kk V6 L Z) H → va_D A (xw ad kk V6 L Z) → va_S A s.heap H locs → lv_has ls 4 [(2, .long y4), (1, .int y5), (0, .ref (ad 6))] → W p l e r_x_cutNumber s m ([.ref (ad 6)] : List Value).toArray below meth c H locs 0 0 (MQ below (q_x_cutNumber D ks ad kk V L Z  A) ([.ref (ad 6)] : List Value).toArray s 0 0 A) (F0 m 4 ls []) := by
    intro fulp7
    induction fulp7 with
    | zero =>
      intro y4 y5 V6 H locs ls klp7_0 xlp7_0 xlp7_1 hn ajV6 hMV6 hP hD hS hl
      exfalso; (first | exact om_4634b1278845 xlp7_0 hn | omega)
    | succ fulp7 ihlp7 =>
      intro y4 y5 V6 H locs ls klp7_0 xlp7_0 xlp7_1 hn ajV6 hMV6 hP hD hS hl
      have agV6 : agr [(6, 6)] [12, 14] V V6 := agV.tr ajV6 (by decide) (by decide)
      have pq8 : (V6 6 5).toInt = ((V 6 5)).toInt := congrArg Int32.toInt (ajV6 6 5 rfl)
      have r9 : 0 ≤ ((V6 6 6)).toInt ∧ ((V6 6 6)).toInt ≤ 4000 := hMV6 6 6
      refine lv_aload_n hx hb dX9_cutNumber_4 rfl (lv_at hl 2 rfl) ?_
      refine va_get (D := D) (ci := 9) (v := .int (V6 6 6)) (fs := (xfTape ad V6 L Z)) (C := RX9) (T := TX9) (N := 12) hx hb hg inX9 hown hK hP 6 xgTape rfl 6 (by decide) (hg _ w259) (fun _ h9 => h9) rfl dX9_cutNumber_5 ?_
      refine lv_aload_n hx hb dX9_cutNumber_8 rfl (lv_at hl 2 rfl) ?_
      refine va_get (D := D) (ci := 9) (v := .int (V6 6 5)) (fs := (xfTape ad V6 L Z)) (C := RX9) (T := TX9) (N := 12) hx hb hg inX9 hown hK hP 6 xgTape rfl 5 (by decide) (hg _ w258) (fun _ h9 => h9) rfl dX9_cutNumber_9 ?_
      refine g_top (v := (V 6 5)) (ajV6 6 5 rfl) ?_
      refine lv_icmp_ge (tgt := 77) hx hb dX9_cutNumber_12 (by decide) (fun c10 => ?_) (fun c10 => ?_)
      · skip
        have f11 : ((V 6 5)).toInt ≤ ((V6 6 6)).toInt := b_le rfl rfl c10
        refine lv_aload_n hx hb dX9_cutNumber_77 rfl (lv_at hl 2 rfl) ?_
        refine va_get (D := D) (ci := 9) (v := .ref (ad 9)) (fs := (xfTape ad V6 L Z)) (C := RX9) (T := TX9) (N := 12) hx hb hg inX9 hown hK hP 6 xgTape rfl 2 (by decide) (hg _ w254) (fun _ h9 => h9) rfl dX9_cutNumber_78 ?_
        refine lv_aload_n hx hb dX9_cutNumber_81 rfl (lv_at hl 2 rfl) ?_
        refine va_get (D := D) (ci := 9) (v := .int (V6 6 7)) (fs := (xfTape ad V6 L Z)) (C := RX9) (T := TX9) (N := 12) hx hb hg inX9 hown hK hP 6 xgTape rfl 7 (by decide) (hg _ w260) (fun _ h9 => h9) rfl dX9_cutNumber_82 ?_
        refine g_top (v := (V 6 7)) (ajV6 6 7 rfl) ?_
        refine lv_iload_n hx hb dX9_cutNumber_85 rfl (lv_at hl 1 rfl) ?_
        refine lv_bipush (v := 9) hx hb dX9_cutNumber_86 (by decide) ?_
        refine lv_icmp_le (tgt := 95) hx hb dX9_cutNumber_88 (by decide) (fun c12 => ?_) (fun c12 => ?_)
        · skip
          have f13 : y5.toInt ≤ 9 := b_le rfl (by decide) c12
          refine lv_iconst (v := 2) hx hb dX9_cutNumber_95 (by decide) ?_
          refine va_iast (D := D) (i := (V 6 7)) (x := 2) hx hb hK hP hD hS 9 2 rfl rfl (i_in (a := ((V 6 7)).toInt) rfl (by (first | exact om_d7f25fda8b0e r3.1 r3.2 | omega))) dX9_cutNumber_96 (fun H locs hP hD hS => ?_)
          obtain ⟨V14, hV14⟩ : ∃ z, z = up2 V6 12 (Int32.toNatClampNeg (V 6 7)) 2 := ⟨_, rfl⟩
          have ew15 : (xw ad kk V6 L Z).set 9 ((ad 9), .inl ((kk 9), 4001, .inl (upd (V6 12) (Int32.toNatClampNeg (V 6 7)) 2))) = xw ad kk V14 L Z := by rw [hV14]; exact xw_ss (by decide) rfl (xb_si (by decide))
          have hP : va_P D vwCl (xw ad kk V14 L Z) H := by rw [← ew15]; exact hP
          have hD : va_D A (xw ad kk V14 L Z) := by rw [← ew15]; exact hD
          have hMV14 : rgd bX V14 := hMV6.put hV14 (i_full _)
          have agV14 : agr [(6, 6)] [12, 14] V V14 := agV6.up hV14 rfl
          refine lv_aload_n hx hb dX9_cutNumber_97 rfl (lv_at hl 2 rfl) ?_
          refine va_get (D := D) (ci := 9) (v := .ref (ad 11)) (fs := (xfTape ad V14 L Z)) (C := RX9) (T := TX9) (N := 12) hx hb hg inX9 hown hK hP 6 xgTape rfl 4 (by decide) (hg _ w256) (fun _ h9 => h9) rfl dX9_cutNumber_98 ?_
          refine lv_aload_n hx hb dX9_cutNumber_101 rfl (lv_at hl 2 rfl) ?_
          refine va_get (D := D) (ci := 9) (v := .int (V14 6 7)) (fs := (xfTape ad V14 L Z)) (C := RX9) (T := TX9) (N := 12) hx hb hg inX9 hown hK hP 6 xgTape rfl 7 (by decide) (hg _ w260) (fun _ h9 => h9) rfl dX9_cutNumber_102 ?_
          refine g_top (v := (V 6 7)) ((up2_o hV14 (by decide)).trans (ajV6 6 7 rfl)) ?_
          refine lv_lload_n hx hb dX9_cutNumber_105 rfl (lv_at hl 0 rfl) ?_
          refine va_last (D := D) (i := (V 6 7)) (x := y4) hx hb hK hP hD hS 11 4 rfl rfl (i_in (a := ((V 6 7)).toInt) rfl (by (first | exact om_d7f25fda8b0e r3.1 r3.2 | omega))) dX9_cutNumber_106 (fun H locs hP hD hS => ?_)
          obtain ⟨L16, hL16⟩ : ∃ z, z = upL L 14 (Int32.toNatClampNeg (V 6 7)) y4 := ⟨_, rfl⟩
          have ew17 : (xw ad kk V14 L Z).set 11 ((ad 11), .inl ((kk 11), 4001, .inr (.inl (vp_updL (L 14) (Int32.toNatClampNeg (V 6 7)) y4)))) = xw ad kk V14 L16 Z := by rw [hL16]; exact xw_ss (by decide) rfl (fun j => xe_L (fun a => absurd a.1 (by decide)))
          have hP : va_P D vwCl (xw ad kk V14 L16 Z) H := by rw [← ew17]; exact hP
          have hD : va_D A (xw ad kk V14 L16 Z) := by rw [← ew17]; exact hD
          have alL16 : agL [14] L L16 := agL.up alL hL16 rfl
          have pq18 : (V14 6 6).toInt = ((V6 6 6)).toInt := congrArg Int32.toInt (up2_o hV14 (by decide))
          have pq19 : (V14 6 5).toInt = ((V 6 5)).toInt := congrArg Int32.toInt ((up2_o hV14 (by decide)).trans (ajV6 6 5 rfl))
          exact W.vret hx hb hr (fun t ht hW => ⟨⟨(V14, L16), rfl, ⟨hMV14, agV14, alL16, (show (V14 6 6).toInt ≤ (V 6 5).toInt from by (first | exact om_35d7f5d544b6 xlp7_0 pq8 pq18 | omega)), (show (V 6 6).toInt ≤ (V14 6 6).toInt from by (first | exact om_f7ad29eb57d9 klp7_0.1 xlp7_1 pq18 | omega))⟩, by rw [ht]; exact hP, va_K.moved hW.alike hK, hD⟩, hS.F ht⟩) hS.2.2 dX9_cutNumber_107
        · skip
          have f20 : 9 < y5.toInt := b_nle rfl (by decide) c12
          refine lv_iconst (v := 1) hx hb dX9_cutNumber_91 (by decide) ?_
          refine lv_goto (tgt := 96) hx hb dX9_cutNumber_92 (by decide) ?_
          refine va_iast (D := D) (i := (V 6 7)) (x := 1) hx hb hK hP hD hS 9 2 rfl rfl (i_in (a := ((V 6 7)).toInt) rfl (by (first | exact om_d7f25fda8b0e r3.1 r3.2 | omega))) dX9_cutNumber_96 (fun H locs hP hD hS => ?_)
          obtain ⟨V21, hV21⟩ : ∃ z, z = up2 V6 12 (Int32.toNatClampNeg (V 6 7)) 1 := ⟨_, rfl⟩
          have ew22 : (xw ad kk V6 L Z).set 9 ((ad 9), .inl ((kk 9), 4001, .inl (upd (V6 12) (Int32.toNatClampNeg (V 6 7)) 1))) = xw ad kk V21 L Z := by rw [hV21]; exact xw_ss (by decide) rfl (xb_si (by decide))
          have hP : va_P D vwCl (xw ad kk V21 L Z) H := by rw [← ew22]; exact hP
          have hD : va_D A (xw ad kk V21 L Z) := by rw [← ew22]; exact hD
          have hMV21 : rgd bX V21 := hMV6.put hV21 (i_full _)
          have agV21 : agr [(6, 6)] [12, 14] V V21 := agV6.up hV21 rfl
          refine lv_aload_n hx hb dX9_cutNumber_97 rfl (lv_at hl 2 rfl) ?_
          refine va_get (D := D) (ci := 9) (v := .ref (ad 11)) (fs := (xfTape ad V21 L Z)) (C := RX9) (T := TX9) (N := 12) hx hb hg inX9 hown hK hP 6 xgTape rfl 4 (by decide) (hg _ w256) (fun _ h9 => h9) rfl dX9_cutNumber_98 ?_
          refine lv_aload_n hx hb dX9_cutNumber_101 rfl (lv_at hl 2 rfl) ?_
          refine va_get (D := D) (ci := 9) (v := .int (V21 6 7)) (fs := (xfTape ad V21 L Z)) (C := RX9) (T := TX9) (N := 12) hx hb hg inX9 hown hK hP 6 xgTape rfl 7 (by decide) (hg _ w260) (fun _ h9 => h9) rfl dX9_cutNumber_102 ?_
          refine g_top (v := (V 6 7)) ((up2_o hV21 (by decide)).trans (ajV6 6 7 rfl)) ?_
          refine lv_lload_n hx hb dX9_cutNumber_105 rfl (lv_at hl 0 rfl) ?_
          refine va_last (D := D) (i := (V 6 7)) (x := y4) hx hb hK hP hD hS 11 4 rfl rfl (i_in (a := ((V 6 7)).toInt) rfl (by (first | exact om_d7f25fda8b0e r3.1 r3.2 | omega))) dX9_cutNumber_106 (fun H locs hP hD hS => ?_)
          obtain ⟨L23, hL23⟩ : ∃ z, z = upL L 14 (Int32.toNatClampNeg (V 6 7)) y4 := ⟨_, rfl⟩
          have ew24 : (xw ad kk V21 L Z).set 11 ((ad 11), .inl ((kk 11), 4001, .inr (.inl (vp_updL (L 14) (Int32.toNatClampNeg (V 6 7)) y4)))) = xw ad kk V21 L23 Z := by rw [hL23]; exact xw_ss (by decide) rfl (fun j => xe_L (fun a => absurd a.1 (by decide)))
          have hP : va_P D vwCl (xw ad kk V21 L23 Z) H := by rw [← ew24]; exact hP
          have hD : va_D A (xw ad kk V21 L23 Z) := by rw [← ew24]; exact hD
          have alL23 : agL [14] L L23 := agL.up alL hL23 rfl
          have pq25 : (V21 6 6).toInt = ((V6 6 6)).toInt := congrArg Int32.toInt (up2_o hV21 (by decide))
          have pq26 : (V21 6 5).toInt = ((V 6 5)).toInt := congrArg Int32.toInt ((up2_o hV21 (by decide)).trans (ajV6 6 5 rfl))
          exact W.vret hx hb hr (fun t ht hW => ⟨⟨(V21, L23), rfl, ⟨hMV21, agV21, alL23, (show (V21 6 6).toInt ≤ (V 6 5).toInt from by (first | exact om_35d7f5d544b6 xlp7_0 pq8 pq25 | omega)), (show (V 6 6).toInt ≤ (V21 6 6).toInt from by (first | exact om_8201745062d7 xlp7_1 f20 pq25 | omega))⟩, by rw [ht]; exact hP, va_K.moved hW.alike hK, hD⟩, hS.F ht⟩) hS.2.2 dX9_cutNumber_107
      · skip
        have f27 : ((V6 6 6)).toInt < ((V 6 5)).toInt := b_nle rfl rfl c10
        refine lv_aload_n hx hb dX9_cutNumber_15 rfl (lv_at hl 2 rfl) ?_
        refine va_get (D := D) (ci := 9) (v := .ref (ad 7)) (fs := (xfTape ad V6 L Z)) (C := RX9) (T := TX9) (N := 12) hx hb hg inX9 hown hK hP 6 xgTape rfl 0 (by decide) (hg _ w252) (fun _ h9 => h9) rfl dX9_cutNumber_16 ?_
        refine lv_aload_n hx hb dX9_cutNumber_19 rfl (lv_at hl 2 rfl) ?_
        refine va_get (D := D) (ci := 9) (v := .int (V6 6 6)) (fs := (xfTape ad V6 L Z)) (C := RX9) (T := TX9) (N := 12) hx hb hg inX9 hown hK hP 6 xgTape rfl 6 (by decide) (hg _ w259) (fun _ h9 => h9) rfl dX9_cutNumber_20 ?_
        refine va_bald (D := D) (i := (V6 6 6)) hx hb hK hP 7 0 rfl rfl (i_in (a := ((V6 6 6)).toInt) rfl (by (first | exact om_fe2d53c3c384 r1.2 r2.1 klp7_0.1 xlp7_1 f27 | omega))) dX9_cutNumber_23 ?_
        refine g_top (v := (V 10 (Int32.toNatClampNeg (V6 6 6)))) (ajV6 10 (Int32.toNatClampNeg (V6 6 6)) rfl) ?_
        refine gE_int (g_runS (As := [.int (V 10 (Int32.toNatClampNeg (V6 6 6)))]) (rest := []) (wc := []) (tc := []) hx hb hml hown hg gw_self hP hD hK hS hA hnw hgk [] [] (by decide) rfl rfl (x_isDigit l D ks H.size (V 10 (Int32.toNatClampNeg (V6 6 6))) ) w249 w250 w157 w251 hdS_yX9_isDigit ⟨Nat.le_of_ble_eq_true rfl, Nat.le_of_ble_eq_true rfl⟩ rfl hl.1 rfl (Nat.le_of_ble_eq_true rfl) dX9_cutNumber_24 ⟨Nat.le_of_ble_eq_true rfl, Nat.le_of_ble_eq_true rfl⟩) hP hD hK hS hA (fun z28 u29 H locs w30 hP hD hK hS => ?_)
        have rgz28 := w30
        have rgz28 : 0 ≤ z28.toInt ∧ z28.toInt ≤ 1 := rgz28
        refine lv_if_eq (tgt := 77) hx hb dX9_cutNumber_27 (by decide) (fun c31 => ?_) (fun c31 => ?_)
        · skip
          have f32 : z28.toInt = 0 := b_eq rfl (by decide) c31
          refine lv_aload_n hx hb dX9_cutNumber_77 rfl (lv_at hl 2 rfl) ?_
          refine va_get (D := D) (ci := 9) (v := .ref (ad 9)) (fs := (xfTape ad V6 L Z)) (C := RX9) (T := TX9) (N := 12) hx hb hg inX9 hown hK hP 6 xgTape rfl 2 (by decide) (hg _ w254) (fun _ h9 => h9) rfl dX9_cutNumber_78 ?_
          refine lv_aload_n hx hb dX9_cutNumber_81 rfl (lv_at hl 2 rfl) ?_
          refine va_get (D := D) (ci := 9) (v := .int (V6 6 7)) (fs := (xfTape ad V6 L Z)) (C := RX9) (T := TX9) (N := 12) hx hb hg inX9 hown hK hP 6 xgTape rfl 7 (by decide) (hg _ w260) (fun _ h9 => h9) rfl dX9_cutNumber_82 ?_
          refine g_top (v := (V 6 7)) (ajV6 6 7 rfl) ?_
          refine lv_iload_n hx hb dX9_cutNumber_85 rfl (lv_at hl 1 rfl) ?_
          refine lv_bipush (v := 9) hx hb dX9_cutNumber_86 (by decide) ?_
          refine lv_icmp_le (tgt := 95) hx hb dX9_cutNumber_88 (by decide) (fun c33 => ?_) (fun c33 => ?_)
          · skip
            have f34 : y5.toInt ≤ 9 := b_le rfl (by decide) c33
            refine lv_iconst (v := 2) hx hb dX9_cutNumber_95 (by decide) ?_
            refine va_iast (D := D) (i := (V 6 7)) (x := 2) hx hb hK hP hD hS 9 2 rfl rfl (i_in (a := ((V 6 7)).toInt) rfl (by (first | exact om_d7f25fda8b0e r3.1 r3.2 | omega))) dX9_cutNumber_96 (fun H locs hP hD hS => ?_)
            obtain ⟨V35, hV35⟩ : ∃ z, z = up2 V6 12 (Int32.toNatClampNeg (V 6 7)) 2 := ⟨_, rfl⟩
            have ew36 : (xw ad kk V6 L Z).set 9 ((ad 9), .inl ((kk 9), 4001, .inl (upd (V6 12) (Int32.toNatClampNeg (V 6 7)) 2))) = xw ad kk V35 L Z := by rw [hV35]; exact xw_ss (by decide) rfl (xb_si (by decide))
            have hP : va_P D vwCl (xw ad kk V35 L Z) H := by rw [← ew36]; exact hP
            have hD : va_D A (xw ad kk V35 L Z) := by rw [← ew36]; exact hD
            have hMV35 : rgd bX V35 := hMV6.put hV35 (i_full _)
            have agV35 : agr [(6, 6)] [12, 14] V V35 := agV6.up hV35 rfl
            refine lv_aload_n hx hb dX9_cutNumber_97 rfl (lv_at hl 2 rfl) ?_
            refine va_get (D := D) (ci := 9) (v := .ref (ad 11)) (fs := (xfTape ad V35 L Z)) (C := RX9) (T := TX9) (N := 12) hx hb hg inX9 hown hK hP 6 xgTape rfl 4 (by decide) (hg _ w256) (fun _ h9 => h9) rfl dX9_cutNumber_98 ?_
            refine lv_aload_n hx hb dX9_cutNumber_101 rfl (lv_at hl 2 rfl) ?_
            refine va_get (D := D) (ci := 9) (v := .int (V35 6 7)) (fs := (xfTape ad V35 L Z)) (C := RX9) (T := TX9) (N := 12) hx hb hg inX9 hown hK hP 6 xgTape rfl 7 (by decide) (hg _ w260) (fun _ h9 => h9) rfl dX9_cutNumber_102 ?_
            refine g_top (v := (V 6 7)) ((up2_o hV35 (by decide)).trans (ajV6 6 7 rfl)) ?_
            refine lv_lload_n hx hb dX9_cutNumber_105 rfl (lv_at hl 0 rfl) ?_
            refine va_last (D := D) (i := (V 6 7)) (x := y4) hx hb hK hP hD hS 11 4 rfl rfl (i_in (a := ((V 6 7)).toInt) rfl (by (first | exact om_d7f25fda8b0e r3.1 r3.2 | omega))) dX9_cutNumber_106 (fun H locs hP hD hS => ?_)
            obtain ⟨L37, hL37⟩ : ∃ z, z = upL L 14 (Int32.toNatClampNeg (V 6 7)) y4 := ⟨_, rfl⟩
            have ew38 : (xw ad kk V35 L Z).set 11 ((ad 11), .inl ((kk 11), 4001, .inr (.inl (vp_updL (L 14) (Int32.toNatClampNeg (V 6 7)) y4)))) = xw ad kk V35 L37 Z := by rw [hL37]; exact xw_ss (by decide) rfl (fun j => xe_L (fun a => absurd a.1 (by decide)))
            have hP : va_P D vwCl (xw ad kk V35 L37 Z) H := by rw [← ew38]; exact hP
            have hD : va_D A (xw ad kk V35 L37 Z) := by rw [← ew38]; exact hD
            have alL37 : agL [14] L L37 := agL.up alL hL37 rfl
            have pq39 : (V35 6 6).toInt = ((V6 6 6)).toInt := congrArg Int32.toInt (up2_o hV35 (by decide))
            have pq40 : (V35 6 5).toInt = ((V 6 5)).toInt := congrArg Int32.toInt ((up2_o hV35 (by decide)).trans (ajV6 6 5 rfl))
            exact W.vret hx hb hr (fun t ht hW => ⟨⟨(V35, L37), rfl, ⟨hMV35, agV35, alL37, (show (V35 6 6).toInt ≤ (V 6 5).toInt from by (first | exact om_8bafb22e6d91 f27 pq39 | omega)), (show (V 6 6).toInt ≤ (V35 6 6).toInt from by (first | exact om_f7ad29eb57d9 klp7_0.1 xlp7_1 pq39 | omega))⟩, by rw [ht]; exact hP, va_K.moved hW.alike hK, hD⟩, hS.F ht⟩) hS.2.2 dX9_cutNumber_107
          · skip
            have f41 : 9 < y5.toInt := b_nle rfl (by decide) c33
            refine lv_iconst (v := 1) hx hb dX9_cutNumber_91 (by decide) ?_
            refine lv_goto (tgt := 96) hx hb dX9_cutNumber_92 (by decide) ?_
            refine va_iast (D := D) (i := (V 6 7)) (x := 1) hx hb hK hP hD hS 9 2 rfl rfl (i_in (a := ((V 6 7)).toInt) rfl (by (first | exact om_d7f25fda8b0e r3.1 r3.2 | omega))) dX9_cutNumber_96 (fun H locs hP hD hS => ?_)
            obtain ⟨V42, hV42⟩ : ∃ z, z = up2 V6 12 (Int32.toNatClampNeg (V 6 7)) 1 := ⟨_, rfl⟩
            have ew43 : (xw ad kk V6 L Z).set 9 ((ad 9), .inl ((kk 9), 4001, .inl (upd (V6 12) (Int32.toNatClampNeg (V 6 7)) 1))) = xw ad kk V42 L Z := by rw [hV42]; exact xw_ss (by decide) rfl (xb_si (by decide))
            have hP : va_P D vwCl (xw ad kk V42 L Z) H := by rw [← ew43]; exact hP
            have hD : va_D A (xw ad kk V42 L Z) := by rw [← ew43]; exact hD
            have hMV42 : rgd bX V42 := hMV6.put hV42 (i_full _)
            have agV42 : agr [(6, 6)] [12, 14] V V42 := agV6.up hV42 rfl
            refine lv_aload_n hx hb dX9_cutNumber_97 rfl (lv_at hl 2 rfl) ?_
            refine va_get (D := D) (ci := 9) (v := .ref (ad 11)) (fs := (xfTape ad V42 L Z)) (C := RX9) (T := TX9) (N := 12) hx hb hg inX9 hown hK hP 6 xgTape rfl 4 (by decide) (hg _ w256) (fun _ h9 => h9) rfl dX9_cutNumber_98 ?_
            refine lv_aload_n hx hb dX9_cutNumber_101 rfl (lv_at hl 2 rfl) ?_
            refine va_get (D := D) (ci := 9) (v := .int (V42 6 7)) (fs := (xfTape ad V42 L Z)) (C := RX9) (T := TX9) (N := 12) hx hb hg inX9 hown hK hP 6 xgTape rfl 7 (by decide) (hg _ w260) (fun _ h9 => h9) rfl dX9_cutNumber_102 ?_
            refine g_top (v := (V 6 7)) ((up2_o hV42 (by decide)).trans (ajV6 6 7 rfl)) ?_
            refine lv_lload_n hx hb dX9_cutNumber_105 rfl (lv_at hl 0 rfl) ?_
            refine va_last (D := D) (i := (V 6 7)) (x := y4) hx hb hK hP hD hS 11 4 rfl rfl (i_in (a := ((V 6 7)).toInt) rfl (by (first | exact om_d7f25fda8b0e r3.1 r3.2 | omega))) dX9_cutNumber_106 (fun H locs hP hD hS => ?_)
            obtain ⟨L44, hL44⟩ : ∃ z, z = upL L 14 (Int32.toNatClampNeg (V 6 7)) y4 := ⟨_, rfl⟩
            have ew45 : (xw ad kk V42 L Z).set 11 ((ad 11), .inl ((kk 11), 4001, .inr (.inl (vp_updL (L 14) (Int32.toNatClampNeg (V 6 7)) y4)))) = xw ad kk V42 L44 Z := by rw [hL44]; exact xw_ss (by decide) rfl (fun j => xe_L (fun a => absurd a.1 (by decide)))
            have hP : va_P D vwCl (xw ad kk V42 L44 Z) H := by rw [← ew45]; exact hP
            have hD : va_D A (xw ad kk V42 L44 Z) := by rw [← ew45]; exact hD
            have alL44 : agL [14] L L44 := agL.up alL hL44 rfl
            have pq46 : (V42 6 6).toInt = ((V6 6 6)).toInt := congrArg Int32.toInt (up2_o hV42 (by decide))
            have pq47 : (V42 6 5).toInt = ((V 6 5)).toInt := congrArg Int32.toInt ((up2_o hV42 (by decide)).trans (ajV6 6 5 rfl))
            exact W.vret hx hb hr (fun t ht hW => ⟨⟨(V42, L44), rfl, ⟨hMV42, agV42, alL44, (show (V42 6 6).toInt ≤ (V 6 5).toInt from by (first | exact om_8bafb22e6d91 f27 pq46 | omega)), (show (V 6 6).toInt ≤ (V42 6 6).toInt from by (first | exact om_8201745062d7 xlp7_1 f41 pq46 | omega))⟩, by rw [ht]; exact hP, va_K.moved hW.alike hK, hD⟩, hS.F ht⟩) hS.2.2 dX9_cutNumber_107
        · skip
          have f48 : z28.toInt ≠ 0 := b_neq rfl (by decide) c31
          refine lv_iload_n hx hb dX9_cutNumber_30 rfl (lv_at hl 1 rfl) ?_
          refine lv_bipush (v := 9) hx hb dX9_cutNumber_31 (by decide) ?_
          refine lv_icmp_ge (tgt := 59) hx hb dX9_cutNumber_33 (by decide) (fun c49 => ?_) (fun c49 => ?_)
          · skip
            have f50 : 9 ≤ y5.toInt := b_le (by decide) rfl c49
            refine lv_lconst (v := 0) hx hb dX9_cutNumber_59 (by decide) ?_
            refine lv_lstore_n (lv' := [(2, .long 0), (1, .int y5), (0, .ref (ad 6))]) hx hb dX9_cutNumber_60 rfl hl (by decide) rfl (fun ls hl => ?_)
            obtain ⟨z51, ez51⟩ : ∃ y : Int32, y = y5 + 1 := ⟨_, rfl⟩
            have hz51 : z51.toInt = y5.toInt + 1 := i_add ez51 rfl (by decide) (by (first | exact om_2bd216318aa2 r1.2 r2.1 xlp7_1 f27 f50 | omega))
            refine lv_iinc (v := z51) (lv' := [(1, .int z51), (2, .long 0), (0, .ref (ad 6))]) hx hb dX9_cutNumber_61 hl (k := 1) rfl (by rw [ez51]; rfl) (by decide) rfl (fun ls hl => ?_)
            refine lv_aload_n hx hb dX9_cutNumber_64 rfl (lv_at hl 2 rfl) ?_
            refine lv_dup hx hb dX9_cutNumber_65 rfl ?_
            refine va_get (D := D) (ci := 9) (v := .int (V6 6 6)) (fs := (xfTape ad V6 L Z)) (C := RX9) (T := TX9) (N := 12) hx hb hg inX9 hown hK hP 6 xgTape rfl 6 (by decide) (hg _ w259) (fun _ h9 => h9) rfl dX9_cutNumber_66 ?_
            refine lv_iconst (v := 1) hx hb dX9_cutNumber_69 (by decide) ?_
            refine lv_iadd hx hb dX9_cutNumber_70 ?_
            refine lv_topi (fun z52 ez52 => ?_)
            have hz52 : z52.toInt = ((V6 6 6)).toInt + 1 := i_add ez52 rfl (by decide) (by (first | exact om_0af9c8bac061 r1.2 r2.1 xlp7_1 f27 f50 | omega))
            refine va_put (D := D) (ci := 9) (v := .int z52) (ty := tyX9 6) (fs := (xfTape ad V6 L Z)) (C := RX9) (T := TX9) (N := 12) hx hb hg inX9 tyX9 tyX9_ok nmX9 hown hK hP hD hS 6 xgTape rfl 6 (by decide) (hg _ w259) (fun _ h9 => h9) rfl (tyX9_ok 6 (by decide)) rfl rfl (Nat.le_of_ble_eq_true rfl) dX9_cutNumber_71 (fun H locs hP hD hS => ?_)
            obtain ⟨V53, hV53⟩ : ∃ z, z = up2 V6 6 6 z52 := ⟨_, rfl⟩
            have ew54 : (xw ad kk V6 L Z).set 6 ((ad 6), .inr (9, (xfTape ad V6 L Z).set 6 (.int z52))) = xw ad kk V53 L Z := by rw [hV53]; exact xw_ss (by decide) rfl (xb_si (by decide))
            have hP : va_P D vwCl (xw ad kk V53 L Z) H := by rw [← ew54]; exact hP
            have hD : va_D A (xw ad kk V53 L Z) := by rw [← ew54]; exact hD
            have hMV53 : rgd bX V53 := hMV6.put hV53 (show 0 ≤ z52.toInt ∧ z52.toInt ≤ 4000 from by (first | exact om_5132599afa3b r1.2 r2.1 xlp7_1 f27 f50 hz52 | omega))
            have agV53 : agr [(6, 6)] [12, 14] V V53 := agV6.up hV53 rfl
            refine lv_goto (tgt := 4) hx hb dX9_cutNumber_74 (by decide) ?_
            have pq55 : (V53 6 5).toInt = ((V 6 5)).toInt := congrArg Int32.toInt ((up2_k hV53 (by decide)).trans (ajV6 6 5 rfl))
            have pq56 : (V53 6 6).toInt = z52.toInt := congrArg Int32.toInt (up2_s hV53)
            exact ihlp7 0 z51 V53 H locs ls (by (first | exact om_4cb4755f0960 r1.2 r2.1 xlp7_1 f27 f50 hz51 | omega)) (show (V53 6 6).toInt ≤ (V53 6 5).toInt from by (first | exact om_1257dc0753d6 f27 hz52 pq55 pq56 | omega)) (show (V 6 6).toInt + z51.toInt = (V53 6 6).toInt from by (first | exact om_662a1892167c xlp7_1 hz51 hz52 pq56 | omega)) (by (first | exact om_91b464413286 hn pq8 hz52 pq55 pq56 | omega)) (agr.up (agr.tr agr.rf ajV6 (by decide) (by decide)) hV53 rfl) hMV53 hP hD hS (lv_sub hl [1, 0, 2] rfl)
          · skip
            have f57 : y5.toInt < 9 := b_nle (by decide) rfl c49
            refine lv_lload_n hx hb dX9_cutNumber_36 rfl (lv_at hl 0 rfl) ?_
            refine lv_ldc2 (v := 10) hx hb hown (hg _ w778) dX9_cutNumber_37 ?_
            refine lv_lmul hx hb dX9_cutNumber_40 ?_
            refine lv_topl (fun w58 ew58 => ?_)
            refine lv_aload_n hx hb dX9_cutNumber_41 rfl (lv_at hl 2 rfl) ?_
            refine va_get (D := D) (ci := 9) (v := .ref (ad 7)) (fs := (xfTape ad V6 L Z)) (C := RX9) (T := TX9) (N := 12) hx hb hg inX9 hown hK hP 6 xgTape rfl 0 (by decide) (hg _ w252) (fun _ h9 => h9) rfl dX9_cutNumber_42 ?_
            refine lv_aload_n hx hb dX9_cutNumber_45 rfl (lv_at hl 2 rfl) ?_
            refine va_get (D := D) (ci := 9) (v := .int (V6 6 6)) (fs := (xfTape ad V6 L Z)) (C := RX9) (T := TX9) (N := 12) hx hb hg inX9 hown hK hP 6 xgTape rfl 6 (by decide) (hg _ w259) (fun _ h9 => h9) rfl dX9_cutNumber_46 ?_
            refine va_bald (D := D) (i := (V6 6 6)) hx hb hK hP 7 0 rfl rfl (i_in (a := ((V6 6 6)).toInt) rfl (by (first | exact om_fe2d53c3c384 r1.2 r2.1 klp7_0.1 xlp7_1 f27 | omega))) dX9_cutNumber_49 ?_
            refine g_top (v := (V 10 (Int32.toNatClampNeg (V6 6 6)))) (ajV6 10 (Int32.toNatClampNeg (V6 6 6)) rfl) ?_
            refine lv_i2l hx hb dX9_cutNumber_50 rfl ?_
            refine lv_topl (fun w59 ew59 => ?_)
            refine lv_ladd hx hb dX9_cutNumber_51 ?_
            refine lv_topl (fun w60 ew60 => ?_)
            refine lv_ldc2 (v := 48) hx hb hown (hg _ w779) dX9_cutNumber_52 ?_
            refine lv_lsub hx hb dX9_cutNumber_55 ?_
            refine lv_topl (fun w61 ew61 => ?_)
            refine lv_goto (tgt := 60) hx hb dX9_cutNumber_56 (by decide) ?_
            refine lv_lstore_n (lv' := [(2, .long w61), (1, .int y5), (0, .ref (ad 6))]) hx hb dX9_cutNumber_60 rfl hl (by decide) rfl (fun ls hl => ?_)
            obtain ⟨z62, ez62⟩ : ∃ y : Int32, y = y5 + 1 := ⟨_, rfl⟩
            have hz62 : z62.toInt = y5.toInt + 1 := i_add ez62 rfl (by decide) (by (first | exact om_778bd2371a89 klp7_0.1 f57 | omega))
            refine lv_iinc (v := z62) (lv' := [(1, .int z62), (2, .long w61), (0, .ref (ad 6))]) hx hb dX9_cutNumber_61 hl (k := 1) rfl (by rw [ez62]; rfl) (by decide) rfl (fun ls hl => ?_)
            refine lv_aload_n hx hb dX9_cutNumber_64 rfl (lv_at hl 2 rfl) ?_
            refine lv_dup hx hb dX9_cutNumber_65 rfl ?_
            refine va_get (D := D) (ci := 9) (v := .int (V6 6 6)) (fs := (xfTape ad V6 L Z)) (C := RX9) (T := TX9) (N := 12) hx hb hg inX9 hown hK hP 6 xgTape rfl 6 (by decide) (hg _ w259) (fun _ h9 => h9) rfl dX9_cutNumber_66 ?_
            refine lv_iconst (v := 1) hx hb dX9_cutNumber_69 (by decide) ?_
            refine lv_iadd hx hb dX9_cutNumber_70 ?_
            refine lv_topi (fun z63 ez63 => ?_)
            have hz63 : z63.toInt = ((V6 6 6)).toInt + 1 := i_add ez63 rfl (by decide) (by (first | exact om_41955fcb6566 r1.2 r2.1 klp7_0.1 xlp7_1 f27 | omega))
            refine va_put (D := D) (ci := 9) (v := .int z63) (ty := tyX9 6) (fs := (xfTape ad V6 L Z)) (C := RX9) (T := TX9) (N := 12) hx hb hg inX9 tyX9 tyX9_ok nmX9 hown hK hP hD hS 6 xgTape rfl 6 (by decide) (hg _ w259) (fun _ h9 => h9) rfl (tyX9_ok 6 (by decide)) rfl rfl (Nat.le_of_ble_eq_true rfl) dX9_cutNumber_71 (fun H locs hP hD hS => ?_)
            obtain ⟨V64, hV64⟩ : ∃ z, z = up2 V6 6 6 z63 := ⟨_, rfl⟩
            have ew65 : (xw ad kk V6 L Z).set 6 ((ad 6), .inr (9, (xfTape ad V6 L Z).set 6 (.int z63))) = xw ad kk V64 L Z := by rw [hV64]; exact xw_ss (by decide) rfl (xb_si (by decide))
            have hP : va_P D vwCl (xw ad kk V64 L Z) H := by rw [← ew65]; exact hP
            have hD : va_D A (xw ad kk V64 L Z) := by rw [← ew65]; exact hD
            have hMV64 : rgd bX V64 := hMV6.put hV64 (show 0 ≤ z63.toInt ∧ z63.toInt ≤ 4000 from by (first | exact om_5bd73bff3568 r1.2 r2.1 klp7_0.1 xlp7_1 f27 hz63 | omega))
            have agV64 : agr [(6, 6)] [12, 14] V V64 := agV6.up hV64 rfl
            refine lv_goto (tgt := 4) hx hb dX9_cutNumber_74 (by decide) ?_
            have pq66 : (V64 6 5).toInt = ((V 6 5)).toInt := congrArg Int32.toInt ((up2_k hV64 (by decide)).trans (ajV6 6 5 rfl))
            have pq67 : (V64 6 6).toInt = z63.toInt := congrArg Int32.toInt (up2_s hV64)
            exact ihlp7 w61 z62 V64 H locs ls (by (first | exact om_7f7dd5977925 klp7_0.1 f57 hz62 | omega)) (show (V64 6 6).toInt ≤ (V64 6 5).toInt from by (first | exact om_1257dc0753d6 f27 hz63 pq66 pq67 | omega)) (show (V 6 6).toInt + z62.toInt = (V64 6 6).toInt from by (first | exact om_662a1892167c xlp7_1 hz62 hz63 pq67 | omega)) (by (first | exact om_91b464413286 hn pq8 hz63 pq66 pq67 | omega)) (agr.up (agr.tr agr.rf ajV6 (by decide) (by decide)) hV64 rfl) hMV64 hP hD hS (lv_sub hl [1, 0, 2] rfl)
  have r68 : Int32.toInt 0 = 0 := by decide
  exact lp7 (((V 6 5).toInt - (V 6 6).toInt + 1 : Int).toNat) 0 0 V H locs ls (by decide) (show (V 6 6).toInt ≤ (V 6 5).toInt from by (first | exact om_f4906d00fa52 y1 | omega)) (show (V 6 6).toInt + (Int32.toInt 0) = (V 6 6).toInt from by (first | exact om_85baa6bcbf4d r68 | omega)) (by (first | exact om_7441a7786481 | omega)) agr.rf hMV hP hD hS (lv_sub hl [0, 1, 2] rfl)
abbrev r_x_find : Room := { frames := 0, cells := 0, slots := 0, locals := 0 }
abbrev q_x_find (D : va_G) (ks : KS) (ad : Nat → Nat) (kk : Nat → ClassId) (V : Vf) (L : Lf) (Z : XZ) (p0 : Int64) (gn : Nat) (A : Nat → Prop) : Array Value → State → Outcome → State → Prop := va_Qi (fun (r : Int32) (_ : Unit) => ((-1) ≤ r.toInt ∧ r.toInt ≤ 23) ∧ (r.toInt < (V 43 gn).toInt)) (fun _ t => gq D A (xw ad kk V L Z) (xty kk Z) t) A
set_option maxHeartbeats 4000000 in
set_option maxRecDepth 100000 in
theorem x_find (l : Launch) (D : va_G) (ks : KS) (sz : Nat) (ad : Nat → Nat) (kk : Nat → ClassId) (V : Vf) (L : Lf) (Z : XZ) (p0 : Int64) (gn : Nat) (hMV : rgd bX V) (hgn : gn < 10)  : Met l yX6_find (Cond.code yX6_find cX6_find 4 (some .int) :: GW) r_x_find (va_Pc [.ref (ad (40 + gn)), .long p0] (gp D ks (xw ad kk V L Z) (xty kk Z) sz)) (q_x_find D ks ad kk V L Z p0 gn (va_A (xw ad kk V L Z) sz)) 0 0 (va_A (xw ad kk V L Z) sz) := by
  refine g_met (q_x_find D ks ad kk V L Z p0 gn) (by decide) (Nat.le_of_ble_eq_true rfl) ?_
  intro p e s m below meth c A ls H locs hx hb hr hml hown hg hlocks hin hnw hgk hP hK hD hS hA hl
  have hown : s.vm.findClass RX6 = some m.cls := hown
  have hl : lv_has ls 4 [(0, .ref (ad (40 + gn))), (1, .long p0)] := hl
  have hP : va_P D vwCl (xw ad kk V L Z) H := hP
  have hD : va_D A (xw ad kk V L Z) := hD
  have hK : va_K D vwCl (xty kk Z) s := hK
  refine lv_iconst (v := 0) hx hb dX6_find_0 (by decide) ?_
  refine lv_istore_n (lv' := [(3, .int 0), (0, .ref (ad (40 + gn))), (1, .long p0)]) hx hb dX6_find_1 rfl hl (by decide) rfl (fun ls hl => ?_)
  have lp2 : ∀ (fulp2 : Nat) (y1 : Int32) (H : Heap) (locs : List Loc) (ls : Array Slot), 0 ≤ y1.toInt ∧ y1.toInt ≤ 24 → y1.toInt ≤ (V 43 gn).toInt → 24 - y1.toInt < (fulp2 : Int) → va_P D vwCl (xw ad kk V L Z) H → va_D A (xw ad kk V L Z) → va_S A s.heap H locs → lv_has ls 4 [(3, .int y1), (0, .ref (ad (40 + gn))), (1, .long p0)] → W p l e r_x_find s m ([.ref (ad (40 + gn)), .long p0] : List Value).toArray below meth c H locs 0 0 (MQ below (q_x_find D ks ad kk V L Z p0 gn A) ([.ref (ad (40 + gn)), .long p0] : List Value).toArray s 0 0 A) (F0 m 2 ls []) := by
    intro fulp2
    induction fulp2 with
    | zero =>
      intro y1 H locs ls klp2_0 xlp2_0 hn  hP hD hS hl
      exfalso; (first | exact om_9386ef0df612 klp2_0.2 hn | omega)
    | succ fulp2 ihlp2 =>
      intro y1 H locs ls klp2_0 xlp2_0 hn  hP hD hS hl
      have r3 : 0 ≤ ((V 43 gn)).toInt ∧ ((V 43 gn)).toInt ≤ ((xcap gn : Nat) : Int) := hMV 43 gn
      have r4 := xcap_le gn
      refine lv_iload_n hx hb dX6_find_2 rfl (lv_at hl 0 rfl) ?_
      refine lv_aload_n hx hb dX6_find_3 rfl (lv_at hl 1 rfl) ?_
      refine va_get (D := D) (ci := 6) (v := .int (V 43 gn)) (fs := (xfNames ad V gn)) (C := RX6) (T := TX6) (N := 2) hx hb hg inX6 hown hK hP (40 + gn) (xgNames hgn) rfl 1 (by decide) (hg _ w480) (fun _ h9 => h9) rfl dX6_find_4 ?_
      refine lv_icmp_ge (tgt := 29) hx hb dX6_find_7 (by decide) (fun c5 => ?_) (fun c5 => ?_)
      · skip
        have f6 : ((V 43 gn)).toInt ≤ y1.toInt := b_le rfl rfl c5
        refine lv_iconst (v := (-1)) hx hb dX6_find_29 (by decide) ?_
        exact W.iret (v := (-1)) hx hb hr (fun t ht hW => ⟨⟨(-1), (), rfl, ⟨(by decide), (show (-1) < (V 43 gn).toInt from by (first | exact om_550cdc110816 r3.1 | omega))⟩, by rw [ht]; exact hP, va_K.moved hW.alike hK, hD⟩, hS.F ht⟩) hS.2.2 dX6_find_30
      · skip
        have f7 : y1.toInt < ((V 43 gn)).toInt := b_nle rfl rfl c5
        refine lv_aload_n hx hb dX6_find_10 rfl (lv_at hl 1 rfl) ?_
        refine va_get (D := D) (ci := 6) (v := .ref (ad (50 + gn))) (fs := (xfNames ad V gn)) (C := RX6) (T := TX6) (N := 2) hx hb hg inX6 hown hK hP (40 + gn) (xgNames hgn) rfl 0 (by decide) (hg _ w479) (fun _ h9 => h9) rfl dX6_find_11 ?_
        refine lv_iload_n hx hb dX6_find_14 rfl (lv_at hl 0 rfl) ?_
        refine va_lald (D := D) (i := y1) hx hb hK hP (50 + gn) (43 + gn) (xgwords hgn) (xtwords hgn) (i_in (a := y1.toInt) rfl (by omega)) dX6_find_15 ?_
        have kc8 := i_clamp (x := y1) rfl (by (first | exact om_eafa9039069c klp2_0.1 | omega))
        refine g_topv (v := .long (L 44 (24 * gn + (Int32.toNatClampNeg y1)))) (congrArg Value.long (if_pos (by omega))) ?_
        refine lv_topl (fun w9 ew9 => ?_)
        refine lv_lload_n hx hb dX6_find_16 rfl (lv_at hl 2 rfl) ?_
        refine W.lcmp hx hb dX6_find_17 ?_
        refine lv_topi (fun z10 ez10 => ?_)
        have hz10 : -1 ≤ z10.toInt ∧ z10.toInt ≤ 1 := lcmp_r ez10
        refine lv_if_ne (tgt := 23) hx hb dX6_find_18 (by decide) (fun c11 => ?_) (fun c11 => ?_)
        · skip
          have f12 : z10.toInt ≠ 0 := b_neq rfl (by decide) c11
          obtain ⟨z13, ez13⟩ : ∃ y : Int32, y = y1 + 1 := ⟨_, rfl⟩
          have hz13 : z13.toInt = y1.toInt + 1 := i_add ez13 rfl (by decide) (by (first | exact om_e66fa98a5d27 klp2_0.1 klp2_0.2 | omega))
          refine lv_iinc (v := z13) (lv' := [(3, .int z13), (0, .ref (ad (40 + gn))), (1, .long p0)]) hx hb dX6_find_23 hl (k := 0) rfl (by rw [ez13]; rfl) (by decide) rfl (fun ls hl => ?_)
          refine lv_goto (tgt := 2) hx hb dX6_find_26 (by decide) ?_
          exact ihlp2 z13 H locs ls (by (first | exact om_e490a8b17553 klp2_0.1 r3.2 r4.2 f7 hz13 | omega)) (show z13.toInt ≤ (V 43 gn).toInt from by (first | exact om_7fe9249fc074 f7 hz13 | omega)) (by (first | exact om_9592d9319ffa hn hz13 | omega)) hP hD hS (lv_sub hl [0, 1, 2] rfl)
        · skip
          have f14 : z10.toInt = 0 := b_eq rfl (by decide) c11
          refine lv_iload_n hx hb dX6_find_21 rfl (lv_at hl 0 rfl) ?_
          exact W.iret (v := y1) hx hb hr (fun t ht hW => ⟨⟨y1, (), rfl, ⟨(show (-1) ≤ y1.toInt ∧ y1.toInt ≤ 23 from by (first | exact om_38bc297cb60f klp2_0.1 r3.2 r4.2 f7 | omega)), (show y1.toInt < (V 43 gn).toInt from by (first | exact om_0e9116797efb f7 | omega))⟩, by rw [ht]; exact hP, va_K.moved hW.alike hK, hD⟩, hS.F ht⟩) hS.2.2 dX6_find_22
  have r15 : Int32.toInt 0 = 0 := by decide
  have r16 : 0 ≤ ((V 43 gn)).toInt ∧ ((V 43 gn)).toInt ≤ ((xcap gn : Nat) : Int) := hMV 43 gn
  have r17 := xcap_le gn
  exact lp2 ((24 - (Int32.toInt 0) + 1 : Int).toNat) 0 H locs ls (by decide) (show (Int32.toInt 0) ≤ (V 43 gn).toInt from by (first | exact om_a51dc5ad8918 r15 r16.1 | omega)) (by (first | exact om_817980d3aa47 | omega)) hP hD hS (lv_sub hl [0, 1, 2] rfl)
abbrev r_x_isFull : Room := { frames := 0, cells := 0, slots := 0, locals := 0 }
abbrev q_x_isFull (D : va_G) (ks : KS) (ad : Nat → Nat) (kk : Nat → ClassId) (V : Vf) (L : Lf) (Z : XZ) (gn : Nat) (A : Nat → Prop) : Array Value → State → Outcome → State → Prop := va_Qi (fun (r : Int32) (_ : Unit) => (0 ≤ r.toInt ∧ r.toInt ≤ 1) ∧ (Imp (r.toInt = 0) ((V 43 gn).toInt < ((xcap gn : Nat) : Int)))) (fun _ t => gq D A (xw ad kk V L Z) (xty kk Z) t) A
set_option maxHeartbeats 4000000 in
set_option maxRecDepth 100000 in
theorem x_isFull (l : Launch) (D : va_G) (ks : KS) (sz : Nat) (ad : Nat → Nat) (kk : Nat → ClassId) (V : Vf) (L : Lf) (Z : XZ) (gn : Nat) (hMV : rgd bX V) (hgn : gn < 10)  : Met l yX6_isFull (Cond.code yX6_isFull cX6_isFull 1 (some .boolean) :: GW) r_x_isFull (va_Pc [.ref (ad (40 + gn))] (gp D ks (xw ad kk V L Z) (xty kk Z) sz)) (q_x_isFull D ks ad kk V L Z  gn (va_A (xw ad kk V L Z) sz)) 0 0 (va_A (xw ad kk V L Z) sz) := by
  refine g_met (q_x_isFull D ks ad kk V L Z  gn) (by decide) (Nat.le_of_ble_eq_true rfl) ?_
  intro p e s m below meth c A ls H locs hx hb hr hml hown hg hlocks hin hnw hgk hP hK hD hS hA hl
  have hown : s.vm.findClass RX6 = some m.cls := hown
  have hl : lv_has ls 1 [(0, .ref (ad (40 + gn)))] := hl
  have hP : va_P D vwCl (xw ad kk V L Z) H := hP
  have hD : va_D A (xw ad kk V L Z) := hD
  have hK : va_K D vwCl (xty kk Z) s := hK
  refine lv_aload_n hx hb dX6_isFull_0 rfl (lv_at hl 0 rfl) ?_
  refine va_get (D := D) (ci := 6) (v := .int (V 43 gn)) (fs := (xfNames ad V gn)) (C := RX6) (T := TX6) (N := 2) hx hb hg inX6 hown hK hP (40 + gn) (xgNames hgn) rfl 1 (by decide) (hg _ w480) (fun _ h9 => h9) rfl dX6_isFull_1 ?_
  have r1 : 0 ≤ ((V 43 gn)).toInt ∧ ((V 43 gn)).toInt ≤ ((xcap gn : Nat) : Int) := hMV 43 gn
  have r2 := xcap_le gn
  refine lv_aload_n hx hb dX6_isFull_4 rfl (lv_at hl 0 rfl) ?_
  refine va_get (D := D) (ci := 6) (v := .ref (ad (50 + gn))) (fs := (xfNames ad V gn)) (C := RX6) (T := TX6) (N := 2) hx hb hg inX6 hown hK hP (40 + gn) (xgNames hgn) rfl 0 (by decide) (hg _ w479) (fun _ h9 => h9) rfl dX6_isFull_5 ?_
  refine va_alen (D := D) (v := nI (xcap gn)) hx hb hK hP (50 + gn) (43 + gn) (xgwords hgn) (xtwords hgn) rfl dX6_isFull_8 ?_
  refine lv_topi (fun z4 ez4 => ?_)
  have r5 : z4.toInt = ((xcap gn : Nat) : Int) := by rw [ez4]; exact nI_toInt (by omega)
  refine lv_icmp_lt (tgt := 16) hx hb dX6_isFull_9 (by decide) (fun c6 => ?_) (fun c6 => ?_)
  · skip
    have f7 : ((V 43 gn)).toInt < z4.toInt := b_lt rfl rfl c6
    refine lv_iconst (v := 0) hx hb dX6_isFull_16 (by decide) ?_
    exact W.zret (v := 0) hx hb hr rfl (fun t ht hW => ⟨⟨0, (), rfl, ⟨(by decide), (Imp.mk (fun _ => (show (V 43 gn).toInt < ((xcap gn : Nat) : Int) from by (first | exact om_74393bacf057 r5 f7 | omega))))⟩, by rw [ht]; exact hP, va_K.moved hW.alike hK, hD⟩, hS.F ht⟩) hS.2.2 dX6_isFull_17
  · skip
    have f8 : z4.toInt ≤ ((V 43 gn)).toInt := b_nlt rfl rfl c6
    refine lv_iconst (v := 1) hx hb dX6_isFull_12 (by decide) ?_
    refine lv_goto (tgt := 17) hx hb dX6_isFull_13 (by decide) ?_
    exact W.zret (v := 1) hx hb hr rfl (fun t ht hW => ⟨⟨1, (), rfl, ⟨(by decide), (Imp.mk (fun hp => absurd hp (by decide)))⟩, by rw [ht]; exact hP, va_K.moved hW.alike hK, hD⟩, hS.F ht⟩) hS.2.2 dX6_isFull_17
abbrev r_x_add : Room := { frames := 0, cells := 0, slots := 0, locals := 0 }
abbrev q_x_add (D : va_G) (ks : KS) (ad : Nat → Nat) (kk : Nat → ClassId) (V : Vf) (L : Lf) (Z : XZ) (p0 : Int64) (gn : Nat) (A : Nat → Prop) : Array Value → State → Outcome → State → Prop := va_Qi (fun (r : Int32) (u : Vf × Lf) => rgd bX u.1 ∧ agr [] [43, 44] V u.1 ∧ agL [44] L u.2 ∧ frX (xN gn) V u.1 ∧ ((-1) ≤ r.toInt ∧ r.toInt ≤ 23) ∧ (r.toInt < (u.1 43 gn).toInt) ∧ (Imp ((V 43 gn).toInt < ((xcap gn : Nat) : Int)) (r.toInt = (V 43 gn).toInt ∧ (u.1 43 gn).toInt = (V 43 gn).toInt + 1)) ∧ ((∀ n : Nat, ¬ n = gn → u.1 43 n = V 43 n))) (fun u t => gq D A (xw ad kk u.1 u.2 Z) (xty kk Z) t) A
set_option maxHeartbeats 4000000 in
set_option maxRecDepth 100000 in
theorem x_add (l : Launch) (D : va_G) (ks : KS) (sz : Nat) (ad : Nat → Nat) (kk : Nat → ClassId) (V : Vf) (L : Lf) (Z : XZ) (p0 : Int64) (gn : Nat) (hMV : rgd bX V) (hgn : gn < 10)  : Met l yX6_add (Cond.code yX6_add cX6_add 3 (some .int) :: GW) r_x_add (va_Pc [.ref (ad (40 + gn)), .long p0] (gp D ks (xw ad kk V L Z) (xty kk Z) sz)) (q_x_add D ks ad kk V L Z p0 gn (va_A (xw ad kk V L Z) sz)) 0 0 (va_A (xw ad kk V L Z) sz) := by
  refine g_met (q_x_add D ks ad kk V L Z p0 gn) (by decide) (Nat.le_of_ble_eq_true rfl) ?_
  intro p e s m below meth c A ls H locs hx hb hr hml hown hg hlocks hin hnw hgk hP hK hD hS hA hl
  have hown : s.vm.findClass RX6 = some m.cls := hown
  have hl : lv_has ls 3 [(0, .ref (ad (40 + gn))), (1, .long p0)] := hl
  have hP : va_P D vwCl (xw ad kk V L Z) H := hP
  have hD : va_D A (xw ad kk V L Z) := hD
  have hK : va_K D vwCl (xty kk Z) s := hK
  have agV : agr [] [43, 44] V V := agr.rf
  have alL : agL [44] L L := agL.rf
  have fwV : frX (xN gn) V V := frX.rf
  refine lv_aload_n hx hb dX6_add_0 rfl (lv_at hl 0 rfl) ?_
  refine va_get (D := D) (ci := 6) (v := .int (V 43 gn)) (fs := (xfNames ad V gn)) (C := RX6) (T := TX6) (N := 2) hx hb hg inX6 hown hK hP (40 + gn) (xgNames hgn) rfl 1 (by decide) (hg _ w480) (fun _ h9 => h9) rfl dX6_add_1 ?_
  have r1 : 0 ≤ ((V 43 gn)).toInt ∧ ((V 43 gn)).toInt ≤ ((xcap gn : Nat) : Int) := hMV 43 gn
  have r2 := xcap_le gn
  refine lv_aload_n hx hb dX6_add_4 rfl (lv_at hl 0 rfl) ?_
  refine va_get (D := D) (ci := 6) (v := .ref (ad (50 + gn))) (fs := (xfNames ad V gn)) (C := RX6) (T := TX6) (N := 2) hx hb hg inX6 hown hK hP (40 + gn) (xgNames hgn) rfl 0 (by decide) (hg _ w479) (fun _ h9 => h9) rfl dX6_add_5 ?_
  refine va_alen (D := D) (v := nI (xcap gn)) hx hb hK hP (50 + gn) (43 + gn) (xgwords hgn) (xtwords hgn) rfl dX6_add_8 ?_
  refine lv_topi (fun z4 ez4 => ?_)
  have r5 : z4.toInt = ((xcap gn : Nat) : Int) := by rw [ez4]; exact nI_toInt (by omega)
  refine lv_icmp_lt (tgt := 14) hx hb dX6_add_9 (by decide) (fun c6 => ?_) (fun c6 => ?_)
  · skip
    have f7 : ((V 43 gn)).toInt < z4.toInt := b_lt rfl rfl c6
    refine lv_aload_n hx hb dX6_add_14 rfl (lv_at hl 0 rfl) ?_
    refine va_get (D := D) (ci := 6) (v := .ref (ad (50 + gn))) (fs := (xfNames ad V gn)) (C := RX6) (T := TX6) (N := 2) hx hb hg inX6 hown hK hP (40 + gn) (xgNames hgn) rfl 0 (by decide) (hg _ w479) (fun _ h9 => h9) rfl dX6_add_15 ?_
    refine lv_aload_n hx hb dX6_add_18 rfl (lv_at hl 0 rfl) ?_
    refine va_get (D := D) (ci := 6) (v := .int (V 43 gn)) (fs := (xfNames ad V gn)) (C := RX6) (T := TX6) (N := 2) hx hb hg inX6 hown hK hP (40 + gn) (xgNames hgn) rfl 1 (by decide) (hg _ w480) (fun _ h9 => h9) rfl dX6_add_19 ?_
    refine lv_lload_n hx hb dX6_add_22 rfl (lv_at hl 1 rfl) ?_
    refine va_last (D := D) (i := (V 43 gn)) (x := p0) hx hb hK hP hD hS (50 + gn) (43 + gn) (xgwords hgn) (xtwords hgn) (i_in (a := ((V 43 gn)).toInt) rfl (by omega)) dX6_add_23 (fun H locs hP hD hS => ?_)
    have kc8 := i_clamp (x := (V 43 gn)) rfl (by (first | exact om_eafa9039069c r1.1 | omega))
    have kl9 : (Int32.toNatClampNeg (V 43 gn)) < 24 := by (first | exact om_c4cfbb9c595c r2.2 r5 f7 kc8 | omega)
    obtain ⟨L10, hL10⟩ : ∃ z, z = upL L 44 (24 * gn + (Int32.toNatClampNeg (V 43 gn))) p0 := ⟨_, rfl⟩
    have ew11 : (xw ad kk V L Z).set (50 + gn) ((ad (50 + gn)), .inl ((kk (50 + gn)), xcap gn, .inr (.inl (vp_updL (fun q => if q < 24 then L 44 (24 * gn + q) else 0) (Int32.toNatClampNeg (V 43 gn)) p0)))) = xw ad kk V L10 Z := by rw [hL10]; exact xpwords hgn kl9
    have hP : va_P D vwCl (xw ad kk V L10 Z) H := by rw [← ew11]; exact hP
    have hD : va_D A (xw ad kk V L10 Z) := by rw [← ew11]; exact hD
    have alL10 : agL [44] L L10 := agL.up alL hL10 rfl
    refine lv_aload_n hx hb dX6_add_24 rfl (lv_at hl 0 rfl) ?_
    refine lv_dup hx hb dX6_add_25 rfl ?_
    refine va_get (D := D) (ci := 6) (v := .int (V 43 gn)) (fs := (xfNames ad V gn)) (C := RX6) (T := TX6) (N := 2) hx hb hg inX6 hown hK hP (40 + gn) (xgNames hgn) rfl 1 (by decide) (hg _ w480) (fun _ h9 => h9) rfl dX6_add_26 ?_
    refine lv_dup_x1 hx hb dX6_add_29 rfl rfl ?_
    refine lv_iconst (v := 1) hx hb dX6_add_30 (by decide) ?_
    refine lv_iadd hx hb dX6_add_31 ?_
    refine lv_topi (fun z12 ez12 => ?_)
    have hz12 : z12.toInt = ((V 43 gn)).toInt + 1 := i_add ez12 rfl (by decide) (by (first | exact om_3cef7ac10bbb r1.1 kc8 kl9 | omega))
    refine va_put (D := D) (ci := 6) (v := .int z12) (ty := tyX6 1) (fs := (xfNames ad V gn)) (C := RX6) (T := TX6) (N := 2) hx hb hg inX6 tyX6 tyX6_ok nmX6 hown hK hP hD hS (40 + gn) (xgNames hgn) rfl 1 (by decide) (hg _ w480) (fun _ h9 => h9) rfl (tyX6_ok 1 (by decide)) rfl rfl (Nat.le_of_ble_eq_true rfl) dX6_add_32 (fun H locs hP hD hS => ?_)
    obtain ⟨V13, hV13⟩ : ∃ z, z = up2 V 43 gn z12 := ⟨_, rfl⟩
    have ew14 : (xw ad kk V L10 Z).set (40 + gn) ((ad (40 + gn)), .inr (6, (xfNames ad V gn).set 1 (.int z12))) = xw ad kk V13 L10 Z := by rw [hV13]; exact xpNames_size hgn
    have hP : va_P D vwCl (xw ad kk V13 L10 Z) H := by rw [← ew14]; exact hP
    have hD : va_D A (xw ad kk V13 L10 Z) := by rw [← ew14]; exact hD
    have hMV13 : rgd bX V13 := hMV.put hV13 (show 0 ≤ z12.toInt ∧ z12.toInt ≤ ((xcap gn : Nat) : Int) from by (first | exact om_dd26073c146a r1.1 r5 f7 hz12 | omega))
    have agV13 : agr [] [43, 44] V V13 := agV.up hV13 rfl
    have fwV13 : frX (xN gn) V V13 := frX.up fwV hV13 (Or.inr ⟨(by show gn ≤ gn; (first | exact om_36cf446a3c95 | omega)), (by show gn < gn + 1; (first | exact om_0bb971ab4ffe | omega))⟩)
    have pq15 : (V13 43 gn).toInt = z12.toInt := congrArg Int32.toInt (up2_s hV13)
    have rp16 : ∀ n : Nat, ¬ n = gn → V13 43 n = V 43 n := fun n hn => up2_k hV13 hn
    exact W.iret (v := (V 43 gn)) hx hb hr (fun t ht hW => ⟨⟨(V 43 gn), (V13, L10), rfl, ⟨hMV13, agV13, alL10, fwV13, (show (-1) ≤ ((V 43 gn)).toInt ∧ ((V 43 gn)).toInt ≤ 23 from by (first | exact om_bdc49d49ea67 r1.1 kc8 kl9 | omega)), (show ((V 43 gn)).toInt < (V13 43 gn).toInt from by (first | exact om_8a3bb01c6349 hz12 pq15 | omega)), (Imp.mk (fun hp => have hp : (V 43 gn).toInt < ((xcap gn : Nat) : Int) := hp; (show ((V 43 gn)).toInt = (V 43 gn).toInt ∧ (V13 43 gn).toInt = (V 43 gn).toInt + 1 from by (first | exact om_973282c118df hz12 pq15 | omega)))), rp16⟩, by rw [ht]; exact hP, va_K.moved hW.alike hK, hD⟩, hS.F ht⟩) hS.2.2 dX6_add_35
  · skip
    have f17 : z4.toInt ≤ ((V 43 gn)).toInt := b_nlt rfl rfl c6
    refine lv_iconst (v := (-1)) hx hb dX6_add_12 (by decide) ?_
    have rp18 : ∀ n : Nat, ¬ n = gn → V 43 n = V 43 n := fun _ _ => rfl
    exact W.iret (v := (-1)) hx hb hr (fun t ht hW => ⟨⟨(-1), (V, L), rfl, ⟨hMV, agV, alL, fwV, (by decide), (show (-1) < (V 43 gn).toInt from by (first | exact om_550cdc110816 r1.1 | omega)), (Imp.mk (fun hp => have hp : (V 43 gn).toInt < ((xcap gn : Nat) : Int) := hp; (show (-1) = (V 43 gn).toInt ∧ (V 43 gn).toInt = (V 43 gn).toInt + 1 from by omega))), rp18⟩, by rw [ht]; exact hP, va_K.moved hW.alike hK, hD⟩, hS.F ht⟩) hS.2.2 dX6_add_13
abbrev r_x_Nclear : Room := { frames := 0, cells := 0, slots := 0, locals := 0 }
abbrev q_x_Nclear (D : va_G) (ks : KS) (ad : Nat → Nat) (kk : Nat → ClassId) (V : Vf) (L : Lf) (Z : XZ) (A : Nat → Prop) : Array Value → State → Outcome → State → Prop := va_Qv (fun (u : Vf × Lf) => rgd bX u.1 ∧ agr [(4, 5), (4, 6), (4, 7), (4, 8)] [] V u.1 ∧ u.2 = L) (fun u t => gq D A (xw ad kk u.1 u.2 Z) (xty kk Z) t) A
set_option maxHeartbeats 4000000 in
set_option maxRecDepth 100000 in
theorem x_Nclear (l : Launch) (D : va_G) (ks : KS) (sz : Nat) (ad : Nat → Nat) (kk : Nat → ClassId) (V : Vf) (L : Lf) (Z : XZ)  (hMV : rgd bX V)  : Met l yX7_clear (Cond.code yX7_clear cX7_clear 1 none :: GW) r_x_Nclear (va_Pc [.ref (ad 4)] (gp D ks (xw ad kk V L Z) (xty kk Z) sz)) (q_x_Nclear D ks ad kk V L Z  (va_A (xw ad kk V L Z) sz)) 0 0 (va_A (xw ad kk V L Z) sz) := by
  refine g_met (q_x_Nclear D ks ad kk V L Z) (by decide) (Nat.le_of_ble_eq_true rfl) ?_
  intro p e s m below meth c A ls H locs hx hb hr hml hown hg hlocks hin hnw hgk hP hK hD hS hA hl
  have hown : s.vm.findClass RX7 = some m.cls := hown
  have hl : lv_has ls 1 [(0, .ref (ad 4))] := hl
  have hP : va_P D vwCl (xw ad kk V L Z) H := hP
  have hD : va_D A (xw ad kk V L Z) := hD
  have hK : va_K D vwCl (xty kk Z) s := hK
  have agV : agr [(4, 5), (4, 6), (4, 7), (4, 8)] [] V V := agr.rf
  refine lv_aload_n hx hb dX7_clear_0 rfl (lv_at hl 0 rfl) ?_
  refine lv_iconst (v := 0) hx hb dX7_clear_1 (by decide) ?_
  refine va_put (D := D) (ci := 7) (v := .int 0) (ty := tyX7 5) (fs := (xfNotes ad V L Z)) (C := RX7) (T := TX7) (N := 10) hx hb hg inX7 tyX7 tyX7_ok nmX7 hown hK hP hD hS 4 xgNotes rfl 5 (by decide) (hg _ w440) (fun _ h9 => h9) rfl (tyX7_ok 5 (by decide)) rfl rfl (Nat.le_of_ble_eq_true rfl) dX7_clear_2 (fun H locs hP hD hS => ?_)
  obtain ⟨V1, hV1⟩ : ∃ z, z = up2 V 4 5 0 := ⟨_, rfl⟩
  have ew2 : (xw ad kk V L Z).set 4 ((ad 4), .inr (7, (xfNotes ad V L Z).set 5 (.int 0))) = xw ad kk V1 L Z := by rw [hV1]; exact xw_ss (by decide) rfl (xb_si (by decide))
  have hP : va_P D vwCl (xw ad kk V1 L Z) H := by rw [← ew2]; exact hP
  have hD : va_D A (xw ad kk V1 L Z) := by rw [← ew2]; exact hD
  have hMV1 : rgd bX V1 := hMV.put hV1 (by decide)
  have agV1 : agr [(4, 5), (4, 6), (4, 7), (4, 8)] [] V V1 := agV.up hV1 rfl
  refine lv_aload_n hx hb dX7_clear_5 rfl (lv_at hl 0 rfl) ?_
  refine lv_iconst (v := 0) hx hb dX7_clear_6 (by decide) ?_
  refine va_put (D := D) (ci := 7) (v := .int 0) (ty := tyX7 6) (fs := (xfNotes ad V1 L Z)) (C := RX7) (T := TX7) (N := 10) hx hb hg inX7 tyX7 tyX7_ok nmX7 hown hK hP hD hS 4 xgNotes rfl 6 (by decide) (hg _ w441) (fun _ h9 => h9) rfl (tyX7_ok 6 (by decide)) rfl rfl (Nat.le_of_ble_eq_true rfl) dX7_clear_7 (fun H locs hP hD hS => ?_)
  obtain ⟨V3, hV3⟩ : ∃ z, z = up2 V1 4 6 0 := ⟨_, rfl⟩
  have ew4 : (xw ad kk V1 L Z).set 4 ((ad 4), .inr (7, (xfNotes ad V1 L Z).set 6 (.int 0))) = xw ad kk V3 L Z := by rw [hV3]; exact xw_ss (by decide) rfl (xb_si (by decide))
  have hP : va_P D vwCl (xw ad kk V3 L Z) H := by rw [← ew4]; exact hP
  have hD : va_D A (xw ad kk V3 L Z) := by rw [← ew4]; exact hD
  have hMV3 : rgd bX V3 := hMV1.put hV3 (by decide)
  have agV3 : agr [(4, 5), (4, 6), (4, 7), (4, 8)] [] V V3 := agV1.up hV3 rfl
  refine lv_aload_n hx hb dX7_clear_10 rfl (lv_at hl 0 rfl) ?_
  refine lv_iconst (v := 0) hx hb dX7_clear_11 (by decide) ?_
  refine va_put (D := D) (ci := 7) (v := .int 0) (ty := tyX7 7) (fs := (xfNotes ad V3 L Z)) (C := RX7) (T := TX7) (N := 10) hx hb hg inX7 tyX7 tyX7_ok nmX7 hown hK hP hD hS 4 xgNotes rfl 7 (by decide) (hg _ w442) (fun _ h9 => h9) rfl (tyX7_ok 7 (by decide)) rfl rfl (Nat.le_of_ble_eq_true rfl) dX7_clear_12 (fun H locs hP hD hS => ?_)
  obtain ⟨V5, hV5⟩ : ∃ z, z = up2 V3 4 7 0 := ⟨_, rfl⟩
  have ew6 : (xw ad kk V3 L Z).set 4 ((ad 4), .inr (7, (xfNotes ad V3 L Z).set 7 (.int 0))) = xw ad kk V5 L Z := by rw [hV5]; exact xw_ss (by decide) rfl (xb_si (by decide))
  have hP : va_P D vwCl (xw ad kk V5 L Z) H := by rw [← ew6]; exact hP
  have hD : va_D A (xw ad kk V5 L Z) := by rw [← ew6]; exact hD
  have hMV5 : rgd bX V5 := hMV3.put hV5 (i_full _)
  have agV5 : agr [(4, 5), (4, 6), (4, 7), (4, 8)] [] V V5 := agV3.up hV5 rfl
  refine lv_aload_n hx hb dX7_clear_15 rfl (lv_at hl 0 rfl) ?_
  refine lv_iconst (v := 0) hx hb dX7_clear_16 (by decide) ?_
  refine va_put (D := D) (ci := 7) (v := .int 0) (ty := tyX7 8) (fs := (xfNotes ad V5 L Z)) (C := RX7) (T := TX7) (N := 10) hx hb hg inX7 tyX7 tyX7_ok nmX7 hown hK hP hD hS 4 xgNotes rfl 8 (by decide) (hg _ w443) (fun _ h9 => h9) rfl (tyX7_ok 8 (by decide)) rfl rfl (Nat.le_of_ble_eq_true rfl) dX7_clear_17 (fun H locs hP hD hS => ?_)
  obtain ⟨V7, hV7⟩ : ∃ z, z = up2 V5 4 8 0 := ⟨_, rfl⟩
  have ew8 : (xw ad kk V5 L Z).set 4 ((ad 4), .inr (7, (xfNotes ad V5 L Z).set 8 (.int 0))) = xw ad kk V7 L Z := by rw [hV7]; exact xw_ss (by decide) rfl (xb_si (by decide))
  have hP : va_P D vwCl (xw ad kk V7 L Z) H := by rw [← ew8]; exact hP
  have hD : va_D A (xw ad kk V7 L Z) := by rw [← ew8]; exact hD
  have hMV7 : rgd bX V7 := hMV5.put hV7 (i_full _)
  have agV7 : agr [(4, 5), (4, 6), (4, 7), (4, 8)] [] V V7 := agV5.up hV7 rfl
  exact W.vret hx hb hr (fun t ht hW => ⟨⟨(V7, L), rfl, ⟨hMV7, agV7, rfl⟩, by rw [ht]; exact hP, va_K.moved hW.alike hK, hD⟩, hS.F ht⟩) hS.2.2 dX7_clear_20
abbrev r_x_NforgetThings : Room := { frames := 0, cells := 0, slots := 0, locals := 0 }
abbrev q_x_NforgetThings (D : va_G) (ks : KS) (ad : Nat → Nat) (kk : Nat → ClassId) (V : Vf) (L : Lf) (Z : XZ) (A : Nat → Prop) : Array Value → State → Outcome → State → Prop := va_Qv (fun (u : Vf × Lf) => rgd bX u.1 ∧ agr [(4, 5)] [] V u.1 ∧ u.2 = L) (fun u t => gq D A (xw ad kk u.1 u.2 Z) (xty kk Z) t) A
set_option maxHeartbeats 4000000 in
set_option maxRecDepth 100000 in
theorem x_NforgetThings (l : Launch) (D : va_G) (ks : KS) (sz : Nat) (ad : Nat → Nat) (kk : Nat → ClassId) (V : Vf) (L : Lf) (Z : XZ)  (hMV : rgd bX V)  : Met l yX7_forgetThings (Cond.code yX7_forgetThings cX7_forgetThings 1 none :: GW) r_x_NforgetThings (va_Pc [.ref (ad 4)] (gp D ks (xw ad kk V L Z) (xty kk Z) sz)) (q_x_NforgetThings D ks ad kk V L Z  (va_A (xw ad kk V L Z) sz)) 0 0 (va_A (xw ad kk V L Z) sz) := by
  refine g_met (q_x_NforgetThings D ks ad kk V L Z) (by decide) (Nat.le_of_ble_eq_true rfl) ?_
  intro p e s m below meth c A ls H locs hx hb hr hml hown hg hlocks hin hnw hgk hP hK hD hS hA hl
  have hown : s.vm.findClass RX7 = some m.cls := hown
  have hl : lv_has ls 1 [(0, .ref (ad 4))] := hl
  have hP : va_P D vwCl (xw ad kk V L Z) H := hP
  have hD : va_D A (xw ad kk V L Z) := hD
  have hK : va_K D vwCl (xty kk Z) s := hK
  have agV : agr [(4, 5)] [] V V := agr.rf
  refine lv_aload_n hx hb dX7_forgetThings_0 rfl (lv_at hl 0 rfl) ?_
  refine lv_iconst (v := 0) hx hb dX7_forgetThings_1 (by decide) ?_
  refine va_put (D := D) (ci := 7) (v := .int 0) (ty := tyX7 5) (fs := (xfNotes ad V L Z)) (C := RX7) (T := TX7) (N := 10) hx hb hg inX7 tyX7 tyX7_ok nmX7 hown hK hP hD hS 4 xgNotes rfl 5 (by decide) (hg _ w440) (fun _ h9 => h9) rfl (tyX7_ok 5 (by decide)) rfl rfl (Nat.le_of_ble_eq_true rfl) dX7_forgetThings_2 (fun H locs hP hD hS => ?_)
  obtain ⟨V1, hV1⟩ : ∃ z, z = up2 V 4 5 0 := ⟨_, rfl⟩
  have ew2 : (xw ad kk V L Z).set 4 ((ad 4), .inr (7, (xfNotes ad V L Z).set 5 (.int 0))) = xw ad kk V1 L Z := by rw [hV1]; exact xw_ss (by decide) rfl (xb_si (by decide))
  have hP : va_P D vwCl (xw ad kk V1 L Z) H := by rw [← ew2]; exact hP
  have hD : va_D A (xw ad kk V1 L Z) := by rw [← ew2]; exact hD
  have hMV1 : rgd bX V1 := hMV.put hV1 (by decide)
  have agV1 : agr [(4, 5)] [] V V1 := agV.up hV1 rfl
  exact W.vret hx hb hr (fun t ht hW => ⟨⟨(V1, L), rfl, ⟨hMV1, agV1, rfl⟩, by rw [ht]; exact hP, va_K.moved hW.alike hK, hD⟩, hS.F ht⟩) hS.2.2 dX7_forgetThings_5
abbrev r_x_NnoteThing : Room := { frames := 0, cells := 0, slots := 0, locals := 0 }
abbrev q_x_NnoteThing (D : va_G) (ks : KS) (ad : Nat → Nat) (kk : Nat → ClassId) (V : Vf) (L : Lf) (Z : XZ) (p0 : Int32) (p1 : Int32) (p2 : Int32) (A : Nat → Prop) : Array Value → State → Outcome → State → Prop := va_Qv (fun (u : Vf × Lf) => rgd bX u.1 ∧ agr [(4, 5)] [33, 34, 35] V u.1 ∧ u.2 = L) (fun u t => gq D A (xw ad kk u.1 u.2 Z) (xty kk Z) t) A
set_option maxHeartbeats 4000000 in
set_option maxRecDepth 100000 in
theorem x_NnoteThing (l : Launch) (D : va_G) (ks : KS) (sz : Nat) (ad : Nat → Nat) (kk : Nat → ClassId) (V : Vf) (L : Lf) (Z : XZ) (p0 : Int32) (p1 : Int32) (p2 : Int32) (hMV : rgd bX V)  : Met l yX7_noteThing (Cond.code yX7_noteThing cX7_noteThing 4 none :: GW) r_x_NnoteThing (va_Pc [.ref (ad 4), .int p0, .int p1, .int p2] (gp D ks (xw ad kk V L Z) (xty kk Z) sz)) (q_x_NnoteThing D ks ad kk V L Z p0 p1 p2 (va_A (xw ad kk V L Z) sz)) 0 0 (va_A (xw ad kk V L Z) sz) := by
  refine g_met (q_x_NnoteThing D ks ad kk V L Z p0 p1 p2) (by decide) (Nat.le_of_ble_eq_true rfl) ?_
  intro p e s m below meth c A ls H locs hx hb hr hml hown hg hlocks hin hnw hgk hP hK hD hS hA hl
  have hown : s.vm.findClass RX7 = some m.cls := hown
  have hl : lv_has ls 4 [(0, .ref (ad 4)), (1, .int p0), (2, .int p1), (3, .int p2)] := hl
  have hP : va_P D vwCl (xw ad kk V L Z) H := hP
  have hD : va_D A (xw ad kk V L Z) := hD
  have hK : va_K D vwCl (xty kk Z) s := hK
  have agV : agr [(4, 5)] [33, 34, 35] V V := agr.rf
  refine lv_aload_n hx hb dX7_noteThing_0 rfl (lv_at hl 0 rfl) ?_
  refine va_get (D := D) (ci := 7) (v := .int (V 4 9)) (fs := (xfNotes ad V L Z)) (C := RX7) (T := TX7) (N := 10) hx hb hg inX7 hown hK hP 4 xgNotes rfl 9 (by decide) (hg _ w444) (fun _ h9 => h9) rfl dX7_noteThing_1 ?_
  have r1 : 0 ≤ ((V 4 9)).toInt ∧ ((V 4 9)).toInt ≤ 1 := hMV 4 9
  refine lv_if_eq (tgt := 56) hx hb dX7_noteThing_4 (by decide) (fun c2 => ?_) (fun c2 => ?_)
  · skip
    have f3 : ((V 4 9)).toInt = 0 := b_eq rfl (by decide) c2
    exact W.vret hx hb hr (fun t ht hW => ⟨⟨(V, L), rfl, ⟨hMV, agV, rfl⟩, by rw [ht]; exact hP, va_K.moved hW.alike hK, hD⟩, hS.F ht⟩) hS.2.2 dX7_noteThing_56
  · skip
    have f4 : ((V 4 9)).toInt ≠ 0 := b_neq rfl (by decide) c2
    refine lv_aload_n hx hb dX7_noteThing_7 rfl (lv_at hl 0 rfl) ?_
    refine va_get (D := D) (ci := 7) (v := .int (V 4 5)) (fs := (xfNotes ad V L Z)) (C := RX7) (T := TX7) (N := 10) hx hb hg inX7 hown hK hP 4 xgNotes rfl 5 (by decide) (hg _ w440) (fun _ h9 => h9) rfl dX7_noteThing_8 ?_
    have r5 : 0 ≤ ((V 4 5)).toInt ∧ ((V 4 5)).toInt ≤ 100 := hMV 4 5
    refine lv_bipush (v := 100) hx hb dX7_noteThing_11 (by decide) ?_
    refine lv_icmp_ge (tgt := 56) hx hb dX7_noteThing_13 (by decide) (fun c6 => ?_) (fun c6 => ?_)
    · skip
      have f7 : 100 ≤ ((V 4 5)).toInt := b_le (by decide) rfl c6
      exact W.vret hx hb hr (fun t ht hW => ⟨⟨(V, L), rfl, ⟨hMV, agV, rfl⟩, by rw [ht]; exact hP, va_K.moved hW.alike hK, hD⟩, hS.F ht⟩) hS.2.2 dX7_noteThing_56
    · skip
      have f8 : ((V 4 5)).toInt < 100 := b_nle (by decide) rfl c6
      refine lv_aload_n hx hb dX7_noteThing_16 rfl (lv_at hl 0 rfl) ?_
      refine va_get (D := D) (ci := 7) (v := .ref (ad 30)) (fs := (xfNotes ad V L Z)) (C := RX7) (T := TX7) (N := 10) hx hb hg inX7 hown hK hP 4 xgNotes rfl 0 (by decide) (hg _ w435) (fun _ h9 => h9) rfl dX7_noteThing_17 ?_
      refine lv_aload_n hx hb dX7_noteThing_20 rfl (lv_at hl 0 rfl) ?_
      refine va_get (D := D) (ci := 7) (v := .int (V 4 5)) (fs := (xfNotes ad V L Z)) (C := RX7) (T := TX7) (N := 10) hx hb hg inX7 hown hK hP 4 xgNotes rfl 5 (by decide) (hg _ w440) (fun _ h9 => h9) rfl dX7_noteThing_21 ?_
      refine lv_iload_n hx hb dX7_noteThing_24 rfl (lv_at hl 1 rfl) ?_
      refine va_iast (D := D) (i := (V 4 5)) (x := p0) hx hb hK hP hD hS 30 23 rfl rfl (i_in (a := ((V 4 5)).toInt) rfl (by (first | exact om_84fa328245f5 r5.1 f8 | omega))) dX7_noteThing_25 (fun H locs hP hD hS => ?_)
      obtain ⟨V9, hV9⟩ : ∃ z, z = up2 V 33 (Int32.toNatClampNeg (V 4 5)) p0 := ⟨_, rfl⟩
      have ew10 : (xw ad kk V L Z).set 30 ((ad 30), .inl ((kk 30), 100, .inl (upd (V 33) (Int32.toNatClampNeg (V 4 5)) p0))) = xw ad kk V9 L Z := by rw [hV9]; exact xw_ss (by decide) rfl (xb_si (by decide))
      have hP : va_P D vwCl (xw ad kk V9 L Z) H := by rw [← ew10]; exact hP
      have hD : va_D A (xw ad kk V9 L Z) := by rw [← ew10]; exact hD
      have hMV9 : rgd bX V9 := hMV.put hV9 (i_full _)
      have agV9 : agr [(4, 5)] [33, 34, 35] V V9 := agV.up hV9 rfl
      refine lv_aload_n hx hb dX7_noteThing_26 rfl (lv_at hl 0 rfl) ?_
      refine va_get (D := D) (ci := 7) (v := .ref (ad 31)) (fs := (xfNotes ad V9 L Z)) (C := RX7) (T := TX7) (N := 10) hx hb hg inX7 hown hK hP 4 xgNotes rfl 1 (by decide) (hg _ w436) (fun _ h9 => h9) rfl dX7_noteThing_27 ?_
      refine lv_aload_n hx hb dX7_noteThing_30 rfl (lv_at hl 0 rfl) ?_
      refine va_get (D := D) (ci := 7) (v := .int (V9 4 5)) (fs := (xfNotes ad V9 L Z)) (C := RX7) (T := TX7) (N := 10) hx hb hg inX7 hown hK hP 4 xgNotes rfl 5 (by decide) (hg _ w440) (fun _ h9 => h9) rfl dX7_noteThing_31 ?_
      refine g_top (v := (V 4 5)) (up2_o hV9 (by decide)) ?_
      refine lv_iload_n hx hb dX7_noteThing_34 rfl (lv_at hl 2 rfl) ?_
      refine va_iast (D := D) (i := (V 4 5)) (x := p1) hx hb hK hP hD hS 31 24 rfl rfl (i_in (a := ((V 4 5)).toInt) rfl (by (first | exact om_84fa328245f5 r5.1 f8 | omega))) dX7_noteThing_35 (fun H locs hP hD hS => ?_)
      obtain ⟨V11, hV11⟩ : ∃ z, z = up2 V9 34 (Int32.toNatClampNeg (V 4 5)) p1 := ⟨_, rfl⟩
      have ew12 : (xw ad kk V9 L Z).set 31 ((ad 31), .inl ((kk 31), 100, .inl (upd (V9 34) (Int32.toNatClampNeg (V 4 5)) p1))) = xw ad kk V11 L Z := by rw [hV11]; exact xw_ss (by decide) rfl (xb_si (by decide))
      have hP : va_P D vwCl (xw ad kk V11 L Z) H := by rw [← ew12]; exact hP
      have hD : va_D A (xw ad kk V11 L Z) := by rw [← ew12]; exact hD
      have hMV11 : rgd bX V11 := hMV9.put hV11 (i_full _)
      have agV11 : agr [(4, 5)] [33, 34, 35] V V11 := agV9.up hV11 rfl
      refine lv_aload_n hx hb dX7_noteThing_36 rfl (lv_at hl 0 rfl) ?_
      refine va_get (D := D) (ci := 7) (v := .ref (ad 32)) (fs := (xfNotes ad V11 L Z)) (C := RX7) (T := TX7) (N := 10) hx hb hg inX7 hown hK hP 4 xgNotes rfl 2 (by decide) (hg _ w437) (fun _ h9 => h9) rfl dX7_noteThing_37 ?_
      refine lv_aload_n hx hb dX7_noteThing_40 rfl (lv_at hl 0 rfl) ?_
      refine va_get (D := D) (ci := 7) (v := .int (V11 4 5)) (fs := (xfNotes ad V11 L Z)) (C := RX7) (T := TX7) (N := 10) hx hb hg inX7 hown hK hP 4 xgNotes rfl 5 (by decide) (hg _ w440) (fun _ h9 => h9) rfl dX7_noteThing_41 ?_
      refine g_top (v := (V 4 5)) ((up2_o hV11 (by decide)).trans (up2_o hV9 (by decide))) ?_
      refine lv_iload_n hx hb dX7_noteThing_44 rfl (lv_at hl 3 rfl) ?_
      refine va_iast (D := D) (i := (V 4 5)) (x := p2) hx hb hK hP hD hS 32 25 rfl rfl (i_in (a := ((V 4 5)).toInt) rfl (by (first | exact om_84fa328245f5 r5.1 f8 | omega))) dX7_noteThing_45 (fun H locs hP hD hS => ?_)
      obtain ⟨V13, hV13⟩ : ∃ z, z = up2 V11 35 (Int32.toNatClampNeg (V 4 5)) p2 := ⟨_, rfl⟩
      have ew14 : (xw ad kk V11 L Z).set 32 ((ad 32), .inl ((kk 32), 100, .inl (upd (V11 35) (Int32.toNatClampNeg (V 4 5)) p2))) = xw ad kk V13 L Z := by rw [hV13]; exact xw_ss (by decide) rfl (xb_si (by decide))
      have hP : va_P D vwCl (xw ad kk V13 L Z) H := by rw [← ew14]; exact hP
      have hD : va_D A (xw ad kk V13 L Z) := by rw [← ew14]; exact hD
      have hMV13 : rgd bX V13 := hMV11.put hV13 (i_full _)
      have agV13 : agr [(4, 5)] [33, 34, 35] V V13 := agV11.up hV13 rfl
      refine lv_aload_n hx hb dX7_noteThing_46 rfl (lv_at hl 0 rfl) ?_
      refine lv_dup hx hb dX7_noteThing_47 rfl ?_
      refine va_get (D := D) (ci := 7) (v := .int (V13 4 5)) (fs := (xfNotes ad V13 L Z)) (C := RX7) (T := TX7) (N := 10) hx hb hg inX7 hown hK hP 4 xgNotes rfl 5 (by decide) (hg _ w440) (fun _ h9 => h9) rfl dX7_noteThing_48 ?_
      refine g_top (v := (V 4 5)) ((up2_o hV13 (by decide)).trans ((up2_o hV11 (by decide)).trans (up2_o hV9 (by decide)))) ?_
      refine lv_iconst (v := 1) hx hb dX7_noteThing_51 (by decide) ?_
      refine lv_iadd hx hb dX7_noteThing_52 ?_
      refine lv_topi (fun z15 ez15 => ?_)
      have hz15 : z15.toInt = ((V 4 5)).toInt + 1 := i_add ez15 rfl (by decide) (by (first | exact om_607e1c2a08b1 r5.1 f8 | omega))
      refine va_put (D := D) (ci := 7) (v := .int z15) (ty := tyX7 5) (fs := (xfNotes ad V13 L Z)) (C := RX7) (T := TX7) (N := 10) hx hb hg inX7 tyX7 tyX7_ok nmX7 hown hK hP hD hS 4 xgNotes rfl 5 (by decide) (hg _ w440) (fun _ h9 => h9) rfl (tyX7_ok 5 (by decide)) rfl rfl (Nat.le_of_ble_eq_true rfl) dX7_noteThing_53 (fun H locs hP hD hS => ?_)
      obtain ⟨V16, hV16⟩ : ∃ z, z = up2 V13 4 5 z15 := ⟨_, rfl⟩
      have ew17 : (xw ad kk V13 L Z).set 4 ((ad 4), .inr (7, (xfNotes ad V13 L Z).set 5 (.int z15))) = xw ad kk V16 L Z := by rw [hV16]; exact xw_ss (by decide) rfl (xb_si (by decide))
      have hP : va_P D vwCl (xw ad kk V16 L Z) H := by rw [← ew17]; exact hP
      have hD : va_D A (xw ad kk V16 L Z) := by rw [← ew17]; exact hD
      have hMV16 : rgd bX V16 := hMV13.put hV16 (show 0 ≤ z15.toInt ∧ z15.toInt ≤ 100 from by (first | exact om_739bffcf43dc r5.1 f8 hz15 | omega))
      have agV16 : agr [(4, 5)] [33, 34, 35] V V16 := agV13.up hV16 rfl
      exact W.vret hx hb hr (fun t ht hW => ⟨⟨(V16, L), rfl, ⟨hMV16, agV16, rfl⟩, by rw [ht]; exact hP, va_K.moved hW.alike hK, hD⟩, hS.F ht⟩) hS.2.2 dX7_noteThing_56
abbrev r_x_NofThing : Room := { frames := 0, cells := 0, slots := 0, locals := 0 }
abbrev q_x_NofThing (D : va_G) (ks : KS) (ad : Nat → Nat) (kk : Nat → ClassId) (V : Vf) (L : Lf) (Z : XZ) (p0 : Int32) (p1 : Int32) (A : Nat → Prop) : Array Value → State → Outcome → State → Prop := va_Qi (fun (r : Int32) (_ : Unit) => True) (fun _ t => gq D A (xw ad kk V L Z) (xty kk Z) t) A
set_option maxHeartbeats 4000000 in
set_option maxRecDepth 100000 in
theorem x_NofThing (l : Launch) (D : va_G) (ks : KS) (sz : Nat) (ad : Nat → Nat) (kk : Nat → ClassId) (V : Vf) (L : Lf) (Z : XZ) (p0 : Int32) (p1 : Int32) (hMV : rgd bX V)  : Met l yX7_ofThing (Cond.code yX7_ofThing cX7_ofThing 3 (some .int) :: GW) r_x_NofThing (va_Pc [.ref (ad 4), .int p0, .int p1] (gp D ks (xw ad kk V L Z) (xty kk Z) sz)) (q_x_NofThing D ks ad kk V L Z p0 p1 (va_A (xw ad kk V L Z) sz)) 0 0 (va_A (xw ad kk V L Z) sz) := by
  refine g_met (q_x_NofThing D ks ad kk V L Z p0 p1) (by decide) (Nat.le_of_ble_eq_true rfl) ?_
  intro p e s m below meth c A ls H locs hx hb hr hml hown hg hlocks hin hnw hgk hP hK hD hS hA hl
  have hown : s.vm.findClass RX7 = some m.cls := hown
  have hl : lv_has ls 3 [(0, .ref (ad 4)), (1, .int p0), (2, .int p1)] := hl
  have hP : va_P D vwCl (xw ad kk V L Z) H := hP
  have hD : va_D A (xw ad kk V L Z) := hD
  have hK : va_K D vwCl (xty kk Z) s := hK
  refine lv_iload_n hx hb dX7_ofThing_0 rfl (lv_at hl 1 rfl) ?_
  refine lv_if_lt (tgt := 12) hx hb dX7_ofThing_1 (by decide) (fun c1 => ?_) (fun c1 => ?_)
  · skip
    have f2 : p0.toInt < 0 := b_lt rfl (by decide) c1
    refine lv_iconst (v := (-1)) hx hb dX7_ofThing_12 (by decide) ?_
    exact W.iret (v := (-1)) hx hb hr (fun t ht hW => ⟨⟨(-1), (), rfl, trivial, by rw [ht]; exact hP, va_K.moved hW.alike hK, hD⟩, hS.F ht⟩) hS.2.2 dX7_ofThing_13
  · skip
    have f3 : 0 ≤ p0.toInt := b_nlt rfl (by decide) c1
    refine lv_iload_n hx hb dX7_ofThing_4 rfl (lv_at hl 1 rfl) ?_
    refine lv_aload_n hx hb dX7_ofThing_5 rfl (lv_at hl 0 rfl) ?_
    refine va_get (D := D) (ci := 7) (v := .int (V 4 5)) (fs := (xfNotes ad V L Z)) (C := RX7) (T := TX7) (N := 10) hx hb hg inX7 hown hK hP 4 xgNotes rfl 5 (by decide) (hg _ w440) (fun _ h9 => h9) rfl dX7_ofThing_6 ?_
    have r4 : 0 ≤ ((V 4 5)).toInt ∧ ((V 4 5)).toInt ≤ 100 := hMV 4 5
    refine lv_icmp_lt (tgt := 14) hx hb dX7_ofThing_9 (by decide) (fun c5 => ?_) (fun c5 => ?_)
    · skip
      have f6 : p0.toInt < ((V 4 5)).toInt := b_lt rfl rfl c5
      refine lv_iload_n hx hb dX7_ofThing_14 rfl (lv_at hl 2 rfl) ?_
      by_cases q7 : p1 = 0
      · refine g_top (v := 0) q7 ?_
        have fq7 : p1.toInt = 0 := b_eq rfl (by decide) q7
        refine lv_tableIn (x := 0) (off := 25) (tgt := 40) hx hb dX7_ofThing_15 (by decide) (by decide) (by decide) (by decide) ?_
        refine lv_aload_n hx hb dX7_ofThing_40 rfl (lv_at hl 0 rfl) ?_
        refine va_get (D := D) (ci := 7) (v := .ref (ad 30)) (fs := (xfNotes ad V L Z)) (C := RX7) (T := TX7) (N := 10) hx hb hg inX7 hown hK hP 4 xgNotes rfl 0 (by decide) (hg _ w435) (fun _ h9 => h9) rfl dX7_ofThing_41 ?_
        refine lv_iload_n hx hb dX7_ofThing_44 rfl (lv_at hl 1 rfl) ?_
        refine va_iald (D := D) (i := p0) hx hb hK hP 30 23 rfl rfl (i_in (a := p0.toInt) rfl (by (first | exact om_33f4a035a899 f3 r4.2 f6 | omega))) dX7_ofThing_45 ?_
        exact W.iret (v := (V 33 (Int32.toNatClampNeg p0))) hx hb hr (fun t ht hW => ⟨⟨(V 33 (Int32.toNatClampNeg p0)), (), rfl, trivial, by rw [ht]; exact hP, va_K.moved hW.alike hK, hD⟩, hS.F ht⟩) hS.2.2 dX7_ofThing_46
      by_cases q8 : p1 = 1
      · refine g_top (v := 1) q8 ?_
        have fq8 : p1.toInt = 1 := b_eq rfl (by decide) q8
        refine lv_tableIn (x := 1) (off := 32) (tgt := 47) hx hb dX7_ofThing_15 (by decide) (by decide) (by decide) (by decide) ?_
        refine lv_aload_n hx hb dX7_ofThing_47 rfl (lv_at hl 0 rfl) ?_
        refine va_get (D := D) (ci := 7) (v := .ref (ad 31)) (fs := (xfNotes ad V L Z)) (C := RX7) (T := TX7) (N := 10) hx hb hg inX7 hown hK hP 4 xgNotes rfl 1 (by decide) (hg _ w436) (fun _ h9 => h9) rfl dX7_ofThing_48 ?_
        refine lv_iload_n hx hb dX7_ofThing_51 rfl (lv_at hl 1 rfl) ?_
        refine va_iald (D := D) (i := p0) hx hb hK hP 31 24 rfl rfl (i_in (a := p0.toInt) rfl (by (first | exact om_33f4a035a899 f3 r4.2 f6 | omega))) dX7_ofThing_52 ?_
        exact W.iret (v := (V 34 (Int32.toNatClampNeg p0))) hx hb hr (fun t ht hW => ⟨⟨(V 34 (Int32.toNatClampNeg p0)), (), rfl, trivial, by rw [ht]; exact hP, va_K.moved hW.alike hK, hD⟩, hS.F ht⟩) hS.2.2 dX7_ofThing_53
      by_cases q9 : p1 = 2
      · refine g_top (v := 2) q9 ?_
        have fq9 : p1.toInt = 2 := b_eq rfl (by decide) q9
        refine lv_tableIn (x := 2) (off := 39) (tgt := 54) hx hb dX7_ofThing_15 (by decide) (by decide) (by decide) (by decide) ?_
        refine lv_aload_n hx hb dX7_ofThing_54 rfl (lv_at hl 0 rfl) ?_
        refine va_get (D := D) (ci := 7) (v := .ref (ad 32)) (fs := (xfNotes ad V L Z)) (C := RX7) (T := TX7) (N := 10) hx hb hg inX7 hown hK hP 4 xgNotes rfl 2 (by decide) (hg _ w437) (fun _ h9 => h9) rfl dX7_ofThing_55 ?_
        refine lv_iload_n hx hb dX7_ofThing_58 rfl (lv_at hl 1 rfl) ?_
        refine va_iald (D := D) (i := p0) hx hb hK hP 32 25 rfl rfl (i_in (a := p0.toInt) rfl (by (first | exact om_33f4a035a899 f3 r4.2 f6 | omega))) dX7_ofThing_59 ?_
        exact W.iret (v := (V 35 (Int32.toNatClampNeg p0))) hx hb hr (fun t ht hW => ⟨⟨(V 35 (Int32.toNatClampNeg p0)), (), rfl, trivial, by rw [ht]; exact hP, va_K.moved hW.alike hK, hD⟩, hS.F ht⟩) hS.2.2 dX7_ofThing_60
      refine lv_tableOut (x := p1) (tgt := 61) hx hb dX7_ofThing_15 (tab_out p1 2 (by decide) (fun k hk => match k, hk with | 0, _ => q7 | 1, _ => q8 | 2, _ => q9 | k + 3, hk => absurd hk (by omega))) (by decide) ?_
      refine lv_iconst (v := (-1)) hx hb dX7_ofThing_61 (by decide) ?_
      exact W.iret (v := (-1)) hx hb hr (fun t ht hW => ⟨⟨(-1), (), rfl, trivial, by rw [ht]; exact hP, va_K.moved hW.alike hK, hD⟩, hS.F ht⟩) hS.2.2 dX7_ofThing_62
    · skip
      have f10 : ((V 4 5)).toInt ≤ p0.toInt := b_nlt rfl rfl c5
      refine lv_iconst (v := (-1)) hx hb dX7_ofThing_12 (by decide) ?_
      exact W.iret (v := (-1)) hx hb hr (fun t ht hW => ⟨⟨(-1), (), rfl, trivial, by rw [ht]; exact hP, va_K.moved hW.alike hK, hD⟩, hS.F ht⟩) hS.2.2 dX7_ofThing_13
abbrev r_x_NnoteClosing : Room := { frames := 0, cells := 0, slots := 0, locals := 0 }
abbrev q_x_NnoteClosing (D : va_G) (ks : KS) (ad : Nat → Nat) (kk : Nat → ClassId) (V : Vf) (L : Lf) (Z : XZ) (p0 : Int32) (p1 : Int32) (A : Nat → Prop) : Array Value → State → Outcome → State → Prop := va_Qv (fun (u : Vf × Lf) => rgd bX u.1 ∧ agr [(4, 6)] [36, 37] V u.1 ∧ u.2 = L) (fun u t => gq D A (xw ad kk u.1 u.2 Z) (xty kk Z) t) A
set_option maxHeartbeats 4000000 in
set_option maxRecDepth 100000 in
theorem x_NnoteClosing (l : Launch) (D : va_G) (ks : KS) (sz : Nat) (ad : Nat → Nat) (kk : Nat → ClassId) (V : Vf) (L : Lf) (Z : XZ) (p0 : Int32) (p1 : Int32) (hMV : rgd bX V)  : Met l yX7_noteClosing (Cond.code yX7_noteClosing cX7_noteClosing 3 none :: GW) r_x_NnoteClosing (va_Pc [.ref (ad 4), .int p0, .int p1] (gp D ks (xw ad kk V L Z) (xty kk Z) sz)) (q_x_NnoteClosing D ks ad kk V L Z p0 p1 (va_A (xw ad kk V L Z) sz)) 0 0 (va_A (xw ad kk V L Z) sz) := by
  refine g_met (q_x_NnoteClosing D ks ad kk V L Z p0 p1) (by decide) (Nat.le_of_ble_eq_true rfl) ?_
  intro p e s m below meth c A ls H locs hx hb hr hml hown hg hlocks hin hnw hgk hP hK hD hS hA hl
  have hown : s.vm.findClass RX7 = some m.cls := hown
  have hl : lv_has ls 3 [(0, .ref (ad 4)), (1, .int p0), (2, .int p1)] := hl
  have hP : va_P D vwCl (xw ad kk V L Z) H := hP
  have hD : va_D A (xw ad kk V L Z) := hD
  have hK : va_K D vwCl (xty kk Z) s := hK
  have agV : agr [(4, 6)] [36, 37] V V := agr.rf
  refine lv_aload_n hx hb dX7_noteClosing_0 rfl (lv_at hl 0 rfl) ?_
  refine va_get (D := D) (ci := 7) (v := .int (V 4 6)) (fs := (xfNotes ad V L Z)) (C := RX7) (T := TX7) (N := 10) hx hb hg inX7 hown hK hP 4 xgNotes rfl 6 (by decide) (hg _ w441) (fun _ h9 => h9) rfl dX7_noteClosing_1 ?_
  have r1 : 0 ≤ ((V 4 6)).toInt ∧ ((V 4 6)).toInt ≤ 300 := hMV 4 6
  refine lv_sipush (v := 300) hx hb dX7_noteClosing_4 (by decide) ?_
  refine lv_icmp_ge (tgt := 40) hx hb dX7_noteClosing_7 (by decide) (fun c2 => ?_) (fun c2 => ?_)
  · skip
    have f3 : 300 ≤ ((V 4 6)).toInt := b_le (by decide) rfl c2
    exact W.vret hx hb hr (fun t ht hW => ⟨⟨(V, L), rfl, ⟨hMV, agV, rfl⟩, by rw [ht]; exact hP, va_K.moved hW.alike hK, hD⟩, hS.F ht⟩) hS.2.2 dX7_noteClosing_40
  · skip
    have f4 : ((V 4 6)).toInt < 300 := b_nle (by decide) rfl c2
    refine lv_aload_n hx hb dX7_noteClosing_10 rfl (lv_at hl 0 rfl) ?_
    refine va_get (D := D) (ci := 7) (v := .ref (ad 33)) (fs := (xfNotes ad V L Z)) (C := RX7) (T := TX7) (N := 10) hx hb hg inX7 hown hK hP 4 xgNotes rfl 3 (by decide) (hg _ w438) (fun _ h9 => h9) rfl dX7_noteClosing_11 ?_
    refine lv_aload_n hx hb dX7_noteClosing_14 rfl (lv_at hl 0 rfl) ?_
    refine va_get (D := D) (ci := 7) (v := .int (V 4 6)) (fs := (xfNotes ad V L Z)) (C := RX7) (T := TX7) (N := 10) hx hb hg inX7 hown hK hP 4 xgNotes rfl 6 (by decide) (hg _ w441) (fun _ h9 => h9) rfl dX7_noteClosing_15 ?_
    refine lv_iload_n hx hb dX7_noteClosing_18 rfl (lv_at hl 1 rfl) ?_
    refine va_iast (D := D) (i := (V 4 6)) (x := p0) hx hb hK hP hD hS 33 26 rfl rfl (i_in (a := ((V 4 6)).toInt) rfl (by (first | exact om_5b0e5b7d98b0 r1.1 f4 | omega))) dX7_noteClosing_19 (fun H locs hP hD hS => ?_)
    obtain ⟨V5, hV5⟩ : ∃ z, z = up2 V 36 (Int32.toNatClampNeg (V 4 6)) p0 := ⟨_, rfl⟩
    have ew6 : (xw ad kk V L Z).set 33 ((ad 33), .inl ((kk 33), 300, .inl (upd (V 36) (Int32.toNatClampNeg (V 4 6)) p0))) = xw ad kk V5 L Z := by rw [hV5]; exact xw_ss (by decide) rfl (xb_si (by decide))
    have hP : va_P D vwCl (xw ad kk V5 L Z) H := by rw [← ew6]; exact hP
    have hD : va_D A (xw ad kk V5 L Z) := by rw [← ew6]; exact hD
    have hMV5 : rgd bX V5 := hMV.put hV5 (i_full _)
    have agV5 : agr [(4, 6)] [36, 37] V V5 := agV.up hV5 rfl
    refine lv_aload_n hx hb dX7_noteClosing_20 rfl (lv_at hl 0 rfl) ?_
    refine va_get (D := D) (ci := 7) (v := .ref (ad 34)) (fs := (xfNotes ad V5 L Z)) (C := RX7) (T := TX7) (N := 10) hx hb hg inX7 hown hK hP 4 xgNotes rfl 4 (by decide) (hg _ w439) (fun _ h9 => h9) rfl dX7_noteClosing_21 ?_
    refine lv_aload_n hx hb dX7_noteClosing_24 rfl (lv_at hl 0 rfl) ?_
    refine va_get (D := D) (ci := 7) (v := .int (V5 4 6)) (fs := (xfNotes ad V5 L Z)) (C := RX7) (T := TX7) (N := 10) hx hb hg inX7 hown hK hP 4 xgNotes rfl 6 (by decide) (hg _ w441) (fun _ h9 => h9) rfl dX7_noteClosing_25 ?_
    refine g_top (v := (V 4 6)) (up2_o hV5 (by decide)) ?_
    refine lv_iload_n hx hb dX7_noteClosing_28 rfl (lv_at hl 2 rfl) ?_
    refine va_iast (D := D) (i := (V 4 6)) (x := p1) hx hb hK hP hD hS 34 27 rfl rfl (i_in (a := ((V 4 6)).toInt) rfl (by (first | exact om_5b0e5b7d98b0 r1.1 f4 | omega))) dX7_noteClosing_29 (fun H locs hP hD hS => ?_)
    obtain ⟨V7, hV7⟩ : ∃ z, z = up2 V5 37 (Int32.toNatClampNeg (V 4 6)) p1 := ⟨_, rfl⟩
    have ew8 : (xw ad kk V5 L Z).set 34 ((ad 34), .inl ((kk 34), 300, .inl (upd (V5 37) (Int32.toNatClampNeg (V 4 6)) p1))) = xw ad kk V7 L Z := by rw [hV7]; exact xw_ss (by decide) rfl (xb_si (by decide))
    have hP : va_P D vwCl (xw ad kk V7 L Z) H := by rw [← ew8]; exact hP
    have hD : va_D A (xw ad kk V7 L Z) := by rw [← ew8]; exact hD
    have hMV7 : rgd bX V7 := hMV5.put hV7 (i_full _)
    have agV7 : agr [(4, 6)] [36, 37] V V7 := agV5.up hV7 rfl
    refine lv_aload_n hx hb dX7_noteClosing_30 rfl (lv_at hl 0 rfl) ?_
    refine lv_dup hx hb dX7_noteClosing_31 rfl ?_
    refine va_get (D := D) (ci := 7) (v := .int (V7 4 6)) (fs := (xfNotes ad V7 L Z)) (C := RX7) (T := TX7) (N := 10) hx hb hg inX7 hown hK hP 4 xgNotes rfl 6 (by decide) (hg _ w441) (fun _ h9 => h9) rfl dX7_noteClosing_32 ?_
    refine g_top (v := (V 4 6)) ((up2_o hV7 (by decide)).trans (up2_o hV5 (by decide))) ?_
    refine lv_iconst (v := 1) hx hb dX7_noteClosing_35 (by decide) ?_
    refine lv_iadd hx hb dX7_noteClosing_36 ?_
    refine lv_topi (fun z9 ez9 => ?_)
    have hz9 : z9.toInt = ((V 4 6)).toInt + 1 := i_add ez9 rfl (by decide) (by (first | exact om_e89c2ae064a9 r1.1 f4 | omega))
    refine va_put (D := D) (ci := 7) (v := .int z9) (ty := tyX7 6) (fs := (xfNotes ad V7 L Z)) (C := RX7) (T := TX7) (N := 10) hx hb hg inX7 tyX7 tyX7_ok nmX7 hown hK hP hD hS 4 xgNotes rfl 6 (by decide) (hg _ w441) (fun _ h9 => h9) rfl (tyX7_ok 6 (by decide)) rfl rfl (Nat.le_of_ble_eq_true rfl) dX7_noteClosing_37 (fun H locs hP hD hS => ?_)
    obtain ⟨V10, hV10⟩ : ∃ z, z = up2 V7 4 6 z9 := ⟨_, rfl⟩
    have ew11 : (xw ad kk V7 L Z).set 4 ((ad 4), .inr (7, (xfNotes ad V7 L Z).set 6 (.int z9))) = xw ad kk V10 L Z := by rw [hV10]; exact xw_ss (by decide) rfl (xb_si (by decide))
    have hP : va_P D vwCl (xw ad kk V10 L Z) H := by rw [← ew11]; exact hP
    have hD : va_D A (xw ad kk V10 L Z) := by rw [← ew11]; exact hD
    have hMV10 : rgd bX V10 := hMV7.put hV10 (show 0 ≤ z9.toInt ∧ z9.toInt ≤ 300 from by (first | exact om_59cf3ec53513 r1.1 f4 hz9 | omega))
    have agV10 : agr [(4, 6)] [36, 37] V V10 := agV7.up hV10 rfl
    exact W.vret hx hb hr (fun t ht hW => ⟨⟨(V10, L), rfl, ⟨hMV10, agV10, rfl⟩, by rw [ht]; exact hP, va_K.moved hW.alike hK, hD⟩, hS.F ht⟩) hS.2.2 dX7_noteClosing_40
abbrev r_x_NofClosing : Room := { frames := 0, cells := 0, slots := 0, locals := 0 }
abbrev q_x_NofClosing (D : va_G) (ks : KS) (ad : Nat → Nat) (kk : Nat → ClassId) (V : Vf) (L : Lf) (Z : XZ) (p0 : Int32) (p1 : Int32) (A : Nat → Prop) : Array Value → State → Outcome → State → Prop := va_Qi (fun (r : Int32) (_ : Unit) => True) (fun _ t => gq D A (xw ad kk V L Z) (xty kk Z) t) A
abbrev r_x_NnoteCause : Room := { frames := 0, cells := 0, slots := 0, locals := 0 }
abbrev q_x_NnoteCause (D : va_G) (ks : KS) (ad : Nat → Nat) (kk : Nat → ClassId) (V : Vf) (L : Lf) (Z : XZ) (p0 : Int32) (p1 : Int32) (A : Nat → Prop) : Array Value → State → Outcome → State → Prop := va_Qv (fun (u : Vf × Lf) => rgd bX u.1 ∧ agr [(4, 7), (4, 8)] [] V u.1 ∧ u.2 = L) (fun u t => gq D A (xw ad kk u.1 u.2 Z) (xty kk Z) t) A
set_option maxHeartbeats 4000000 in
set_option maxRecDepth 100000 in
theorem x_NnoteCause (l : Launch) (D : va_G) (ks : KS) (sz : Nat) (ad : Nat → Nat) (kk : Nat → ClassId) (V : Vf) (L : Lf) (Z : XZ) (p0 : Int32) (p1 : Int32) (hMV : rgd bX V)  : Met l yX7_noteCause (Cond.code yX7_noteCause cX7_noteCause 3 none :: GW) r_x_NnoteCause (va_Pc [.ref (ad 4), .int p0, .int p1] (gp D ks (xw ad kk V L Z) (xty kk Z) sz)) (q_x_NnoteCause D ks ad kk V L Z p0 p1 (va_A (xw ad kk V L Z) sz)) 0 0 (va_A (xw ad kk V L Z) sz) := by
  refine g_met (q_x_NnoteCause D ks ad kk V L Z p0 p1) (by decide) (Nat.le_of_ble_eq_true rfl) ?_
  intro p e s m below meth c A ls H locs hx hb hr hml hown hg hlocks hin hnw hgk hP hK hD hS hA hl
  have hown : s.vm.findClass RX7 = some m.cls := hown
  have hl : lv_has ls 3 [(0, .ref (ad 4)), (1, .int p0), (2, .int p1)] := hl
  have hP : va_P D vwCl (xw ad kk V L Z) H := hP
  have hD : va_D A (xw ad kk V L Z) := hD
  have hK : va_K D vwCl (xty kk Z) s := hK
  have agV : agr [(4, 7), (4, 8)] [] V V := agr.rf
  refine lv_aload_n hx hb dX7_noteCause_0 rfl (lv_at hl 0 rfl) ?_
  refine lv_iload_n hx hb dX7_noteCause_1 rfl (lv_at hl 1 rfl) ?_
  refine va_put (D := D) (ci := 7) (v := .int p0) (ty := tyX7 7) (fs := (xfNotes ad V L Z)) (C := RX7) (T := TX7) (N := 10) hx hb hg inX7 tyX7 tyX7_ok nmX7 hown hK hP hD hS 4 xgNotes rfl 7 (by decide) (hg _ w442) (fun _ h9 => h9) rfl (tyX7_ok 7 (by decide)) rfl rfl (Nat.le_of_ble_eq_true rfl) dX7_noteCause_2 (fun H locs hP hD hS => ?_)
  obtain ⟨V1, hV1⟩ : ∃ z, z = up2 V 4 7 p0 := ⟨_, rfl⟩
  have ew2 : (xw ad kk V L Z).set 4 ((ad 4), .inr (7, (xfNotes ad V L Z).set 7 (.int p0))) = xw ad kk V1 L Z := by rw [hV1]; exact xw_ss (by decide) rfl (xb_si (by decide))
  have hP : va_P D vwCl (xw ad kk V1 L Z) H := by rw [← ew2]; exact hP
  have hD : va_D A (xw ad kk V1 L Z) := by rw [← ew2]; exact hD
  have hMV1 : rgd bX V1 := hMV.put hV1 (i_full _)
  have agV1 : agr [(4, 7), (4, 8)] [] V V1 := agV.up hV1 rfl
  refine lv_aload_n hx hb dX7_noteCause_5 rfl (lv_at hl 0 rfl) ?_
  refine lv_iload_n hx hb dX7_noteCause_6 rfl (lv_at hl 2 rfl) ?_
  refine va_put (D := D) (ci := 7) (v := .int p1) (ty := tyX7 8) (fs := (xfNotes ad V1 L Z)) (C := RX7) (T := TX7) (N := 10) hx hb hg inX7 tyX7 tyX7_ok nmX7 hown hK hP hD hS 4 xgNotes rfl 8 (by decide) (hg _ w443) (fun _ h9 => h9) rfl (tyX7_ok 8 (by decide)) rfl rfl (Nat.le_of_ble_eq_true rfl) dX7_noteCause_7 (fun H locs hP hD hS => ?_)
  obtain ⟨V3, hV3⟩ : ∃ z, z = up2 V1 4 8 p1 := ⟨_, rfl⟩
  have ew4 : (xw ad kk V1 L Z).set 4 ((ad 4), .inr (7, (xfNotes ad V1 L Z).set 8 (.int p1))) = xw ad kk V3 L Z := by rw [hV3]; exact xw_ss (by decide) rfl (xb_si (by decide))
  have hP : va_P D vwCl (xw ad kk V3 L Z) H := by rw [← ew4]; exact hP
  have hD : va_D A (xw ad kk V3 L Z) := by rw [← ew4]; exact hD
  have hMV3 : rgd bX V3 := hMV1.put hV3 (i_full _)
  have agV3 : agr [(4, 7), (4, 8)] [] V V3 := agV1.up hV3 rfl
  exact W.vret hx hb hr (fun t ht hW => ⟨⟨(V3, L), rfl, ⟨hMV3, agV3, rfl⟩, by rw [ht]; exact hP, va_K.moved hW.alike hK, hD⟩, hS.F ht⟩) hS.2.2 dX7_noteCause_10
abbrev r_x_NkindOfCause : Room := { frames := 0, cells := 0, slots := 0, locals := 0 }
abbrev q_x_NkindOfCause (D : va_G) (ks : KS) (ad : Nat → Nat) (kk : Nat → ClassId) (V : Vf) (L : Lf) (Z : XZ) (p0 : Int32) (A : Nat → Prop) : Array Value → State → Outcome → State → Prop := va_Qi (fun (r : Int32) (_ : Unit) => True) (fun _ t => gq D A (xw ad kk V L Z) (xty kk Z) t) A
end
section
/-! the links: every chain goes through links that are there -/
def SL (V : Vf) (Z : XZ) : Prop := (V 3 15).toInt ≤ (Z.ln : Int) ∧ Z.ln ≤ 262144 ∧ (∀ o k : Nat, (o : Int) < (V 3 13).toInt → k < 8 → (V 30 (8 * o + k)).toInt < (V 3 15).toInt) ∧ (∀ i : Nat, (i : Int) < (V 3 15).toInt → (V 32 i).toInt < (V 3 15).toInt)

theorem w391 : Cond.fieldLink RX8 63 "WiringHouse$Stock" "objectCount" "I" ∈ GW := gw_k tk9_1 236 (by decide +kernel) rfl
theorem w390 : Cond.fieldLink RX8 55 "WiringHouse$Stock" "scopeCount" "I" ∈ GW := gw_k tk9_1 235 (by decide +kernel) rfl
theorem w376 : Cond.fieldLink RX8 18 "WiringHouse$Stock" "isOpened" "[Z" ∈ GW := gw_k tk9_1 221 (by decide +kernel) rfl
theorem w373 : Cond.fieldLink RX8 9 "WiringHouse$Stock" "scopeKinds" "[I" ∈ GW := gw_k tk9_1 218 (by decide +kernel) rfl
theorem w375 : Cond.fieldLink RX8 15 "WiringHouse$Stock" "days" "[I" ∈ GW := gw_k tk9_1 220 (by decide +kernel) rfl
theorem w1531 : Cond.code yX8_latestOpen cX8_latestOpen 4 (some .int) ∈ GW := gw_k tk9_6 176 (rfl) rfl
theorem w1528 : Cond.methodLink RX8 72 yX8_latestOpen ∈ GW := gw_k tk9_6 173 (by decide +kernel) rfl
theorem w164 : Cond.initialized RX8 ∈ GW := gw_k tk9_1 9 (by decide +kernel) rfl
theorem w1530 : Cond.instanceMethod yX8_latestOpen ∈ GW := gw_k tk9_6 175 (by decide +kernel) rfl
theorem w79 : Cond.selects RX8 yX8_latestOpen yX8_latestOpen ∈ GW := gw_mem 79 (by decide +kernel) rfl
theorem hdV_yX8_latestOpen : yX8_latestOpen.cls = RX8 ∧ yX8_latestOpen.cls ≠ "java/lang/invoke/MethodHandle" ∧ yX8_latestOpen.cls ≠ "java/lang/invoke/VarHandle" ∧ (parseMethodDescriptor yX8_latestOpen.desc).map (fun d => d.parameters.length) = some 2 := by decide +kernel
theorem w377 : Cond.fieldLink RX8 22 "WiringHouse$Stock" "spoils" "[I" ∈ GW := gw_k tk9_1 222 (by decide +kernel) rfl
theorem w1303 : Cond.code yX8_has cX8_has 2 (some .boolean) ∈ GW := gw_k tk9_5 188 (rfl) rfl
theorem w1300 : Cond.methodLink RX8 76 yX8_has ∈ GW := gw_k tk9_5 185 (by decide +kernel) rfl
theorem w1301 : Cond.instanceMethod yX8_has ∈ GW := gw_k tk9_5 186 (by decide +kernel) rfl
theorem w1302 : Cond.selects RX8 yX8_has yX8_has ∈ GW := gw_k tk9_5 187 (by decide +kernel) rfl
theorem hdV_yX8_has : yX8_has.cls = RX8 ∧ yX8_has.cls ≠ "java/lang/invoke/MethodHandle" ∧ yX8_has.cls ≠ "java/lang/invoke/VarHandle" ∧ (parseMethodDescriptor yX8_has.desc).map (fun d => d.parameters.length) = some 1 := by decide +kernel
theorem w384 : Cond.fieldLink RX8 34 "WiringHouse$Stock" "states" "[I" ∈ GW := gw_k tk9_1 229 (by decide +kernel) rfl
theorem w379 : Cond.fieldLink RX8 28 "WiringHouse$Stock" "components" "[I" ∈ GW := gw_k tk9_1 224 (by decide +kernel) rfl
theorem w378 : Cond.fieldLink RX8 25 "WiringHouse$Stock" "present" "[I" ∈ GW := gw_k tk9_1 223 (by decide +kernel) rfl
theorem w386 : Cond.fieldLink RX8 37 "WiringHouse$Stock" "ends" "[I" ∈ GW := gw_k tk9_1 231 (by decide +kernel) rfl
theorem w393 : Cond.fieldLink RX8 66 "WiringHouse$Stock" "endCount" "I" ∈ GW := gw_k tk9_1 238 (by decide +kernel) rfl
theorem w381 : Cond.fieldLink RX8 31 "WiringHouse$Stock" "places" "[I" ∈ GW := gw_k tk9_1 226 (by decide +kernel) rfl
theorem w387 : Cond.fieldLink RX8 40 "WiringHouse$Stock" "chains" "[I" ∈ GW := gw_k tk9_1 232 (by decide +kernel) rfl
theorem w388 : Cond.fieldLink RX8 43 "WiringHouse$Stock" "links" "[I" ∈ GW := gw_k tk9_1 233 (by decide +kernel) rfl
theorem w389 : Cond.fieldLink RX8 46 "WiringHouse$Stock" "nextLinks" "[I" ∈ GW := gw_k tk9_1 234 (by decide +kernel) rfl
theorem w599 : Cond.fieldLink RX0 23 "WiringHouse$Book" "names" "LWiringHouse$Names;" ∈ GW := gw_k tk9_2 204 (by decide +kernel) rfl
theorem n481 : lw_tbl[481]? = some (Cond.fieldLinkNest RX0 59 "WiringHouse$Names" "size" "I" "WiringHouse") := la9 (n := 155) (i := 326) lz9 (la9 (n := 240) (i := 86) ln9_1 (lb9 (i := 86) (by decide +kernel)))
theorem w614 : Cond.fieldLink RX0 41 "WiringHouse$Book" "components" "[LWiringHouse$Component;" ∈ GW := gw_k tk9_2 219 (by decide +kernel) rfl
theorem n532 : lw_tbl[532]? = some (Cond.fieldLinkNest RX0 73 "WiringHouse$Component" "whenSetting" "I" "WiringHouse") := la9 (n := 155) (i := 377) lz9 (la9 (n := 240) (i := 137) ln9_1 (lb9 (i := 137) (by decide +kernel)))
theorem w610 : Cond.fieldLink RX0 36 "WiringHouse$Book" "settingValues" "[I" ∈ GW := gw_k tk9_2 215 (by decide +kernel) rfl
theorem n535 : lw_tbl[535]? = some (Cond.fieldLinkNest RX0 76 "WiringHouse$Component" "whenValue" "I" "WiringHouse") := la9 (n := 155) (i := 380) lz9 (la9 (n := 240) (i := 140) ln9_1 (lb9 (i := 140) (by decide +kernel)))
theorem w593 : Cond.fieldLink RX0 14 "WiringHouse$Book" "types" "LWiringHouse$Names;" ∈ GW := gw_k tk9_2 198 (by decide +kernel) rfl
theorem w883 : Cond.code yX6_find cX6_find 4 (some .int) ∈ GW := gw_k tk9_4 8 (rfl) rfl
theorem w880 : Cond.methodLink RX0 69 yX6_find ∈ GW := gw_k tk9_4 5 (by decide +kernel) rfl
theorem w168 : Cond.initialized RX6 ∈ GW := gw_k tk9_1 13 (by decide +kernel) rfl
theorem w881 : Cond.instanceMethod yX6_find ∈ GW := gw_k tk9_4 6 (by decide +kernel) rfl
theorem w882 : Cond.selects RX6 yX6_find yX6_find ∈ GW := gw_k tk9_4 7 (by decide +kernel) rfl
theorem hdV_yX6_find : yX6_find.cls = RX6 ∧ yX6_find.cls ≠ "java/lang/invoke/MethodHandle" ∧ yX6_find.cls ≠ "java/lang/invoke/VarHandle" ∧ (parseMethodDescriptor yX6_find.desc).map (fun d => d.parameters.length) = some 1 := by decide +kernel
theorem w596 : Cond.fieldLink RX0 20 "WiringHouse$Book" "settings" "LWiringHouse$Names;" ∈ GW := gw_k tk9_2 201 (by decide +kernel) rfl
theorem w603 : Cond.fieldLink RX0 26 "WiringHouse$Book" "methods" "LWiringHouse$Names;" ∈ GW := gw_k tk9_2 208 (by decide +kernel) rfl
theorem w606 : Cond.fieldLink RX0 29 "WiringHouse$Book" "words" "LWiringHouse$Names;" ∈ GW := gw_k tk9_2 211 (by decide +kernel) rfl
theorem n505 : lw_tbl[505]? = some (Cond.fieldLinkNest RX0 79 "WiringHouse$Component" "needKinds" "[I" "WiringHouse") := la9 (n := 155) (i := 350) lz9 (la9 (n := 240) (i := 110) ln9_1 (lb9 (i := 110) (by decide +kernel)))
theorem n500 : lw_tbl[500]? = some (Cond.fieldLinkNest RX0 82 "WiringHouse$Component" "needTypes" "[I" "WiringHouse") := la9 (n := 155) (i := 345) lz9 (la9 (n := 240) (i := 105) ln9_1 (lb9 (i := 105) (by decide +kernel)))
theorem n502 : lw_tbl[502]? = some (Cond.fieldLinkNest RX0 85 "WiringHouse$Component" "needWords" "[I" "WiringHouse") := la9 (n := 155) (i := 347) lz9 (la9 (n := 240) (i := 107) ln9_1 (lb9 (i := 107) (by decide +kernel)))
theorem n517 : lw_tbl[517]? = some (Cond.fieldLinkNest RX0 91 "WiringHouse$Component" "under" "I" "WiringHouse") := la9 (n := 155) (i := 362) lz9 (la9 (n := 240) (i := 122) ln9_1 (lb9 (i := 122) (by decide +kernel)))
theorem w1072 : Cond.code yX0_isThere cX0_isThere 3 (some .boolean) ∈ GW := gw_k tk9_4 197 (rfl) rfl
theorem w1085 : Cond.methodLink RX0 94 yX0_isThere ∈ GW := gw_k tk9_4 210 (by decide +kernel) rfl
theorem w167 : Cond.initialized RX0 ∈ GW := gw_k tk9_1 12 (by decide +kernel) rfl
theorem w1070 : Cond.instanceMethod yX0_isThere ∈ GW := gw_k tk9_4 195 (by decide +kernel) rfl
theorem w1071 : Cond.selects RX0 yX0_isThere yX0_isThere ∈ GW := gw_k tk9_4 196 (by decide +kernel) rfl
theorem hdV_yX0_isThere : yX0_isThere.cls = RX0 ∧ yX0_isThere.cls ≠ "java/lang/invoke/MethodHandle" ∧ yX0_isThere.cls ≠ "java/lang/invoke/VarHandle" ∧ (parseMethodDescriptor yX0_isThere.desc).map (fun d => d.parameters.length) = some 1 := by decide +kernel
theorem n529 : lw_tbl[529]? = some (Cond.fieldLinkNest RX0 98 "WiringHouse$Component" "rank" "I" "WiringHouse") := la9 (n := 155) (i := 374) lz9 (la9 (n := 240) (i := 134) ln9_1 (lb9 (i := 134) (by decide +kernel)))
theorem n525 : lw_tbl[525]? = some (Cond.fieldLinkNest RX0 88 "WiringHouse$Component" "calledWord" "I" "WiringHouse") := la9 (n := 155) (i := 370) lz9 (la9 (n := 240) (i := 130) ln9_1 (lb9 (i := 130) (by decide +kernel)))
theorem n578 : lw_tbl[578]? = some (Cond.fieldLinkNest RX0 120 "WiringHouse$Wrap" "phase" "I" "WiringHouse") := la9 (n := 155) (i := 423) lz9 (la9 (n := 240) (i := 183) ln9_1 (lb9 (i := 183) (by decide +kernel)))
theorem n576 : lw_tbl[576]? = some (Cond.fieldLinkNest RX0 114 "WiringHouse$Wrap" "method" "I" "WiringHouse") := la9 (n := 155) (i := 421) lz9 (la9 (n := 240) (i := 181) ln9_1 (lb9 (i := 181) (by decide +kernel)))
theorem n575 : lw_tbl[575]? = some (Cond.fieldLinkNest RX0 111 "WiringHouse$Wrap" "type" "I" "WiringHouse") := la9 (n := 155) (i := 420) lz9 (la9 (n := 240) (i := 180) ln9_1 (lb9 (i := 180) (by decide +kernel)))
theorem w625 : Cond.fieldLink RX0 63 "WiringHouse$Book" "wrapCount" "I" ∈ GW := gw_k tk9_2 230 (by decide +kernel) rfl
theorem w619 : Cond.fieldLink RX0 47 "WiringHouse$Book" "wraps" "[LWiringHouse$Wrap;" ∈ GW := gw_k tk9_2 224 (by decide +kernel) rfl
theorem w621 : Cond.fieldLink RX0 51 "WiringHouse$Book" "wrapOrder" "[I" ∈ GW := gw_k tk9_2 226 (by decide +kernel) rfl
theorem w1399 : Cond.code yX0_isFor cX0_isFor 5 (some .boolean) ∈ GW := gw_k tk9_6 44 (rfl) rfl
theorem w1396 : Cond.methodLink RX0 126 yX0_isFor ∈ GW := gw_k tk9_6 41 (by decide +kernel) rfl
theorem w1398 : Cond.instanceMethod yX0_isFor ∈ GW := gw_k tk9_6 43 (by decide +kernel) rfl
theorem w61 : Cond.selects RX0 yX0_isFor yX0_isFor ∈ GW := gw_mem 61 (by decide +kernel) rfl
theorem hdV_yX0_isFor : yX0_isFor.cls = RX0 ∧ yX0_isFor.cls ≠ "java/lang/invoke/MethodHandle" ∧ yX0_isFor.cls ≠ "java/lang/invoke/VarHandle" ∧ (parseMethodDescriptor yX0_isFor.desc).map (fun d => d.parameters.length) = some 4 := by decide +kernel
theorem n577 : lw_tbl[577]? = some (Cond.fieldLinkNest RX0 117 "WiringHouse$Wrap" "number" "I" "WiringHouse") := la9 (n := 155) (i := 422) lz9 (la9 (n := 240) (i := 182) ln9_1 (lb9 (i := 182) (by decide +kernel)))
theorem n580 : lw_tbl[580]? = some (Cond.fieldLinkNest RX0 123 "WiringHouse$Wrap" "start" "I" "WiringHouse") := la9 (n := 155) (i := 425) lz9 (la9 (n := 240) (i := 185) ln9_1 (lb9 (i := 185) (by decide +kernel)))
theorem w629 : Cond.fieldLink RX0 66 "WiringHouse$Book" "codeLength" "I" ∈ GW := gw_k tk9_2 234 (by decide +kernel) rfl
theorem w510 : Cond.fieldLink RX3 30 "WiringHouse$Component" "needs" "I" ∈ GW := gw_k tk9_2 115 (by decide +kernel) rfl
theorem w503 : Cond.fieldLink RX3 18 "WiringHouse$Component" "needKinds" "[I" ∈ GW := gw_k tk9_2 108 (by decide +kernel) rfl
theorem w499 : Cond.fieldLink RX3 9 "WiringHouse$Component" "needTypes" "[I" ∈ GW := gw_k tk9_2 104 (by decide +kernel) rfl
theorem w501 : Cond.fieldLink RX3 15 "WiringHouse$Component" "needWords" "[I" ∈ GW := gw_k tk9_2 106 (by decide +kernel) rfl
theorem dk9_dX8_has_0_0 : dOk cX8_has [(0, .iload_n 1, 1), (1, .ifCond .lt 15, 3), (16, .iconst 0, 1), (17, .ireturn, 1), (4, .iload_n 1, 1), (5, .aload_n 0, 1), (6, .getfield 63, 3), (9, .if_icmp .ge 7, 3), (12, .iconst 1, 1), (13, .goto 4, 3)] = true := by decide +kernel
theorem dX8_has_0 : decode cX8_has 0 = .ok (.iload_n 1, 1) := dr9 dk9_dX8_has_0_0 0 (0, .iload_n 1, 1) rfl
theorem dX8_has_1 : decode cX8_has 1 = .ok (.ifCond .lt 15, 3) := dr9 dk9_dX8_has_0_0 1 (1, .ifCond .lt 15, 3) rfl
theorem dX8_has_16 : decode cX8_has 16 = .ok (.iconst 0, 1) := dr9 dk9_dX8_has_0_0 2 (16, .iconst 0, 1) rfl
theorem dX8_has_17 : decode cX8_has 17 = .ok (.ireturn, 1) := dr9 dk9_dX8_has_0_0 3 (17, .ireturn, 1) rfl
theorem dX8_has_4 : decode cX8_has 4 = .ok (.iload_n 1, 1) := dr9 dk9_dX8_has_0_0 4 (4, .iload_n 1, 1) rfl
theorem dX8_has_5 : decode cX8_has 5 = .ok (.aload_n 0, 1) := dr9 dk9_dX8_has_0_0 5 (5, .aload_n 0, 1) rfl
theorem dX8_has_6 : decode cX8_has 6 = .ok (.getfield 63, 3) := dr9 dk9_dX8_has_0_0 6 (6, .getfield 63, 3) rfl
theorem dX8_has_9 : decode cX8_has 9 = .ok (.if_icmp .ge 7, 3) := dr9 dk9_dX8_has_0_0 7 (9, .if_icmp .ge 7, 3) rfl
theorem dX8_has_12 : decode cX8_has 12 = .ok (.iconst 1, 1) := dr9 dk9_dX8_has_0_0 8 (12, .iconst 1, 1) rfl
theorem dX8_has_13 : decode cX8_has 13 = .ok (.goto 4, 3) := dr9 dk9_dX8_has_0_0 9 (13, .goto 4, 3) rfl
theorem dk9_dX8_isOpen_0_0 : dOk cX8_isOpen [(0, .iload_n 1, 1), (1, .ifCond .lt 24, 3), (25, .iconst 0, 1), (26, .ireturn, 1), (4, .iload_n 1, 1), (5, .aload_n 0, 1), (6, .getfield 55, 3), (9, .if_icmp .ge 16, 3), (12, .aload_n 0, 1), (13, .getfield 18, 3), (16, .iload_n 1, 1), (17, .baload, 1), (18, .ifCond .eq 7, 3), (21, .iconst 1, 1), (22, .goto 4, 3)] = true := by decide +kernel
theorem dX8_isOpen_0 : decode cX8_isOpen 0 = .ok (.iload_n 1, 1) := dr9 dk9_dX8_isOpen_0_0 0 (0, .iload_n 1, 1) rfl
theorem dX8_isOpen_1 : decode cX8_isOpen 1 = .ok (.ifCond .lt 24, 3) := dr9 dk9_dX8_isOpen_0_0 1 (1, .ifCond .lt 24, 3) rfl
theorem dX8_isOpen_25 : decode cX8_isOpen 25 = .ok (.iconst 0, 1) := dr9 dk9_dX8_isOpen_0_0 2 (25, .iconst 0, 1) rfl
theorem dX8_isOpen_26 : decode cX8_isOpen 26 = .ok (.ireturn, 1) := dr9 dk9_dX8_isOpen_0_0 3 (26, .ireturn, 1) rfl
theorem dX8_isOpen_4 : decode cX8_isOpen 4 = .ok (.iload_n 1, 1) := dr9 dk9_dX8_isOpen_0_0 4 (4, .iload_n 1, 1) rfl
theorem dX8_isOpen_5 : decode cX8_isOpen 5 = .ok (.aload_n 0, 1) := dr9 dk9_dX8_isOpen_0_0 5 (5, .aload_n 0, 1) rfl
theorem dX8_isOpen_6 : decode cX8_isOpen 6 = .ok (.getfield 55, 3) := dr9 dk9_dX8_isOpen_0_0 6 (6, .getfield 55, 3) rfl
theorem dX8_isOpen_9 : decode cX8_isOpen 9 = .ok (.if_icmp .ge 16, 3) := dr9 dk9_dX8_isOpen_0_0 7 (9, .if_icmp .ge 16, 3) rfl
theorem dX8_isOpen_12 : decode cX8_isOpen 12 = .ok (.aload_n 0, 1) := dr9 dk9_dX8_isOpen_0_0 8 (12, .aload_n 0, 1) rfl
theorem dX8_isOpen_13 : decode cX8_isOpen 13 = .ok (.getfield 18, 3) := dr9 dk9_dX8_isOpen_0_0 9 (13, .getfield 18, 3) rfl
theorem dX8_isOpen_16 : decode cX8_isOpen 16 = .ok (.iload_n 1, 1) := dr9 dk9_dX8_isOpen_0_0 10 (16, .iload_n 1, 1) rfl
theorem dX8_isOpen_17 : decode cX8_isOpen 17 = .ok (.baload, 1) := dr9 dk9_dX8_isOpen_0_0 11 (17, .baload, 1) rfl
theorem dX8_isOpen_18 : decode cX8_isOpen 18 = .ok (.ifCond .eq 7, 3) := dr9 dk9_dX8_isOpen_0_0 12 (18, .ifCond .eq 7, 3) rfl
theorem dX8_isOpen_21 : decode cX8_isOpen 21 = .ok (.iconst 1, 1) := dr9 dk9_dX8_isOpen_0_0 13 (21, .iconst 1, 1) rfl
theorem dX8_isOpen_22 : decode cX8_isOpen 22 = .ok (.goto 4, 3) := dr9 dk9_dX8_isOpen_0_0 14 (22, .goto 4, 3) rfl
theorem dk9_dX8_open_0_0 : dOk cX8_open [(0, .aload_n 0, 1), (1, .getfield 55, 3), (4, .bipush 40, 2), (6, .if_icmp .lt 5, 3), (11, .aload_n 0, 1), (12, .getfield 9, 3), (15, .aload_n 0, 1), (16, .getfield 55, 3), (19, .iload_n 1, 1), (20, .iastore, 1), (21, .aload_n 0, 1), (22, .getfield 15, 3), (25, .aload_n 0, 1), (26, .getfield 55, 3), (29, .iload_n 2, 1), (30, .iastore, 1), (31, .aload_n 0, 1), (32, .getfield 18, 3), (35, .aload_n 0, 1), (36, .getfield 55, 3), (39, .iconst 1, 1), (40, .bastore, 1), (41, .aload_n 0, 1), (42, .dup, 1)] = true ∧ dOk cX8_open [(43, .getfield 55, 3), (46, .dup_x1, 1), (47, .iconst 1, 1), (48, .iadd, 1), (49, .putfield 55, 3), (52, .ireturn, 1), (9, .iconst (-1), 1), (10, .ireturn, 1)] = true := by decide +kernel
theorem dX8_open_0 : decode cX8_open 0 = .ok (.aload_n 0, 1) := dr9 dk9_dX8_open_0_0.1 0 (0, .aload_n 0, 1) rfl
theorem dX8_open_1 : decode cX8_open 1 = .ok (.getfield 55, 3) := dr9 dk9_dX8_open_0_0.1 1 (1, .getfield 55, 3) rfl
theorem dX8_open_4 : decode cX8_open 4 = .ok (.bipush 40, 2) := dr9 dk9_dX8_open_0_0.1 2 (4, .bipush 40, 2) rfl
theorem dX8_open_6 : decode cX8_open 6 = .ok (.if_icmp .lt 5, 3) := dr9 dk9_dX8_open_0_0.1 3 (6, .if_icmp .lt 5, 3) rfl
theorem dX8_open_11 : decode cX8_open 11 = .ok (.aload_n 0, 1) := dr9 dk9_dX8_open_0_0.1 4 (11, .aload_n 0, 1) rfl
theorem dX8_open_12 : decode cX8_open 12 = .ok (.getfield 9, 3) := dr9 dk9_dX8_open_0_0.1 5 (12, .getfield 9, 3) rfl
theorem dX8_open_15 : decode cX8_open 15 = .ok (.aload_n 0, 1) := dr9 dk9_dX8_open_0_0.1 6 (15, .aload_n 0, 1) rfl
theorem dX8_open_16 : decode cX8_open 16 = .ok (.getfield 55, 3) := dr9 dk9_dX8_open_0_0.1 7 (16, .getfield 55, 3) rfl
theorem dX8_open_19 : decode cX8_open 19 = .ok (.iload_n 1, 1) := dr9 dk9_dX8_open_0_0.1 8 (19, .iload_n 1, 1) rfl
theorem dX8_open_20 : decode cX8_open 20 = .ok (.iastore, 1) := dr9 dk9_dX8_open_0_0.1 9 (20, .iastore, 1) rfl
theorem dX8_open_21 : decode cX8_open 21 = .ok (.aload_n 0, 1) := dr9 dk9_dX8_open_0_0.1 10 (21, .aload_n 0, 1) rfl
theorem dX8_open_22 : decode cX8_open 22 = .ok (.getfield 15, 3) := dr9 dk9_dX8_open_0_0.1 11 (22, .getfield 15, 3) rfl
theorem dX8_open_25 : decode cX8_open 25 = .ok (.aload_n 0, 1) := dr9 dk9_dX8_open_0_0.1 12 (25, .aload_n 0, 1) rfl
theorem dX8_open_26 : decode cX8_open 26 = .ok (.getfield 55, 3) := dr9 dk9_dX8_open_0_0.1 13 (26, .getfield 55, 3) rfl
theorem dX8_open_29 : decode cX8_open 29 = .ok (.iload_n 2, 1) := dr9 dk9_dX8_open_0_0.1 14 (29, .iload_n 2, 1) rfl
theorem dX8_open_30 : decode cX8_open 30 = .ok (.iastore, 1) := dr9 dk9_dX8_open_0_0.1 15 (30, .iastore, 1) rfl
theorem dX8_open_31 : decode cX8_open 31 = .ok (.aload_n 0, 1) := dr9 dk9_dX8_open_0_0.1 16 (31, .aload_n 0, 1) rfl
theorem dX8_open_32 : decode cX8_open 32 = .ok (.getfield 18, 3) := dr9 dk9_dX8_open_0_0.1 17 (32, .getfield 18, 3) rfl
theorem dX8_open_35 : decode cX8_open 35 = .ok (.aload_n 0, 1) := dr9 dk9_dX8_open_0_0.1 18 (35, .aload_n 0, 1) rfl
theorem dX8_open_36 : decode cX8_open 36 = .ok (.getfield 55, 3) := dr9 dk9_dX8_open_0_0.1 19 (36, .getfield 55, 3) rfl
theorem dX8_open_39 : decode cX8_open 39 = .ok (.iconst 1, 1) := dr9 dk9_dX8_open_0_0.1 20 (39, .iconst 1, 1) rfl
theorem dX8_open_40 : decode cX8_open 40 = .ok (.bastore, 1) := dr9 dk9_dX8_open_0_0.1 21 (40, .bastore, 1) rfl
theorem dX8_open_41 : decode cX8_open 41 = .ok (.aload_n 0, 1) := dr9 dk9_dX8_open_0_0.1 22 (41, .aload_n 0, 1) rfl
theorem dX8_open_42 : decode cX8_open 42 = .ok (.dup, 1) := dr9 dk9_dX8_open_0_0.1 23 (42, .dup, 1) rfl
theorem dX8_open_43 : decode cX8_open 43 = .ok (.getfield 55, 3) := dr9 dk9_dX8_open_0_0.2 0 (43, .getfield 55, 3) rfl
theorem dX8_open_46 : decode cX8_open 46 = .ok (.dup_x1, 1) := dr9 dk9_dX8_open_0_0.2 1 (46, .dup_x1, 1) rfl
theorem dX8_open_47 : decode cX8_open 47 = .ok (.iconst 1, 1) := dr9 dk9_dX8_open_0_0.2 2 (47, .iconst 1, 1) rfl
theorem dX8_open_48 : decode cX8_open 48 = .ok (.iadd, 1) := dr9 dk9_dX8_open_0_0.2 3 (48, .iadd, 1) rfl
theorem dX8_open_49 : decode cX8_open 49 = .ok (.putfield 55, 3) := dr9 dk9_dX8_open_0_0.2 4 (49, .putfield 55, 3) rfl
theorem dX8_open_52 : decode cX8_open 52 = .ok (.ireturn, 1) := dr9 dk9_dX8_open_0_0.2 5 (52, .ireturn, 1) rfl
theorem dX8_open_9 : decode cX8_open 9 = .ok (.iconst (-1), 1) := dr9 dk9_dX8_open_0_0.2 6 (9, .iconst (-1), 1) rfl
theorem dX8_open_10 : decode cX8_open 10 = .ok (.ireturn, 1) := dr9 dk9_dX8_open_0_0.2 7 (10, .ireturn, 1) rfl
theorem dk9_dX8_openScopes_0_0 : dOk cX8_openScopes [(0, .iconst 0, 1), (1, .istore_n 1, 1), (2, .iconst 0, 1), (3, .istore_n 2, 1), (4, .iload_n 2, 1), (5, .aload_n 0, 1), (6, .getfield 55, 3), (9, .if_icmp .ge 26, 3), (35, .iload_n 1, 1), (36, .ireturn, 1), (12, .iload_n 1, 1), (13, .aload_n 0, 1), (14, .getfield 18, 3), (17, .iload_n 2, 1), (18, .baload, 1), (19, .ifCond .eq 7, 3), (26, .iconst 0, 1), (27, .iadd, 1), (28, .istore_n 1, 1), (29, .iinc 2 1, 3), (32, .goto (-28), 3), (22, .iconst 1, 1), (23, .goto 4, 3)] = true := by decide +kernel
theorem dX8_openScopes_0 : decode cX8_openScopes 0 = .ok (.iconst 0, 1) := dr9 dk9_dX8_openScopes_0_0 0 (0, .iconst 0, 1) rfl
theorem dX8_openScopes_1 : decode cX8_openScopes 1 = .ok (.istore_n 1, 1) := dr9 dk9_dX8_openScopes_0_0 1 (1, .istore_n 1, 1) rfl
theorem dX8_openScopes_2 : decode cX8_openScopes 2 = .ok (.iconst 0, 1) := dr9 dk9_dX8_openScopes_0_0 2 (2, .iconst 0, 1) rfl
theorem dX8_openScopes_3 : decode cX8_openScopes 3 = .ok (.istore_n 2, 1) := dr9 dk9_dX8_openScopes_0_0 3 (3, .istore_n 2, 1) rfl
theorem dX8_openScopes_4 : decode cX8_openScopes 4 = .ok (.iload_n 2, 1) := dr9 dk9_dX8_openScopes_0_0 4 (4, .iload_n 2, 1) rfl
theorem dX8_openScopes_5 : decode cX8_openScopes 5 = .ok (.aload_n 0, 1) := dr9 dk9_dX8_openScopes_0_0 5 (5, .aload_n 0, 1) rfl
theorem dX8_openScopes_6 : decode cX8_openScopes 6 = .ok (.getfield 55, 3) := dr9 dk9_dX8_openScopes_0_0 6 (6, .getfield 55, 3) rfl
theorem dX8_openScopes_9 : decode cX8_openScopes 9 = .ok (.if_icmp .ge 26, 3) := dr9 dk9_dX8_openScopes_0_0 7 (9, .if_icmp .ge 26, 3) rfl
theorem dX8_openScopes_35 : decode cX8_openScopes 35 = .ok (.iload_n 1, 1) := dr9 dk9_dX8_openScopes_0_0 8 (35, .iload_n 1, 1) rfl
theorem dX8_openScopes_36 : decode cX8_openScopes 36 = .ok (.ireturn, 1) := dr9 dk9_dX8_openScopes_0_0 9 (36, .ireturn, 1) rfl
theorem dX8_openScopes_12 : decode cX8_openScopes 12 = .ok (.iload_n 1, 1) := dr9 dk9_dX8_openScopes_0_0 10 (12, .iload_n 1, 1) rfl
theorem dX8_openScopes_13 : decode cX8_openScopes 13 = .ok (.aload_n 0, 1) := dr9 dk9_dX8_openScopes_0_0 11 (13, .aload_n 0, 1) rfl
theorem dX8_openScopes_14 : decode cX8_openScopes 14 = .ok (.getfield 18, 3) := dr9 dk9_dX8_openScopes_0_0 12 (14, .getfield 18, 3) rfl
theorem dX8_openScopes_17 : decode cX8_openScopes 17 = .ok (.iload_n 2, 1) := dr9 dk9_dX8_openScopes_0_0 13 (17, .iload_n 2, 1) rfl
theorem dX8_openScopes_18 : decode cX8_openScopes 18 = .ok (.baload, 1) := dr9 dk9_dX8_openScopes_0_0 14 (18, .baload, 1) rfl
theorem dX8_openScopes_19 : decode cX8_openScopes 19 = .ok (.ifCond .eq 7, 3) := dr9 dk9_dX8_openScopes_0_0 15 (19, .ifCond .eq 7, 3) rfl
theorem dX8_openScopes_26 : decode cX8_openScopes 26 = .ok (.iconst 0, 1) := dr9 dk9_dX8_openScopes_0_0 16 (26, .iconst 0, 1) rfl
theorem dX8_openScopes_27 : decode cX8_openScopes 27 = .ok (.iadd, 1) := dr9 dk9_dX8_openScopes_0_0 17 (27, .iadd, 1) rfl
theorem dX8_openScopes_28 : decode cX8_openScopes 28 = .ok (.istore_n 1, 1) := dr9 dk9_dX8_openScopes_0_0 18 (28, .istore_n 1, 1) rfl
theorem dX8_openScopes_29 : decode cX8_openScopes 29 = .ok (.iinc 2 1, 3) := dr9 dk9_dX8_openScopes_0_0 19 (29, .iinc 2 1, 3) rfl
theorem dX8_openScopes_32 : decode cX8_openScopes 32 = .ok (.goto (-28), 3) := dr9 dk9_dX8_openScopes_0_0 20 (32, .goto (-28), 3) rfl
theorem dX8_openScopes_22 : decode cX8_openScopes 22 = .ok (.iconst 1, 1) := dr9 dk9_dX8_openScopes_0_0 21 (22, .iconst 1, 1) rfl
theorem dX8_openScopes_23 : decode cX8_openScopes 23 = .ok (.goto 4, 3) := dr9 dk9_dX8_openScopes_0_0 22 (23, .goto 4, 3) rfl
theorem dk9_dX8_latestOpen_0_0 : dOk cX8_latestOpen [(0, .aload_n 0, 1), (1, .getfield 55, 3), (4, .iconst 1, 1), (5, .isub, 1), (6, .istore_n 3, 1), (7, .iload_n 3, 1), (8, .ifCond .le 40, 3), (48, .iconst (-1), 1), (49, .ireturn, 1), (11, .aload_n 0, 1), (12, .getfield 18, 3), (15, .iload_n 3, 1), (16, .baload, 1), (17, .ifCond .eq 25, 3), (42, .iinc 3 (-1), 3), (45, .goto (-38), 3), (20, .aload_n 0, 1), (21, .getfield 9, 3), (24, .iload_n 3, 1), (25, .iaload, 1), (26, .iload_n 1, 1), (27, .if_icmp .ne 15, 3), (30, .aload_n 0, 1), (31, .getfield 15, 3)] = true ∧ dOk cX8_latestOpen [(34, .iload_n 3, 1), (35, .iaload, 1), (36, .iload_n 2, 1), (37, .if_icmp .ne 5, 3), (40, .iload_n 3, 1), (41, .ireturn, 1)] = true := by decide +kernel
theorem dX8_latestOpen_0 : decode cX8_latestOpen 0 = .ok (.aload_n 0, 1) := dr9 dk9_dX8_latestOpen_0_0.1 0 (0, .aload_n 0, 1) rfl
theorem dX8_latestOpen_1 : decode cX8_latestOpen 1 = .ok (.getfield 55, 3) := dr9 dk9_dX8_latestOpen_0_0.1 1 (1, .getfield 55, 3) rfl
theorem dX8_latestOpen_4 : decode cX8_latestOpen 4 = .ok (.iconst 1, 1) := dr9 dk9_dX8_latestOpen_0_0.1 2 (4, .iconst 1, 1) rfl
theorem dX8_latestOpen_5 : decode cX8_latestOpen 5 = .ok (.isub, 1) := dr9 dk9_dX8_latestOpen_0_0.1 3 (5, .isub, 1) rfl
theorem dX8_latestOpen_6 : decode cX8_latestOpen 6 = .ok (.istore_n 3, 1) := dr9 dk9_dX8_latestOpen_0_0.1 4 (6, .istore_n 3, 1) rfl
theorem dX8_latestOpen_7 : decode cX8_latestOpen 7 = .ok (.iload_n 3, 1) := dr9 dk9_dX8_latestOpen_0_0.1 5 (7, .iload_n 3, 1) rfl
theorem dX8_latestOpen_8 : decode cX8_latestOpen 8 = .ok (.ifCond .le 40, 3) := dr9 dk9_dX8_latestOpen_0_0.1 6 (8, .ifCond .le 40, 3) rfl
theorem dX8_latestOpen_48 : decode cX8_latestOpen 48 = .ok (.iconst (-1), 1) := dr9 dk9_dX8_latestOpen_0_0.1 7 (48, .iconst (-1), 1) rfl
theorem dX8_latestOpen_49 : decode cX8_latestOpen 49 = .ok (.ireturn, 1) := dr9 dk9_dX8_latestOpen_0_0.1 8 (49, .ireturn, 1) rfl
theorem dX8_latestOpen_11 : decode cX8_latestOpen 11 = .ok (.aload_n 0, 1) := dr9 dk9_dX8_latestOpen_0_0.1 9 (11, .aload_n 0, 1) rfl
theorem dX8_latestOpen_12 : decode cX8_latestOpen 12 = .ok (.getfield 18, 3) := dr9 dk9_dX8_latestOpen_0_0.1 10 (12, .getfield 18, 3) rfl
theorem dX8_latestOpen_15 : decode cX8_latestOpen 15 = .ok (.iload_n 3, 1) := dr9 dk9_dX8_latestOpen_0_0.1 11 (15, .iload_n 3, 1) rfl
theorem dX8_latestOpen_16 : decode cX8_latestOpen 16 = .ok (.baload, 1) := dr9 dk9_dX8_latestOpen_0_0.1 12 (16, .baload, 1) rfl
theorem dX8_latestOpen_17 : decode cX8_latestOpen 17 = .ok (.ifCond .eq 25, 3) := dr9 dk9_dX8_latestOpen_0_0.1 13 (17, .ifCond .eq 25, 3) rfl
theorem dX8_latestOpen_42 : decode cX8_latestOpen 42 = .ok (.iinc 3 (-1), 3) := dr9 dk9_dX8_latestOpen_0_0.1 14 (42, .iinc 3 (-1), 3) rfl
theorem dX8_latestOpen_45 : decode cX8_latestOpen 45 = .ok (.goto (-38), 3) := dr9 dk9_dX8_latestOpen_0_0.1 15 (45, .goto (-38), 3) rfl
theorem dX8_latestOpen_20 : decode cX8_latestOpen 20 = .ok (.aload_n 0, 1) := dr9 dk9_dX8_latestOpen_0_0.1 16 (20, .aload_n 0, 1) rfl
theorem dX8_latestOpen_21 : decode cX8_latestOpen 21 = .ok (.getfield 9, 3) := dr9 dk9_dX8_latestOpen_0_0.1 17 (21, .getfield 9, 3) rfl
theorem dX8_latestOpen_24 : decode cX8_latestOpen 24 = .ok (.iload_n 3, 1) := dr9 dk9_dX8_latestOpen_0_0.1 18 (24, .iload_n 3, 1) rfl
theorem dX8_latestOpen_25 : decode cX8_latestOpen 25 = .ok (.iaload, 1) := dr9 dk9_dX8_latestOpen_0_0.1 19 (25, .iaload, 1) rfl
theorem dX8_latestOpen_26 : decode cX8_latestOpen 26 = .ok (.iload_n 1, 1) := dr9 dk9_dX8_latestOpen_0_0.1 20 (26, .iload_n 1, 1) rfl
theorem dX8_latestOpen_27 : decode cX8_latestOpen 27 = .ok (.if_icmp .ne 15, 3) := dr9 dk9_dX8_latestOpen_0_0.1 21 (27, .if_icmp .ne 15, 3) rfl
theorem dX8_latestOpen_30 : decode cX8_latestOpen 30 = .ok (.aload_n 0, 1) := dr9 dk9_dX8_latestOpen_0_0.1 22 (30, .aload_n 0, 1) rfl
theorem dX8_latestOpen_31 : decode cX8_latestOpen 31 = .ok (.getfield 15, 3) := dr9 dk9_dX8_latestOpen_0_0.1 23 (31, .getfield 15, 3) rfl
theorem dX8_latestOpen_34 : decode cX8_latestOpen 34 = .ok (.iload_n 3, 1) := dr9 dk9_dX8_latestOpen_0_0.2 0 (34, .iload_n 3, 1) rfl
theorem dX8_latestOpen_35 : decode cX8_latestOpen 35 = .ok (.iaload, 1) := dr9 dk9_dX8_latestOpen_0_0.2 1 (35, .iaload, 1) rfl
theorem dX8_latestOpen_36 : decode cX8_latestOpen 36 = .ok (.iload_n 2, 1) := dr9 dk9_dX8_latestOpen_0_0.2 2 (36, .iload_n 2, 1) rfl
theorem dX8_latestOpen_37 : decode cX8_latestOpen 37 = .ok (.if_icmp .ne 5, 3) := dr9 dk9_dX8_latestOpen_0_0.2 3 (37, .if_icmp .ne 5, 3) rfl
theorem dX8_latestOpen_40 : decode cX8_latestOpen 40 = .ok (.iload_n 3, 1) := dr9 dk9_dX8_latestOpen_0_0.2 4 (40, .iload_n 3, 1) rfl
theorem dX8_latestOpen_41 : decode cX8_latestOpen 41 = .ok (.ireturn, 1) := dr9 dk9_dX8_latestOpen_0_0.2 5 (41, .ireturn, 1) rfl
theorem dk9_dX8_innermost_0_0 : dOk cX8_innermost [(0, .iload_n 1, 1), (1, .istore_n 2, 1), (2, .iload_n 1, 1), (3, .ifCond .ne 10, 3), (13, .aload_n 0, 1), (14, .iconst 2, 1), (15, .iload_n 2, 1), (16, .invokevirtual 72, 3), (19, .istore_n 3, 1), (20, .iload_n 3, 1), (21, .iconst (-1), 1), (22, .if_icmp .eq 7, 3), (29, .iload_n 2, 1), (30, .iconst (-1), 1), (31, .if_icmp .eq 7, 3), (34, .iload_n 2, 1), (35, .goto 4, 3), (39, .ireturn, 1), (25, .iload_n 3, 1), (26, .goto 13, 3), (6, .aload_n 0, 1), (7, .iconst 1, 1), (8, .iconst 0, 1), (9, .invokevirtual 72, 3)] = true ∧ dOk cX8_innermost [(12, .istore_n 2, 1), (38, .iload_n 1, 1)] = true := by decide +kernel
theorem dX8_innermost_0 : decode cX8_innermost 0 = .ok (.iload_n 1, 1) := dr9 dk9_dX8_innermost_0_0.1 0 (0, .iload_n 1, 1) rfl
theorem dX8_innermost_1 : decode cX8_innermost 1 = .ok (.istore_n 2, 1) := dr9 dk9_dX8_innermost_0_0.1 1 (1, .istore_n 2, 1) rfl
theorem dX8_innermost_2 : decode cX8_innermost 2 = .ok (.iload_n 1, 1) := dr9 dk9_dX8_innermost_0_0.1 2 (2, .iload_n 1, 1) rfl
theorem dX8_innermost_3 : decode cX8_innermost 3 = .ok (.ifCond .ne 10, 3) := dr9 dk9_dX8_innermost_0_0.1 3 (3, .ifCond .ne 10, 3) rfl
theorem dX8_innermost_13 : decode cX8_innermost 13 = .ok (.aload_n 0, 1) := dr9 dk9_dX8_innermost_0_0.1 4 (13, .aload_n 0, 1) rfl
theorem dX8_innermost_14 : decode cX8_innermost 14 = .ok (.iconst 2, 1) := dr9 dk9_dX8_innermost_0_0.1 5 (14, .iconst 2, 1) rfl
theorem dX8_innermost_15 : decode cX8_innermost 15 = .ok (.iload_n 2, 1) := dr9 dk9_dX8_innermost_0_0.1 6 (15, .iload_n 2, 1) rfl
theorem dX8_innermost_16 : decode cX8_innermost 16 = .ok (.invokevirtual 72, 3) := dr9 dk9_dX8_innermost_0_0.1 7 (16, .invokevirtual 72, 3) rfl
theorem dX8_innermost_19 : decode cX8_innermost 19 = .ok (.istore_n 3, 1) := dr9 dk9_dX8_innermost_0_0.1 8 (19, .istore_n 3, 1) rfl
theorem dX8_innermost_20 : decode cX8_innermost 20 = .ok (.iload_n 3, 1) := dr9 dk9_dX8_innermost_0_0.1 9 (20, .iload_n 3, 1) rfl
theorem dX8_innermost_21 : decode cX8_innermost 21 = .ok (.iconst (-1), 1) := dr9 dk9_dX8_innermost_0_0.1 10 (21, .iconst (-1), 1) rfl
theorem dX8_innermost_22 : decode cX8_innermost 22 = .ok (.if_icmp .eq 7, 3) := dr9 dk9_dX8_innermost_0_0.1 11 (22, .if_icmp .eq 7, 3) rfl
theorem dX8_innermost_29 : decode cX8_innermost 29 = .ok (.iload_n 2, 1) := dr9 dk9_dX8_innermost_0_0.1 12 (29, .iload_n 2, 1) rfl
theorem dX8_innermost_30 : decode cX8_innermost 30 = .ok (.iconst (-1), 1) := dr9 dk9_dX8_innermost_0_0.1 13 (30, .iconst (-1), 1) rfl
theorem dX8_innermost_31 : decode cX8_innermost 31 = .ok (.if_icmp .eq 7, 3) := dr9 dk9_dX8_innermost_0_0.1 14 (31, .if_icmp .eq 7, 3) rfl
theorem dX8_innermost_34 : decode cX8_innermost 34 = .ok (.iload_n 2, 1) := dr9 dk9_dX8_innermost_0_0.1 15 (34, .iload_n 2, 1) rfl
theorem dX8_innermost_35 : decode cX8_innermost 35 = .ok (.goto 4, 3) := dr9 dk9_dX8_innermost_0_0.1 16 (35, .goto 4, 3) rfl
theorem dX8_innermost_39 : decode cX8_innermost 39 = .ok (.ireturn, 1) := dr9 dk9_dX8_innermost_0_0.1 17 (39, .ireturn, 1) rfl
theorem dX8_innermost_25 : decode cX8_innermost 25 = .ok (.iload_n 3, 1) := dr9 dk9_dX8_innermost_0_0.1 18 (25, .iload_n 3, 1) rfl
theorem dX8_innermost_26 : decode cX8_innermost 26 = .ok (.goto 13, 3) := dr9 dk9_dX8_innermost_0_0.1 19 (26, .goto 13, 3) rfl
theorem dX8_innermost_6 : decode cX8_innermost 6 = .ok (.aload_n 0, 1) := dr9 dk9_dX8_innermost_0_0.1 20 (6, .aload_n 0, 1) rfl
theorem dX8_innermost_7 : decode cX8_innermost 7 = .ok (.iconst 1, 1) := dr9 dk9_dX8_innermost_0_0.1 21 (7, .iconst 1, 1) rfl
theorem dX8_innermost_8 : decode cX8_innermost 8 = .ok (.iconst 0, 1) := dr9 dk9_dX8_innermost_0_0.1 22 (8, .iconst 0, 1) rfl
theorem dX8_innermost_9 : decode cX8_innermost 9 = .ok (.invokevirtual 72, 3) := dr9 dk9_dX8_innermost_0_0.1 23 (9, .invokevirtual 72, 3) rfl
theorem dX8_innermost_12 : decode cX8_innermost 12 = .ok (.istore_n 2, 1) := dr9 dk9_dX8_innermost_0_0.2 0 (12, .istore_n 2, 1) rfl
theorem dX8_innermost_38 : decode cX8_innermost 38 = .ok (.iload_n 1, 1) := dr9 dk9_dX8_innermost_0_0.2 1 (38, .iload_n 1, 1) rfl
theorem dk9_dX8_shut_0_0 : dOk cX8_shut [(0, .aload_n 0, 1), (1, .getfield 18, 3), (4, .iload_n 1, 1), (5, .iconst 0, 1), (6, .bastore, 1), (7, .aload_n 0, 1), (8, .getfield 22, 3), (11, .iload_n 1, 1), (12, .iconst 0, 1), (13, .iastore, 1), (14, .return_, 1)] = true := by decide +kernel
theorem dX8_shut_0 : decode cX8_shut 0 = .ok (.aload_n 0, 1) := dr9 dk9_dX8_shut_0_0 0 (0, .aload_n 0, 1) rfl
theorem dX8_shut_1 : decode cX8_shut 1 = .ok (.getfield 18, 3) := dr9 dk9_dX8_shut_0_0 1 (1, .getfield 18, 3) rfl
theorem dX8_shut_4 : decode cX8_shut 4 = .ok (.iload_n 1, 1) := dr9 dk9_dX8_shut_0_0 2 (4, .iload_n 1, 1) rfl
theorem dX8_shut_5 : decode cX8_shut 5 = .ok (.iconst 0, 1) := dr9 dk9_dX8_shut_0_0 3 (5, .iconst 0, 1) rfl
theorem dX8_shut_6 : decode cX8_shut 6 = .ok (.bastore, 1) := dr9 dk9_dX8_shut_0_0 4 (6, .bastore, 1) rfl
theorem dX8_shut_7 : decode cX8_shut 7 = .ok (.aload_n 0, 1) := dr9 dk9_dX8_shut_0_0 5 (7, .aload_n 0, 1) rfl
theorem dX8_shut_8 : decode cX8_shut 8 = .ok (.getfield 22, 3) := dr9 dk9_dX8_shut_0_0 6 (8, .getfield 22, 3) rfl
theorem dX8_shut_11 : decode cX8_shut 11 = .ok (.iload_n 1, 1) := dr9 dk9_dX8_shut_0_0 7 (11, .iload_n 1, 1) rfl
theorem dX8_shut_12 : decode cX8_shut 12 = .ok (.iconst 0, 1) := dr9 dk9_dX8_shut_0_0 8 (12, .iconst 0, 1) rfl
theorem dX8_shut_13 : decode cX8_shut 13 = .ok (.iastore, 1) := dr9 dk9_dX8_shut_0_0 9 (13, .iastore, 1) rfl
theorem dX8_shut_14 : decode cX8_shut 14 = .ok (.return_, 1) := dr9 dk9_dX8_shut_0_0 10 (14, .return_, 1) rfl
theorem dk9_dX8_reopenHouse_0_0 : dOk cX8_reopenHouse [(0, .aload_n 0, 1), (1, .getfield 18, 3), (4, .iconst 0, 1), (5, .iconst 1, 1), (6, .bastore, 1), (7, .return_, 1)] = true := by decide +kernel
theorem dX8_reopenHouse_0 : decode cX8_reopenHouse 0 = .ok (.aload_n 0, 1) := dr9 dk9_dX8_reopenHouse_0_0 0 (0, .aload_n 0, 1) rfl
theorem dX8_reopenHouse_1 : decode cX8_reopenHouse 1 = .ok (.getfield 18, 3) := dr9 dk9_dX8_reopenHouse_0_0 1 (1, .getfield 18, 3) rfl
theorem dX8_reopenHouse_4 : decode cX8_reopenHouse 4 = .ok (.iconst 0, 1) := dr9 dk9_dX8_reopenHouse_0_0 2 (4, .iconst 0, 1) rfl
theorem dX8_reopenHouse_5 : decode cX8_reopenHouse 5 = .ok (.iconst 1, 1) := dr9 dk9_dX8_reopenHouse_0_0 3 (5, .iconst 1, 1) rfl
theorem dX8_reopenHouse_6 : decode cX8_reopenHouse 6 = .ok (.bastore, 1) := dr9 dk9_dX8_reopenHouse_0_0 4 (6, .bastore, 1) rfl
theorem dX8_reopenHouse_7 : decode cX8_reopenHouse 7 = .ok (.return_, 1) := dr9 dk9_dX8_reopenHouse_0_0 5 (7, .return_, 1) rfl
theorem dk9_dX8_placeOf_0_0 : dOk cX8_placeOf [(0, .aload_n 0, 1), (1, .getfield 9, 3), (4, .iload_n 2, 1), (5, .iaload, 1), (6, .istore_n 3, 1), (7, .iload_n 1, 1), (8, .tableswitch 66 0 2 #[28, 30, 55], 28), (36, .iconst 0, 1), (37, .ireturn, 1), (38, .iload_n 3, 1), (39, .iconst 1, 1), (40, .if_icmp .ne 7, 3), (47, .iload_n 3, 1), (48, .iconst 2, 1), (49, .if_icmp .ne 12, 3), (61, .iconst (-1), 1), (62, .ireturn, 1), (52, .aload_n 0, 1), (53, .getfield 15, 3), (56, .iload_n 2, 1), (57, .iaload, 1), (58, .goto 4, 3), (43, .iload_n 2, 1), (44, .goto 18, 3)] = true ∧ dOk cX8_placeOf [(63, .iload_n 3, 1), (64, .iconst 2, 1), (65, .if_icmp .ne 7, 3), (72, .iconst (-1), 1), (73, .ireturn, 1), (68, .iload_n 2, 1), (69, .goto 4, 3), (74, .iload_n 2, 1), (75, .ireturn, 1)] = true := by decide +kernel
theorem dX8_placeOf_0 : decode cX8_placeOf 0 = .ok (.aload_n 0, 1) := dr9 dk9_dX8_placeOf_0_0.1 0 (0, .aload_n 0, 1) rfl
theorem dX8_placeOf_1 : decode cX8_placeOf 1 = .ok (.getfield 9, 3) := dr9 dk9_dX8_placeOf_0_0.1 1 (1, .getfield 9, 3) rfl
theorem dX8_placeOf_4 : decode cX8_placeOf 4 = .ok (.iload_n 2, 1) := dr9 dk9_dX8_placeOf_0_0.1 2 (4, .iload_n 2, 1) rfl
theorem dX8_placeOf_5 : decode cX8_placeOf 5 = .ok (.iaload, 1) := dr9 dk9_dX8_placeOf_0_0.1 3 (5, .iaload, 1) rfl
theorem dX8_placeOf_6 : decode cX8_placeOf 6 = .ok (.istore_n 3, 1) := dr9 dk9_dX8_placeOf_0_0.1 4 (6, .istore_n 3, 1) rfl
theorem dX8_placeOf_7 : decode cX8_placeOf 7 = .ok (.iload_n 1, 1) := dr9 dk9_dX8_placeOf_0_0.1 5 (7, .iload_n 1, 1) rfl
theorem dX8_placeOf_8 : decode cX8_placeOf 8 = .ok (.tableswitch 66 0 2 #[28, 30, 55], 28) := dr9 dk9_dX8_placeOf_0_0.1 6 (8, .tableswitch 66 0 2 #[28, 30, 55], 28) rfl
theorem dX8_placeOf_36 : decode cX8_placeOf 36 = .ok (.iconst 0, 1) := dr9 dk9_dX8_placeOf_0_0.1 7 (36, .iconst 0, 1) rfl
theorem dX8_placeOf_37 : decode cX8_placeOf 37 = .ok (.ireturn, 1) := dr9 dk9_dX8_placeOf_0_0.1 8 (37, .ireturn, 1) rfl
theorem dX8_placeOf_38 : decode cX8_placeOf 38 = .ok (.iload_n 3, 1) := dr9 dk9_dX8_placeOf_0_0.1 9 (38, .iload_n 3, 1) rfl
theorem dX8_placeOf_39 : decode cX8_placeOf 39 = .ok (.iconst 1, 1) := dr9 dk9_dX8_placeOf_0_0.1 10 (39, .iconst 1, 1) rfl
theorem dX8_placeOf_40 : decode cX8_placeOf 40 = .ok (.if_icmp .ne 7, 3) := dr9 dk9_dX8_placeOf_0_0.1 11 (40, .if_icmp .ne 7, 3) rfl
theorem dX8_placeOf_47 : decode cX8_placeOf 47 = .ok (.iload_n 3, 1) := dr9 dk9_dX8_placeOf_0_0.1 12 (47, .iload_n 3, 1) rfl
theorem dX8_placeOf_48 : decode cX8_placeOf 48 = .ok (.iconst 2, 1) := dr9 dk9_dX8_placeOf_0_0.1 13 (48, .iconst 2, 1) rfl
theorem dX8_placeOf_49 : decode cX8_placeOf 49 = .ok (.if_icmp .ne 12, 3) := dr9 dk9_dX8_placeOf_0_0.1 14 (49, .if_icmp .ne 12, 3) rfl
theorem dX8_placeOf_61 : decode cX8_placeOf 61 = .ok (.iconst (-1), 1) := dr9 dk9_dX8_placeOf_0_0.1 15 (61, .iconst (-1), 1) rfl
theorem dX8_placeOf_62 : decode cX8_placeOf 62 = .ok (.ireturn, 1) := dr9 dk9_dX8_placeOf_0_0.1 16 (62, .ireturn, 1) rfl
theorem dX8_placeOf_52 : decode cX8_placeOf 52 = .ok (.aload_n 0, 1) := dr9 dk9_dX8_placeOf_0_0.1 17 (52, .aload_n 0, 1) rfl
theorem dX8_placeOf_53 : decode cX8_placeOf 53 = .ok (.getfield 15, 3) := dr9 dk9_dX8_placeOf_0_0.1 18 (53, .getfield 15, 3) rfl
theorem dX8_placeOf_56 : decode cX8_placeOf 56 = .ok (.iload_n 2, 1) := dr9 dk9_dX8_placeOf_0_0.1 19 (56, .iload_n 2, 1) rfl
theorem dX8_placeOf_57 : decode cX8_placeOf 57 = .ok (.iaload, 1) := dr9 dk9_dX8_placeOf_0_0.1 20 (57, .iaload, 1) rfl
theorem dX8_placeOf_58 : decode cX8_placeOf 58 = .ok (.goto 4, 3) := dr9 dk9_dX8_placeOf_0_0.1 21 (58, .goto 4, 3) rfl
theorem dX8_placeOf_43 : decode cX8_placeOf 43 = .ok (.iload_n 2, 1) := dr9 dk9_dX8_placeOf_0_0.1 22 (43, .iload_n 2, 1) rfl
theorem dX8_placeOf_44 : decode cX8_placeOf 44 = .ok (.goto 18, 3) := dr9 dk9_dX8_placeOf_0_0.1 23 (44, .goto 18, 3) rfl
theorem dX8_placeOf_63 : decode cX8_placeOf 63 = .ok (.iload_n 3, 1) := dr9 dk9_dX8_placeOf_0_0.2 0 (63, .iload_n 3, 1) rfl
theorem dX8_placeOf_64 : decode cX8_placeOf 64 = .ok (.iconst 2, 1) := dr9 dk9_dX8_placeOf_0_0.2 1 (64, .iconst 2, 1) rfl
theorem dX8_placeOf_65 : decode cX8_placeOf 65 = .ok (.if_icmp .ne 7, 3) := dr9 dk9_dX8_placeOf_0_0.2 2 (65, .if_icmp .ne 7, 3) rfl
theorem dX8_placeOf_72 : decode cX8_placeOf 72 = .ok (.iconst (-1), 1) := dr9 dk9_dX8_placeOf_0_0.2 3 (72, .iconst (-1), 1) rfl
theorem dX8_placeOf_73 : decode cX8_placeOf 73 = .ok (.ireturn, 1) := dr9 dk9_dX8_placeOf_0_0.2 4 (73, .ireturn, 1) rfl
theorem dX8_placeOf_68 : decode cX8_placeOf 68 = .ok (.iload_n 2, 1) := dr9 dk9_dX8_placeOf_0_0.2 5 (68, .iload_n 2, 1) rfl
theorem dX8_placeOf_69 : decode cX8_placeOf 69 = .ok (.goto 4, 3) := dr9 dk9_dX8_placeOf_0_0.2 6 (69, .goto 4, 3) rfl
theorem dX8_placeOf_74 : decode cX8_placeOf 74 = .ok (.iload_n 2, 1) := dr9 dk9_dX8_placeOf_0_0.2 7 (74, .iload_n 2, 1) rfl
theorem dX8_placeOf_75 : decode cX8_placeOf 75 = .ok (.ireturn, 1) := dr9 dk9_dX8_placeOf_0_0.2 8 (75, .ireturn, 1) rfl
theorem dk9_dX8_isSpoiled_0_0 : dOk cX8_isSpoiled [(0, .aload_n 0, 1), (1, .getfield 22, 3), (4, .iload_n 1, 1), (5, .iaload, 1), (6, .iload_n 2, 1), (7, .ishr, 1), (8, .iconst 1, 1), (9, .iand, 1), (10, .ifCond .eq 7, 3), (17, .iconst 0, 1), (18, .ireturn, 1), (13, .iconst 1, 1), (14, .goto 4, 3)] = true := by decide +kernel
theorem dX8_isSpoiled_0 : decode cX8_isSpoiled 0 = .ok (.aload_n 0, 1) := dr9 dk9_dX8_isSpoiled_0_0 0 (0, .aload_n 0, 1) rfl
theorem dX8_isSpoiled_1 : decode cX8_isSpoiled 1 = .ok (.getfield 22, 3) := dr9 dk9_dX8_isSpoiled_0_0 1 (1, .getfield 22, 3) rfl
theorem dX8_isSpoiled_4 : decode cX8_isSpoiled 4 = .ok (.iload_n 1, 1) := dr9 dk9_dX8_isSpoiled_0_0 2 (4, .iload_n 1, 1) rfl
theorem dX8_isSpoiled_5 : decode cX8_isSpoiled 5 = .ok (.iaload, 1) := dr9 dk9_dX8_isSpoiled_0_0 3 (5, .iaload, 1) rfl
theorem dX8_isSpoiled_6 : decode cX8_isSpoiled 6 = .ok (.iload_n 2, 1) := dr9 dk9_dX8_isSpoiled_0_0 4 (6, .iload_n 2, 1) rfl
theorem dX8_isSpoiled_7 : decode cX8_isSpoiled 7 = .ok (.ishr, 1) := dr9 dk9_dX8_isSpoiled_0_0 5 (7, .ishr, 1) rfl
theorem dX8_isSpoiled_8 : decode cX8_isSpoiled 8 = .ok (.iconst 1, 1) := dr9 dk9_dX8_isSpoiled_0_0 6 (8, .iconst 1, 1) rfl
theorem dX8_isSpoiled_9 : decode cX8_isSpoiled 9 = .ok (.iand, 1) := dr9 dk9_dX8_isSpoiled_0_0 7 (9, .iand, 1) rfl
theorem dX8_isSpoiled_10 : decode cX8_isSpoiled 10 = .ok (.ifCond .eq 7, 3) := dr9 dk9_dX8_isSpoiled_0_0 8 (10, .ifCond .eq 7, 3) rfl
theorem dX8_isSpoiled_17 : decode cX8_isSpoiled 17 = .ok (.iconst 0, 1) := dr9 dk9_dX8_isSpoiled_0_0 9 (17, .iconst 0, 1) rfl
theorem dX8_isSpoiled_18 : decode cX8_isSpoiled 18 = .ok (.ireturn, 1) := dr9 dk9_dX8_isSpoiled_0_0 10 (18, .ireturn, 1) rfl
theorem dX8_isSpoiled_13 : decode cX8_isSpoiled 13 = .ok (.iconst 1, 1) := dr9 dk9_dX8_isSpoiled_0_0 11 (13, .iconst 1, 1) rfl
theorem dX8_isSpoiled_14 : decode cX8_isSpoiled 14 = .ok (.goto 4, 3) := dr9 dk9_dX8_isSpoiled_0_0 12 (14, .goto 4, 3) rfl
theorem dk9_dX8_spoil_0_0 : dOk cX8_spoil [(0, .aload_n 0, 1), (1, .getfield 22, 3), (4, .iload_n 1, 1), (5, .dup2, 1), (6, .iaload, 1), (7, .iconst 1, 1), (8, .iload_n 2, 1), (9, .ishl, 1), (10, .ior, 1), (11, .iastore, 1), (12, .return_, 1)] = true := by decide +kernel
theorem dX8_spoil_0 : decode cX8_spoil 0 = .ok (.aload_n 0, 1) := dr9 dk9_dX8_spoil_0_0 0 (0, .aload_n 0, 1) rfl
theorem dX8_spoil_1 : decode cX8_spoil 1 = .ok (.getfield 22, 3) := dr9 dk9_dX8_spoil_0_0 1 (1, .getfield 22, 3) rfl
theorem dX8_spoil_4 : decode cX8_spoil 4 = .ok (.iload_n 1, 1) := dr9 dk9_dX8_spoil_0_0 2 (4, .iload_n 1, 1) rfl
theorem dX8_spoil_5 : decode cX8_spoil 5 = .ok (.dup2, 1) := dr9 dk9_dX8_spoil_0_0 3 (5, .dup2, 1) rfl
theorem dX8_spoil_6 : decode cX8_spoil 6 = .ok (.iaload, 1) := dr9 dk9_dX8_spoil_0_0 4 (6, .iaload, 1) rfl
theorem dX8_spoil_7 : decode cX8_spoil 7 = .ok (.iconst 1, 1) := dr9 dk9_dX8_spoil_0_0 5 (7, .iconst 1, 1) rfl
theorem dX8_spoil_8 : decode cX8_spoil 8 = .ok (.iload_n 2, 1) := dr9 dk9_dX8_spoil_0_0 6 (8, .iload_n 2, 1) rfl
theorem dX8_spoil_9 : decode cX8_spoil 9 = .ok (.ishl, 1) := dr9 dk9_dX8_spoil_0_0 7 (9, .ishl, 1) rfl
theorem dX8_spoil_10 : decode cX8_spoil 10 = .ok (.ior, 1) := dr9 dk9_dX8_spoil_0_0 8 (10, .ior, 1) rfl
theorem dX8_spoil_11 : decode cX8_spoil 11 = .ok (.iastore, 1) := dr9 dk9_dX8_spoil_0_0 9 (11, .iastore, 1) rfl
theorem dX8_spoil_12 : decode cX8_spoil 12 = .ok (.return_, 1) := dr9 dk9_dX8_spoil_0_0 10 (12, .return_, 1) rfl
theorem dk9_dX8_isMade_0_0 : dOk cX8_isMade [(0, .aload_n 0, 1), (1, .iload_n 1, 1), (2, .invokevirtual 76, 3), (5, .ifCond .eq 17, 3), (22, .iconst 0, 1), (23, .ireturn, 1), (8, .aload_n 0, 1), (9, .getfield 34, 3), (12, .iload_n 1, 1), (13, .iaload, 1), (14, .iconst 1, 1), (15, .if_icmp .ne 7, 3), (18, .iconst 1, 1), (19, .goto 4, 3)] = true := by decide +kernel
theorem dX8_isMade_0 : decode cX8_isMade 0 = .ok (.aload_n 0, 1) := dr9 dk9_dX8_isMade_0_0 0 (0, .aload_n 0, 1) rfl
theorem dX8_isMade_1 : decode cX8_isMade 1 = .ok (.iload_n 1, 1) := dr9 dk9_dX8_isMade_0_0 1 (1, .iload_n 1, 1) rfl
theorem dX8_isMade_2 : decode cX8_isMade 2 = .ok (.invokevirtual 76, 3) := dr9 dk9_dX8_isMade_0_0 2 (2, .invokevirtual 76, 3) rfl
theorem dX8_isMade_5 : decode cX8_isMade 5 = .ok (.ifCond .eq 17, 3) := dr9 dk9_dX8_isMade_0_0 3 (5, .ifCond .eq 17, 3) rfl
theorem dX8_isMade_22 : decode cX8_isMade 22 = .ok (.iconst 0, 1) := dr9 dk9_dX8_isMade_0_0 4 (22, .iconst 0, 1) rfl
theorem dX8_isMade_23 : decode cX8_isMade 23 = .ok (.ireturn, 1) := dr9 dk9_dX8_isMade_0_0 5 (23, .ireturn, 1) rfl
theorem dX8_isMade_8 : decode cX8_isMade 8 = .ok (.aload_n 0, 1) := dr9 dk9_dX8_isMade_0_0 6 (8, .aload_n 0, 1) rfl
theorem dX8_isMade_9 : decode cX8_isMade 9 = .ok (.getfield 34, 3) := dr9 dk9_dX8_isMade_0_0 7 (9, .getfield 34, 3) rfl
theorem dX8_isMade_12 : decode cX8_isMade 12 = .ok (.iload_n 1, 1) := dr9 dk9_dX8_isMade_0_0 8 (12, .iload_n 1, 1) rfl
theorem dX8_isMade_13 : decode cX8_isMade 13 = .ok (.iaload, 1) := dr9 dk9_dX8_isMade_0_0 9 (13, .iaload, 1) rfl
theorem dX8_isMade_14 : decode cX8_isMade 14 = .ok (.iconst 1, 1) := dr9 dk9_dX8_isMade_0_0 10 (14, .iconst 1, 1) rfl
theorem dX8_isMade_15 : decode cX8_isMade 15 = .ok (.if_icmp .ne 7, 3) := dr9 dk9_dX8_isMade_0_0 11 (15, .if_icmp .ne 7, 3) rfl
theorem dX8_isMade_18 : decode cX8_isMade 18 = .ok (.iconst 1, 1) := dr9 dk9_dX8_isMade_0_0 12 (18, .iconst 1, 1) rfl
theorem dX8_isMade_19 : decode cX8_isMade 19 = .ok (.goto 4, 3) := dr9 dk9_dX8_isMade_0_0 13 (19, .goto 4, 3) rfl
theorem dk9_dX8_componentOf_0_0 : dOk cX8_componentOf [(0, .aload_n 0, 1), (1, .iload_n 1, 1), (2, .invokevirtual 76, 3), (5, .ifCond .eq 12, 3), (17, .iconst 0, 1), (18, .ireturn, 1), (8, .aload_n 0, 1), (9, .getfield 28, 3), (12, .iload_n 1, 1), (13, .iaload, 1), (14, .goto 4, 3)] = true := by decide +kernel
theorem dX8_componentOf_0 : decode cX8_componentOf 0 = .ok (.aload_n 0, 1) := dr9 dk9_dX8_componentOf_0_0 0 (0, .aload_n 0, 1) rfl
theorem dX8_componentOf_1 : decode cX8_componentOf 1 = .ok (.iload_n 1, 1) := dr9 dk9_dX8_componentOf_0_0 1 (1, .iload_n 1, 1) rfl
theorem dX8_componentOf_2 : decode cX8_componentOf 2 = .ok (.invokevirtual 76, 3) := dr9 dk9_dX8_componentOf_0_0 2 (2, .invokevirtual 76, 3) rfl
theorem dX8_componentOf_5 : decode cX8_componentOf 5 = .ok (.ifCond .eq 12, 3) := dr9 dk9_dX8_componentOf_0_0 3 (5, .ifCond .eq 12, 3) rfl
theorem dX8_componentOf_17 : decode cX8_componentOf 17 = .ok (.iconst 0, 1) := dr9 dk9_dX8_componentOf_0_0 4 (17, .iconst 0, 1) rfl
theorem dX8_componentOf_18 : decode cX8_componentOf 18 = .ok (.ireturn, 1) := dr9 dk9_dX8_componentOf_0_0 5 (18, .ireturn, 1) rfl
theorem dX8_componentOf_8 : decode cX8_componentOf 8 = .ok (.aload_n 0, 1) := dr9 dk9_dX8_componentOf_0_0 6 (8, .aload_n 0, 1) rfl
theorem dX8_componentOf_9 : decode cX8_componentOf 9 = .ok (.getfield 28, 3) := dr9 dk9_dX8_componentOf_0_0 7 (9, .getfield 28, 3) rfl
theorem dX8_componentOf_12 : decode cX8_componentOf 12 = .ok (.iload_n 1, 1) := dr9 dk9_dX8_componentOf_0_0 8 (12, .iload_n 1, 1) rfl
theorem dX8_componentOf_13 : decode cX8_componentOf 13 = .ok (.iaload, 1) := dr9 dk9_dX8_componentOf_0_0 9 (13, .iaload, 1) rfl
theorem dX8_componentOf_14 : decode cX8_componentOf 14 = .ok (.goto 4, 3) := dr9 dk9_dX8_componentOf_0_0 10 (14, .goto 4, 3) rfl
theorem dk9_dX8_objectAt_0_0 : dOk cX8_objectAt [(0, .aload_n 0, 1), (1, .getfield 25, 3), (4, .iload_n 1, 1), (5, .bipush 24, 2), (7, .imul, 1), (8, .iload_n 2, 1), (9, .iadd, 1), (10, .iaload, 1), (11, .ireturn, 1)] = true := by decide +kernel
theorem dX8_objectAt_0 : decode cX8_objectAt 0 = .ok (.aload_n 0, 1) := dr9 dk9_dX8_objectAt_0_0 0 (0, .aload_n 0, 1) rfl
theorem dX8_objectAt_1 : decode cX8_objectAt 1 = .ok (.getfield 25, 3) := dr9 dk9_dX8_objectAt_0_0 1 (1, .getfield 25, 3) rfl
theorem dX8_objectAt_4 : decode cX8_objectAt 4 = .ok (.iload_n 1, 1) := dr9 dk9_dX8_objectAt_0_0 2 (4, .iload_n 1, 1) rfl
theorem dX8_objectAt_5 : decode cX8_objectAt 5 = .ok (.bipush 24, 2) := dr9 dk9_dX8_objectAt_0_0 3 (5, .bipush 24, 2) rfl
theorem dX8_objectAt_7 : decode cX8_objectAt 7 = .ok (.imul, 1) := dr9 dk9_dX8_objectAt_0_0 4 (7, .imul, 1) rfl
theorem dX8_objectAt_8 : decode cX8_objectAt 8 = .ok (.iload_n 2, 1) := dr9 dk9_dX8_objectAt_0_0 5 (8, .iload_n 2, 1) rfl
theorem dX8_objectAt_9 : decode cX8_objectAt 9 = .ok (.iadd, 1) := dr9 dk9_dX8_objectAt_0_0 6 (9, .iadd, 1) rfl
theorem dX8_objectAt_10 : decode cX8_objectAt 10 = .ok (.iaload, 1) := dr9 dk9_dX8_objectAt_0_0 7 (10, .iaload, 1) rfl
theorem dX8_objectAt_11 : decode cX8_objectAt 11 = .ok (.ireturn, 1) := dr9 dk9_dX8_objectAt_0_0 8 (11, .ireturn, 1) rfl
theorem dk9_dX8_finishObject_0_0 : dOk cX8_finishObject [(0, .aload_n 0, 1), (1, .getfield 34, 3), (4, .iload_n 1, 1), (5, .iconst 1, 1), (6, .iastore, 1), (7, .aload_n 0, 1), (8, .getfield 37, 3), (11, .iload_n 1, 1), (12, .aload_n 0, 1), (13, .dup, 1), (14, .getfield 66, 3), (17, .dup_x1, 1), (18, .iconst 1, 1), (19, .iadd, 1), (20, .putfield 66, 3), (23, .iastore, 1), (24, .return_, 1)] = true := by decide +kernel
theorem dX8_finishObject_0 : decode cX8_finishObject 0 = .ok (.aload_n 0, 1) := dr9 dk9_dX8_finishObject_0_0 0 (0, .aload_n 0, 1) rfl
theorem dX8_finishObject_1 : decode cX8_finishObject 1 = .ok (.getfield 34, 3) := dr9 dk9_dX8_finishObject_0_0 1 (1, .getfield 34, 3) rfl
theorem dX8_finishObject_4 : decode cX8_finishObject 4 = .ok (.iload_n 1, 1) := dr9 dk9_dX8_finishObject_0_0 2 (4, .iload_n 1, 1) rfl
theorem dX8_finishObject_5 : decode cX8_finishObject 5 = .ok (.iconst 1, 1) := dr9 dk9_dX8_finishObject_0_0 3 (5, .iconst 1, 1) rfl
theorem dX8_finishObject_6 : decode cX8_finishObject 6 = .ok (.iastore, 1) := dr9 dk9_dX8_finishObject_0_0 4 (6, .iastore, 1) rfl
theorem dX8_finishObject_7 : decode cX8_finishObject 7 = .ok (.aload_n 0, 1) := dr9 dk9_dX8_finishObject_0_0 5 (7, .aload_n 0, 1) rfl
theorem dX8_finishObject_8 : decode cX8_finishObject 8 = .ok (.getfield 37, 3) := dr9 dk9_dX8_finishObject_0_0 6 (8, .getfield 37, 3) rfl
theorem dX8_finishObject_11 : decode cX8_finishObject 11 = .ok (.iload_n 1, 1) := dr9 dk9_dX8_finishObject_0_0 7 (11, .iload_n 1, 1) rfl
theorem dX8_finishObject_12 : decode cX8_finishObject 12 = .ok (.aload_n 0, 1) := dr9 dk9_dX8_finishObject_0_0 8 (12, .aload_n 0, 1) rfl
theorem dX8_finishObject_13 : decode cX8_finishObject 13 = .ok (.dup, 1) := dr9 dk9_dX8_finishObject_0_0 9 (13, .dup, 1) rfl
theorem dX8_finishObject_14 : decode cX8_finishObject 14 = .ok (.getfield 66, 3) := dr9 dk9_dX8_finishObject_0_0 10 (14, .getfield 66, 3) rfl
theorem dX8_finishObject_17 : decode cX8_finishObject 17 = .ok (.dup_x1, 1) := dr9 dk9_dX8_finishObject_0_0 11 (17, .dup_x1, 1) rfl
theorem dX8_finishObject_18 : decode cX8_finishObject 18 = .ok (.iconst 1, 1) := dr9 dk9_dX8_finishObject_0_0 12 (18, .iconst 1, 1) rfl
theorem dX8_finishObject_19 : decode cX8_finishObject 19 = .ok (.iadd, 1) := dr9 dk9_dX8_finishObject_0_0 13 (19, .iadd, 1) rfl
theorem dX8_finishObject_20 : decode cX8_finishObject 20 = .ok (.putfield 66, 3) := dr9 dk9_dX8_finishObject_0_0 14 (20, .putfield 66, 3) rfl
theorem dX8_finishObject_23 : decode cX8_finishObject 23 = .ok (.iastore, 1) := dr9 dk9_dX8_finishObject_0_0 15 (23, .iastore, 1) rfl
theorem dX8_finishObject_24 : decode cX8_finishObject 24 = .ok (.return_, 1) := dr9 dk9_dX8_finishObject_0_0 16 (24, .return_, 1) rfl
theorem dk9_dX8_dropObject_0_0 : dOk cX8_dropObject [(0, .aload_n 0, 1), (1, .getfield 31, 3), (4, .iload_n 1, 1), (5, .iaload, 1), (6, .bipush 24, 2), (8, .imul, 1), (9, .aload_n 0, 1), (10, .getfield 28, 3), (13, .iload_n 1, 1), (14, .iaload, 1), (15, .iadd, 1), (16, .istore_n 2, 1), (17, .aload_n 0, 1), (18, .getfield 34, 3), (21, .iload_n 1, 1), (22, .iconst 2, 1), (23, .iastore, 1), (24, .aload_n 0, 1), (25, .getfield 25, 3), (28, .iload_n 2, 1), (29, .iaload, 1), (30, .iload_n 1, 1), (31, .if_icmp .ne 10, 3), (41, .return_, 1)] = true ∧ dOk cX8_dropObject [(34, .aload_n 0, 1), (35, .getfield 25, 3), (38, .iload_n 2, 1), (39, .iconst (-1), 1), (40, .iastore, 1)] = true := by decide +kernel
theorem dX8_dropObject_0 : decode cX8_dropObject 0 = .ok (.aload_n 0, 1) := dr9 dk9_dX8_dropObject_0_0.1 0 (0, .aload_n 0, 1) rfl
theorem dX8_dropObject_1 : decode cX8_dropObject 1 = .ok (.getfield 31, 3) := dr9 dk9_dX8_dropObject_0_0.1 1 (1, .getfield 31, 3) rfl
theorem dX8_dropObject_4 : decode cX8_dropObject 4 = .ok (.iload_n 1, 1) := dr9 dk9_dX8_dropObject_0_0.1 2 (4, .iload_n 1, 1) rfl
theorem dX8_dropObject_5 : decode cX8_dropObject 5 = .ok (.iaload, 1) := dr9 dk9_dX8_dropObject_0_0.1 3 (5, .iaload, 1) rfl
theorem dX8_dropObject_6 : decode cX8_dropObject 6 = .ok (.bipush 24, 2) := dr9 dk9_dX8_dropObject_0_0.1 4 (6, .bipush 24, 2) rfl
theorem dX8_dropObject_8 : decode cX8_dropObject 8 = .ok (.imul, 1) := dr9 dk9_dX8_dropObject_0_0.1 5 (8, .imul, 1) rfl
theorem dX8_dropObject_9 : decode cX8_dropObject 9 = .ok (.aload_n 0, 1) := dr9 dk9_dX8_dropObject_0_0.1 6 (9, .aload_n 0, 1) rfl
theorem dX8_dropObject_10 : decode cX8_dropObject 10 = .ok (.getfield 28, 3) := dr9 dk9_dX8_dropObject_0_0.1 7 (10, .getfield 28, 3) rfl
theorem dX8_dropObject_13 : decode cX8_dropObject 13 = .ok (.iload_n 1, 1) := dr9 dk9_dX8_dropObject_0_0.1 8 (13, .iload_n 1, 1) rfl
theorem dX8_dropObject_14 : decode cX8_dropObject 14 = .ok (.iaload, 1) := dr9 dk9_dX8_dropObject_0_0.1 9 (14, .iaload, 1) rfl
theorem dX8_dropObject_15 : decode cX8_dropObject 15 = .ok (.iadd, 1) := dr9 dk9_dX8_dropObject_0_0.1 10 (15, .iadd, 1) rfl
theorem dX8_dropObject_16 : decode cX8_dropObject 16 = .ok (.istore_n 2, 1) := dr9 dk9_dX8_dropObject_0_0.1 11 (16, .istore_n 2, 1) rfl
theorem dX8_dropObject_17 : decode cX8_dropObject 17 = .ok (.aload_n 0, 1) := dr9 dk9_dX8_dropObject_0_0.1 12 (17, .aload_n 0, 1) rfl
theorem dX8_dropObject_18 : decode cX8_dropObject 18 = .ok (.getfield 34, 3) := dr9 dk9_dX8_dropObject_0_0.1 13 (18, .getfield 34, 3) rfl
theorem dX8_dropObject_21 : decode cX8_dropObject 21 = .ok (.iload_n 1, 1) := dr9 dk9_dX8_dropObject_0_0.1 14 (21, .iload_n 1, 1) rfl
theorem dX8_dropObject_22 : decode cX8_dropObject 22 = .ok (.iconst 2, 1) := dr9 dk9_dX8_dropObject_0_0.1 15 (22, .iconst 2, 1) rfl
theorem dX8_dropObject_23 : decode cX8_dropObject 23 = .ok (.iastore, 1) := dr9 dk9_dX8_dropObject_0_0.1 16 (23, .iastore, 1) rfl
theorem dX8_dropObject_24 : decode cX8_dropObject 24 = .ok (.aload_n 0, 1) := dr9 dk9_dX8_dropObject_0_0.1 17 (24, .aload_n 0, 1) rfl
theorem dX8_dropObject_25 : decode cX8_dropObject 25 = .ok (.getfield 25, 3) := dr9 dk9_dX8_dropObject_0_0.1 18 (25, .getfield 25, 3) rfl
theorem dX8_dropObject_28 : decode cX8_dropObject 28 = .ok (.iload_n 2, 1) := dr9 dk9_dX8_dropObject_0_0.1 19 (28, .iload_n 2, 1) rfl
theorem dX8_dropObject_29 : decode cX8_dropObject 29 = .ok (.iaload, 1) := dr9 dk9_dX8_dropObject_0_0.1 20 (29, .iaload, 1) rfl
theorem dX8_dropObject_30 : decode cX8_dropObject 30 = .ok (.iload_n 1, 1) := dr9 dk9_dX8_dropObject_0_0.1 21 (30, .iload_n 1, 1) rfl
theorem dX8_dropObject_31 : decode cX8_dropObject 31 = .ok (.if_icmp .ne 10, 3) := dr9 dk9_dX8_dropObject_0_0.1 22 (31, .if_icmp .ne 10, 3) rfl
theorem dX8_dropObject_41 : decode cX8_dropObject 41 = .ok (.return_, 1) := dr9 dk9_dX8_dropObject_0_0.1 23 (41, .return_, 1) rfl
theorem dX8_dropObject_34 : decode cX8_dropObject 34 = .ok (.aload_n 0, 1) := dr9 dk9_dX8_dropObject_0_0.2 0 (34, .aload_n 0, 1) rfl
theorem dX8_dropObject_35 : decode cX8_dropObject 35 = .ok (.getfield 25, 3) := dr9 dk9_dX8_dropObject_0_0.2 1 (35, .getfield 25, 3) rfl
theorem dX8_dropObject_38 : decode cX8_dropObject 38 = .ok (.iload_n 2, 1) := dr9 dk9_dX8_dropObject_0_0.2 2 (38, .iload_n 2, 1) rfl
theorem dX8_dropObject_39 : decode cX8_dropObject 39 = .ok (.iconst (-1), 1) := dr9 dk9_dX8_dropObject_0_0.2 3 (39, .iconst (-1), 1) rfl
theorem dX8_dropObject_40 : decode cX8_dropObject 40 = .ok (.iastore, 1) := dr9 dk9_dX8_dropObject_0_0.2 4 (40, .iastore, 1) rfl
theorem dk9_dX8_madeObjects_0_0 : dOk cX8_madeObjects [(0, .iconst 0, 1), (1, .istore_n 1, 1), (2, .iconst 0, 1), (3, .istore_n 2, 1), (4, .iload_n 2, 1), (5, .aload_n 0, 1), (6, .getfield 63, 3), (9, .if_icmp .ge 27, 3), (36, .iload_n 1, 1), (37, .ireturn, 1), (12, .iload_n 1, 1), (13, .aload_n 0, 1), (14, .getfield 34, 3), (17, .iload_n 2, 1), (18, .iaload, 1), (19, .iconst 1, 1), (20, .if_icmp .ne 7, 3), (27, .iconst 0, 1), (28, .iadd, 1), (29, .istore_n 1, 1), (30, .iinc 2 1, 3), (33, .goto (-29), 3), (23, .iconst 1, 1), (24, .goto 4, 3)] = true := by decide +kernel
theorem dX8_madeObjects_0 : decode cX8_madeObjects 0 = .ok (.iconst 0, 1) := dr9 dk9_dX8_madeObjects_0_0 0 (0, .iconst 0, 1) rfl
theorem dX8_madeObjects_1 : decode cX8_madeObjects 1 = .ok (.istore_n 1, 1) := dr9 dk9_dX8_madeObjects_0_0 1 (1, .istore_n 1, 1) rfl
theorem dX8_madeObjects_2 : decode cX8_madeObjects 2 = .ok (.iconst 0, 1) := dr9 dk9_dX8_madeObjects_0_0 2 (2, .iconst 0, 1) rfl
theorem dX8_madeObjects_3 : decode cX8_madeObjects 3 = .ok (.istore_n 2, 1) := dr9 dk9_dX8_madeObjects_0_0 3 (3, .istore_n 2, 1) rfl
theorem dX8_madeObjects_4 : decode cX8_madeObjects 4 = .ok (.iload_n 2, 1) := dr9 dk9_dX8_madeObjects_0_0 4 (4, .iload_n 2, 1) rfl
theorem dX8_madeObjects_5 : decode cX8_madeObjects 5 = .ok (.aload_n 0, 1) := dr9 dk9_dX8_madeObjects_0_0 5 (5, .aload_n 0, 1) rfl
theorem dX8_madeObjects_6 : decode cX8_madeObjects 6 = .ok (.getfield 63, 3) := dr9 dk9_dX8_madeObjects_0_0 6 (6, .getfield 63, 3) rfl
theorem dX8_madeObjects_9 : decode cX8_madeObjects 9 = .ok (.if_icmp .ge 27, 3) := dr9 dk9_dX8_madeObjects_0_0 7 (9, .if_icmp .ge 27, 3) rfl
theorem dX8_madeObjects_36 : decode cX8_madeObjects 36 = .ok (.iload_n 1, 1) := dr9 dk9_dX8_madeObjects_0_0 8 (36, .iload_n 1, 1) rfl
theorem dX8_madeObjects_37 : decode cX8_madeObjects 37 = .ok (.ireturn, 1) := dr9 dk9_dX8_madeObjects_0_0 9 (37, .ireturn, 1) rfl
theorem dX8_madeObjects_12 : decode cX8_madeObjects 12 = .ok (.iload_n 1, 1) := dr9 dk9_dX8_madeObjects_0_0 10 (12, .iload_n 1, 1) rfl
theorem dX8_madeObjects_13 : decode cX8_madeObjects 13 = .ok (.aload_n 0, 1) := dr9 dk9_dX8_madeObjects_0_0 11 (13, .aload_n 0, 1) rfl
theorem dX8_madeObjects_14 : decode cX8_madeObjects 14 = .ok (.getfield 34, 3) := dr9 dk9_dX8_madeObjects_0_0 12 (14, .getfield 34, 3) rfl
theorem dX8_madeObjects_17 : decode cX8_madeObjects 17 = .ok (.iload_n 2, 1) := dr9 dk9_dX8_madeObjects_0_0 13 (17, .iload_n 2, 1) rfl
theorem dX8_madeObjects_18 : decode cX8_madeObjects 18 = .ok (.iaload, 1) := dr9 dk9_dX8_madeObjects_0_0 14 (18, .iaload, 1) rfl
theorem dX8_madeObjects_19 : decode cX8_madeObjects 19 = .ok (.iconst 1, 1) := dr9 dk9_dX8_madeObjects_0_0 15 (19, .iconst 1, 1) rfl
theorem dX8_madeObjects_20 : decode cX8_madeObjects 20 = .ok (.if_icmp .ne 7, 3) := dr9 dk9_dX8_madeObjects_0_0 16 (20, .if_icmp .ne 7, 3) rfl
theorem dX8_madeObjects_27 : decode cX8_madeObjects 27 = .ok (.iconst 0, 1) := dr9 dk9_dX8_madeObjects_0_0 17 (27, .iconst 0, 1) rfl
theorem dX8_madeObjects_28 : decode cX8_madeObjects 28 = .ok (.iadd, 1) := dr9 dk9_dX8_madeObjects_0_0 18 (28, .iadd, 1) rfl
theorem dX8_madeObjects_29 : decode cX8_madeObjects 29 = .ok (.istore_n 1, 1) := dr9 dk9_dX8_madeObjects_0_0 19 (29, .istore_n 1, 1) rfl
theorem dX8_madeObjects_30 : decode cX8_madeObjects 30 = .ok (.iinc 2 1, 3) := dr9 dk9_dX8_madeObjects_0_0 20 (30, .iinc 2 1, 3) rfl
theorem dX8_madeObjects_33 : decode cX8_madeObjects 33 = .ok (.goto (-29), 3) := dr9 dk9_dX8_madeObjects_0_0 21 (33, .goto (-29), 3) rfl
theorem dX8_madeObjects_23 : decode cX8_madeObjects 23 = .ok (.iconst 1, 1) := dr9 dk9_dX8_madeObjects_0_0 22 (23, .iconst 1, 1) rfl
theorem dX8_madeObjects_24 : decode cX8_madeObjects 24 = .ok (.goto 4, 3) := dr9 dk9_dX8_madeObjects_0_0 23 (24, .goto 4, 3) rfl
theorem dk9_dX8_latestMade_0_0 : dOk cX8_latestMade [(0, .iconst (-1), 1), (1, .istore_n 2, 1), (2, .iconst 0, 1), (3, .istore_n 3, 1), (4, .iload_n 3, 1), (5, .aload_n 0, 1), (6, .getfield 63, 3), (9, .if_icmp .ge 63, 3), (72, .iload_n 2, 1), (73, .ireturn, 1), (12, .aload_n 0, 1), (13, .getfield 34, 3), (16, .iload_n 3, 1), (17, .iaload, 1), (18, .iconst 1, 1), (19, .if_icmp .ne 17, 3), (36, .iconst 0, 1), (37, .istore 4, 2), (39, .iload 4, 2), (41, .ifCond .eq 25, 3), (66, .iinc 3 1, 3), (69, .goto (-65), 3), (22, .aload_n 0, 1), (23, .getfield 31, 3)] = true ∧ dOk cX8_latestMade [(26, .iload_n 3, 1), (27, .iaload, 1), (28, .iload_n 1, 1), (29, .if_icmp .ne 7, 3), (32, .iconst 1, 1), (33, .goto 4, 3), (44, .iload_n 2, 1), (45, .iconst (-1), 1), (46, .if_icmp .eq 18, 3), (64, .iload_n 3, 1), (65, .istore_n 2, 1), (49, .aload_n 0, 1), (50, .getfield 37, 3), (53, .iload_n 3, 1), (54, .iaload, 1), (55, .aload_n 0, 1), (56, .getfield 37, 3), (59, .iload_n 2, 1), (60, .iaload, 1), (61, .if_icmp .le 5, 3)] = true := by decide +kernel
theorem dX8_latestMade_0 : decode cX8_latestMade 0 = .ok (.iconst (-1), 1) := dr9 dk9_dX8_latestMade_0_0.1 0 (0, .iconst (-1), 1) rfl
theorem dX8_latestMade_1 : decode cX8_latestMade 1 = .ok (.istore_n 2, 1) := dr9 dk9_dX8_latestMade_0_0.1 1 (1, .istore_n 2, 1) rfl
theorem dX8_latestMade_2 : decode cX8_latestMade 2 = .ok (.iconst 0, 1) := dr9 dk9_dX8_latestMade_0_0.1 2 (2, .iconst 0, 1) rfl
theorem dX8_latestMade_3 : decode cX8_latestMade 3 = .ok (.istore_n 3, 1) := dr9 dk9_dX8_latestMade_0_0.1 3 (3, .istore_n 3, 1) rfl
theorem dX8_latestMade_4 : decode cX8_latestMade 4 = .ok (.iload_n 3, 1) := dr9 dk9_dX8_latestMade_0_0.1 4 (4, .iload_n 3, 1) rfl
theorem dX8_latestMade_5 : decode cX8_latestMade 5 = .ok (.aload_n 0, 1) := dr9 dk9_dX8_latestMade_0_0.1 5 (5, .aload_n 0, 1) rfl
theorem dX8_latestMade_6 : decode cX8_latestMade 6 = .ok (.getfield 63, 3) := dr9 dk9_dX8_latestMade_0_0.1 6 (6, .getfield 63, 3) rfl
theorem dX8_latestMade_9 : decode cX8_latestMade 9 = .ok (.if_icmp .ge 63, 3) := dr9 dk9_dX8_latestMade_0_0.1 7 (9, .if_icmp .ge 63, 3) rfl
theorem dX8_latestMade_72 : decode cX8_latestMade 72 = .ok (.iload_n 2, 1) := dr9 dk9_dX8_latestMade_0_0.1 8 (72, .iload_n 2, 1) rfl
theorem dX8_latestMade_73 : decode cX8_latestMade 73 = .ok (.ireturn, 1) := dr9 dk9_dX8_latestMade_0_0.1 9 (73, .ireturn, 1) rfl
theorem dX8_latestMade_12 : decode cX8_latestMade 12 = .ok (.aload_n 0, 1) := dr9 dk9_dX8_latestMade_0_0.1 10 (12, .aload_n 0, 1) rfl
theorem dX8_latestMade_13 : decode cX8_latestMade 13 = .ok (.getfield 34, 3) := dr9 dk9_dX8_latestMade_0_0.1 11 (13, .getfield 34, 3) rfl
theorem dX8_latestMade_16 : decode cX8_latestMade 16 = .ok (.iload_n 3, 1) := dr9 dk9_dX8_latestMade_0_0.1 12 (16, .iload_n 3, 1) rfl
theorem dX8_latestMade_17 : decode cX8_latestMade 17 = .ok (.iaload, 1) := dr9 dk9_dX8_latestMade_0_0.1 13 (17, .iaload, 1) rfl
theorem dX8_latestMade_18 : decode cX8_latestMade 18 = .ok (.iconst 1, 1) := dr9 dk9_dX8_latestMade_0_0.1 14 (18, .iconst 1, 1) rfl
theorem dX8_latestMade_19 : decode cX8_latestMade 19 = .ok (.if_icmp .ne 17, 3) := dr9 dk9_dX8_latestMade_0_0.1 15 (19, .if_icmp .ne 17, 3) rfl
theorem dX8_latestMade_36 : decode cX8_latestMade 36 = .ok (.iconst 0, 1) := dr9 dk9_dX8_latestMade_0_0.1 16 (36, .iconst 0, 1) rfl
theorem dX8_latestMade_37 : decode cX8_latestMade 37 = .ok (.istore 4, 2) := dr9 dk9_dX8_latestMade_0_0.1 17 (37, .istore 4, 2) rfl
theorem dX8_latestMade_39 : decode cX8_latestMade 39 = .ok (.iload 4, 2) := dr9 dk9_dX8_latestMade_0_0.1 18 (39, .iload 4, 2) rfl
theorem dX8_latestMade_41 : decode cX8_latestMade 41 = .ok (.ifCond .eq 25, 3) := dr9 dk9_dX8_latestMade_0_0.1 19 (41, .ifCond .eq 25, 3) rfl
theorem dX8_latestMade_66 : decode cX8_latestMade 66 = .ok (.iinc 3 1, 3) := dr9 dk9_dX8_latestMade_0_0.1 20 (66, .iinc 3 1, 3) rfl
theorem dX8_latestMade_69 : decode cX8_latestMade 69 = .ok (.goto (-65), 3) := dr9 dk9_dX8_latestMade_0_0.1 21 (69, .goto (-65), 3) rfl
theorem dX8_latestMade_22 : decode cX8_latestMade 22 = .ok (.aload_n 0, 1) := dr9 dk9_dX8_latestMade_0_0.1 22 (22, .aload_n 0, 1) rfl
theorem dX8_latestMade_23 : decode cX8_latestMade 23 = .ok (.getfield 31, 3) := dr9 dk9_dX8_latestMade_0_0.1 23 (23, .getfield 31, 3) rfl
theorem dX8_latestMade_26 : decode cX8_latestMade 26 = .ok (.iload_n 3, 1) := dr9 dk9_dX8_latestMade_0_0.2 0 (26, .iload_n 3, 1) rfl
theorem dX8_latestMade_27 : decode cX8_latestMade 27 = .ok (.iaload, 1) := dr9 dk9_dX8_latestMade_0_0.2 1 (27, .iaload, 1) rfl
theorem dX8_latestMade_28 : decode cX8_latestMade 28 = .ok (.iload_n 1, 1) := dr9 dk9_dX8_latestMade_0_0.2 2 (28, .iload_n 1, 1) rfl
theorem dX8_latestMade_29 : decode cX8_latestMade 29 = .ok (.if_icmp .ne 7, 3) := dr9 dk9_dX8_latestMade_0_0.2 3 (29, .if_icmp .ne 7, 3) rfl
theorem dX8_latestMade_32 : decode cX8_latestMade 32 = .ok (.iconst 1, 1) := dr9 dk9_dX8_latestMade_0_0.2 4 (32, .iconst 1, 1) rfl
theorem dX8_latestMade_33 : decode cX8_latestMade 33 = .ok (.goto 4, 3) := dr9 dk9_dX8_latestMade_0_0.2 5 (33, .goto 4, 3) rfl
theorem dX8_latestMade_44 : decode cX8_latestMade 44 = .ok (.iload_n 2, 1) := dr9 dk9_dX8_latestMade_0_0.2 6 (44, .iload_n 2, 1) rfl
theorem dX8_latestMade_45 : decode cX8_latestMade 45 = .ok (.iconst (-1), 1) := dr9 dk9_dX8_latestMade_0_0.2 7 (45, .iconst (-1), 1) rfl
theorem dX8_latestMade_46 : decode cX8_latestMade 46 = .ok (.if_icmp .eq 18, 3) := dr9 dk9_dX8_latestMade_0_0.2 8 (46, .if_icmp .eq 18, 3) rfl
theorem dX8_latestMade_64 : decode cX8_latestMade 64 = .ok (.iload_n 3, 1) := dr9 dk9_dX8_latestMade_0_0.2 9 (64, .iload_n 3, 1) rfl
theorem dX8_latestMade_65 : decode cX8_latestMade 65 = .ok (.istore_n 2, 1) := dr9 dk9_dX8_latestMade_0_0.2 10 (65, .istore_n 2, 1) rfl
theorem dX8_latestMade_49 : decode cX8_latestMade 49 = .ok (.aload_n 0, 1) := dr9 dk9_dX8_latestMade_0_0.2 11 (49, .aload_n 0, 1) rfl
theorem dX8_latestMade_50 : decode cX8_latestMade 50 = .ok (.getfield 37, 3) := dr9 dk9_dX8_latestMade_0_0.2 12 (50, .getfield 37, 3) rfl
theorem dX8_latestMade_53 : decode cX8_latestMade 53 = .ok (.iload_n 3, 1) := dr9 dk9_dX8_latestMade_0_0.2 13 (53, .iload_n 3, 1) rfl
theorem dX8_latestMade_54 : decode cX8_latestMade 54 = .ok (.iaload, 1) := dr9 dk9_dX8_latestMade_0_0.2 14 (54, .iaload, 1) rfl
theorem dX8_latestMade_55 : decode cX8_latestMade 55 = .ok (.aload_n 0, 1) := dr9 dk9_dX8_latestMade_0_0.2 15 (55, .aload_n 0, 1) rfl
theorem dX8_latestMade_56 : decode cX8_latestMade 56 = .ok (.getfield 37, 3) := dr9 dk9_dX8_latestMade_0_0.2 16 (56, .getfield 37, 3) rfl
theorem dX8_latestMade_59 : decode cX8_latestMade 59 = .ok (.iload_n 2, 1) := dr9 dk9_dX8_latestMade_0_0.2 17 (59, .iload_n 2, 1) rfl
theorem dX8_latestMade_60 : decode cX8_latestMade 60 = .ok (.iaload, 1) := dr9 dk9_dX8_latestMade_0_0.2 18 (60, .iaload, 1) rfl
theorem dX8_latestMade_61 : decode cX8_latestMade 61 = .ok (.if_icmp .le 5, 3) := dr9 dk9_dX8_latestMade_0_0.2 19 (61, .if_icmp .le 5, 3) rfl
theorem dk9_dX8_joinedTo_0_0 : dOk cX8_joinedTo [(0, .aload_n 0, 1), (1, .iload_n 1, 1), (2, .invokevirtual 76, 3), (5, .ifCond .eq 17, 3), (22, .iconst (-1), 1), (23, .ireturn, 1), (8, .iload_n 2, 1), (9, .ifCond .lt 13, 3), (12, .iload_n 2, 1), (13, .bipush 8, 2), (15, .if_icmp .ge 7, 3), (18, .iload_n 3, 1), (19, .ifCond .ge 5, 3), (24, .aload_n 0, 1), (25, .getfield 40, 3), (28, .iload_n 1, 1), (29, .bipush 8, 2), (31, .imul, 1), (32, .iload_n 2, 1), (33, .iadd, 1), (34, .iaload, 1), (35, .istore 4, 2), (37, .iconst 0, 1), (38, .istore 5, 2)] = true ∧ dOk cX8_joinedTo [(40, .iload 5, 2), (42, .iload_n 3, 1), (43, .if_icmp .ge 24, 3), (67, .iload 4, 2), (69, .iconst (-1), 1), (70, .if_icmp .ne 7, 3), (77, .aload_n 0, 1), (78, .getfield 43, 3), (81, .iload 4, 2), (83, .iaload, 1), (84, .ireturn, 1), (73, .iconst (-1), 1), (74, .goto 10, 3), (46, .iload 4, 2), (48, .iconst (-1), 1), (49, .if_icmp .eq 18, 3), (52, .aload_n 0, 1), (53, .getfield 46, 3), (56, .iload 4, 2), (58, .iaload, 1), (59, .istore 4, 2), (61, .iinc 5 1, 3), (64, .goto (-24), 3)] = true := by decide +kernel
theorem dX8_joinedTo_0 : decode cX8_joinedTo 0 = .ok (.aload_n 0, 1) := dr9 dk9_dX8_joinedTo_0_0.1 0 (0, .aload_n 0, 1) rfl
theorem dX8_joinedTo_1 : decode cX8_joinedTo 1 = .ok (.iload_n 1, 1) := dr9 dk9_dX8_joinedTo_0_0.1 1 (1, .iload_n 1, 1) rfl
theorem dX8_joinedTo_2 : decode cX8_joinedTo 2 = .ok (.invokevirtual 76, 3) := dr9 dk9_dX8_joinedTo_0_0.1 2 (2, .invokevirtual 76, 3) rfl
theorem dX8_joinedTo_5 : decode cX8_joinedTo 5 = .ok (.ifCond .eq 17, 3) := dr9 dk9_dX8_joinedTo_0_0.1 3 (5, .ifCond .eq 17, 3) rfl
theorem dX8_joinedTo_22 : decode cX8_joinedTo 22 = .ok (.iconst (-1), 1) := dr9 dk9_dX8_joinedTo_0_0.1 4 (22, .iconst (-1), 1) rfl
theorem dX8_joinedTo_23 : decode cX8_joinedTo 23 = .ok (.ireturn, 1) := dr9 dk9_dX8_joinedTo_0_0.1 5 (23, .ireturn, 1) rfl
theorem dX8_joinedTo_8 : decode cX8_joinedTo 8 = .ok (.iload_n 2, 1) := dr9 dk9_dX8_joinedTo_0_0.1 6 (8, .iload_n 2, 1) rfl
theorem dX8_joinedTo_9 : decode cX8_joinedTo 9 = .ok (.ifCond .lt 13, 3) := dr9 dk9_dX8_joinedTo_0_0.1 7 (9, .ifCond .lt 13, 3) rfl
theorem dX8_joinedTo_12 : decode cX8_joinedTo 12 = .ok (.iload_n 2, 1) := dr9 dk9_dX8_joinedTo_0_0.1 8 (12, .iload_n 2, 1) rfl
theorem dX8_joinedTo_13 : decode cX8_joinedTo 13 = .ok (.bipush 8, 2) := dr9 dk9_dX8_joinedTo_0_0.1 9 (13, .bipush 8, 2) rfl
theorem dX8_joinedTo_15 : decode cX8_joinedTo 15 = .ok (.if_icmp .ge 7, 3) := dr9 dk9_dX8_joinedTo_0_0.1 10 (15, .if_icmp .ge 7, 3) rfl
theorem dX8_joinedTo_18 : decode cX8_joinedTo 18 = .ok (.iload_n 3, 1) := dr9 dk9_dX8_joinedTo_0_0.1 11 (18, .iload_n 3, 1) rfl
theorem dX8_joinedTo_19 : decode cX8_joinedTo 19 = .ok (.ifCond .ge 5, 3) := dr9 dk9_dX8_joinedTo_0_0.1 12 (19, .ifCond .ge 5, 3) rfl
theorem dX8_joinedTo_24 : decode cX8_joinedTo 24 = .ok (.aload_n 0, 1) := dr9 dk9_dX8_joinedTo_0_0.1 13 (24, .aload_n 0, 1) rfl
theorem dX8_joinedTo_25 : decode cX8_joinedTo 25 = .ok (.getfield 40, 3) := dr9 dk9_dX8_joinedTo_0_0.1 14 (25, .getfield 40, 3) rfl
theorem dX8_joinedTo_28 : decode cX8_joinedTo 28 = .ok (.iload_n 1, 1) := dr9 dk9_dX8_joinedTo_0_0.1 15 (28, .iload_n 1, 1) rfl
theorem dX8_joinedTo_29 : decode cX8_joinedTo 29 = .ok (.bipush 8, 2) := dr9 dk9_dX8_joinedTo_0_0.1 16 (29, .bipush 8, 2) rfl
theorem dX8_joinedTo_31 : decode cX8_joinedTo 31 = .ok (.imul, 1) := dr9 dk9_dX8_joinedTo_0_0.1 17 (31, .imul, 1) rfl
theorem dX8_joinedTo_32 : decode cX8_joinedTo 32 = .ok (.iload_n 2, 1) := dr9 dk9_dX8_joinedTo_0_0.1 18 (32, .iload_n 2, 1) rfl
theorem dX8_joinedTo_33 : decode cX8_joinedTo 33 = .ok (.iadd, 1) := dr9 dk9_dX8_joinedTo_0_0.1 19 (33, .iadd, 1) rfl
theorem dX8_joinedTo_34 : decode cX8_joinedTo 34 = .ok (.iaload, 1) := dr9 dk9_dX8_joinedTo_0_0.1 20 (34, .iaload, 1) rfl
theorem dX8_joinedTo_35 : decode cX8_joinedTo 35 = .ok (.istore 4, 2) := dr9 dk9_dX8_joinedTo_0_0.1 21 (35, .istore 4, 2) rfl
theorem dX8_joinedTo_37 : decode cX8_joinedTo 37 = .ok (.iconst 0, 1) := dr9 dk9_dX8_joinedTo_0_0.1 22 (37, .iconst 0, 1) rfl
theorem dX8_joinedTo_38 : decode cX8_joinedTo 38 = .ok (.istore 5, 2) := dr9 dk9_dX8_joinedTo_0_0.1 23 (38, .istore 5, 2) rfl
theorem dX8_joinedTo_40 : decode cX8_joinedTo 40 = .ok (.iload 5, 2) := dr9 dk9_dX8_joinedTo_0_0.2 0 (40, .iload 5, 2) rfl
theorem dX8_joinedTo_42 : decode cX8_joinedTo 42 = .ok (.iload_n 3, 1) := dr9 dk9_dX8_joinedTo_0_0.2 1 (42, .iload_n 3, 1) rfl
theorem dX8_joinedTo_43 : decode cX8_joinedTo 43 = .ok (.if_icmp .ge 24, 3) := dr9 dk9_dX8_joinedTo_0_0.2 2 (43, .if_icmp .ge 24, 3) rfl
theorem dX8_joinedTo_67 : decode cX8_joinedTo 67 = .ok (.iload 4, 2) := dr9 dk9_dX8_joinedTo_0_0.2 3 (67, .iload 4, 2) rfl
theorem dX8_joinedTo_69 : decode cX8_joinedTo 69 = .ok (.iconst (-1), 1) := dr9 dk9_dX8_joinedTo_0_0.2 4 (69, .iconst (-1), 1) rfl
theorem dX8_joinedTo_70 : decode cX8_joinedTo 70 = .ok (.if_icmp .ne 7, 3) := dr9 dk9_dX8_joinedTo_0_0.2 5 (70, .if_icmp .ne 7, 3) rfl
theorem dX8_joinedTo_77 : decode cX8_joinedTo 77 = .ok (.aload_n 0, 1) := dr9 dk9_dX8_joinedTo_0_0.2 6 (77, .aload_n 0, 1) rfl
theorem dX8_joinedTo_78 : decode cX8_joinedTo 78 = .ok (.getfield 43, 3) := dr9 dk9_dX8_joinedTo_0_0.2 7 (78, .getfield 43, 3) rfl
theorem dX8_joinedTo_81 : decode cX8_joinedTo 81 = .ok (.iload 4, 2) := dr9 dk9_dX8_joinedTo_0_0.2 8 (81, .iload 4, 2) rfl
theorem dX8_joinedTo_83 : decode cX8_joinedTo 83 = .ok (.iaload, 1) := dr9 dk9_dX8_joinedTo_0_0.2 9 (83, .iaload, 1) rfl
theorem dX8_joinedTo_84 : decode cX8_joinedTo 84 = .ok (.ireturn, 1) := dr9 dk9_dX8_joinedTo_0_0.2 10 (84, .ireturn, 1) rfl
theorem dX8_joinedTo_73 : decode cX8_joinedTo 73 = .ok (.iconst (-1), 1) := dr9 dk9_dX8_joinedTo_0_0.2 11 (73, .iconst (-1), 1) rfl
theorem dX8_joinedTo_74 : decode cX8_joinedTo 74 = .ok (.goto 10, 3) := dr9 dk9_dX8_joinedTo_0_0.2 12 (74, .goto 10, 3) rfl
theorem dX8_joinedTo_46 : decode cX8_joinedTo 46 = .ok (.iload 4, 2) := dr9 dk9_dX8_joinedTo_0_0.2 13 (46, .iload 4, 2) rfl
theorem dX8_joinedTo_48 : decode cX8_joinedTo 48 = .ok (.iconst (-1), 1) := dr9 dk9_dX8_joinedTo_0_0.2 14 (48, .iconst (-1), 1) rfl
theorem dX8_joinedTo_49 : decode cX8_joinedTo 49 = .ok (.if_icmp .eq 18, 3) := dr9 dk9_dX8_joinedTo_0_0.2 15 (49, .if_icmp .eq 18, 3) rfl
theorem dX8_joinedTo_52 : decode cX8_joinedTo 52 = .ok (.aload_n 0, 1) := dr9 dk9_dX8_joinedTo_0_0.2 16 (52, .aload_n 0, 1) rfl
theorem dX8_joinedTo_53 : decode cX8_joinedTo 53 = .ok (.getfield 46, 3) := dr9 dk9_dX8_joinedTo_0_0.2 17 (53, .getfield 46, 3) rfl
theorem dX8_joinedTo_56 : decode cX8_joinedTo 56 = .ok (.iload 4, 2) := dr9 dk9_dX8_joinedTo_0_0.2 18 (56, .iload 4, 2) rfl
theorem dX8_joinedTo_58 : decode cX8_joinedTo 58 = .ok (.iaload, 1) := dr9 dk9_dX8_joinedTo_0_0.2 19 (58, .iaload, 1) rfl
theorem dX8_joinedTo_59 : decode cX8_joinedTo 59 = .ok (.istore 4, 2) := dr9 dk9_dX8_joinedTo_0_0.2 20 (59, .istore 4, 2) rfl
theorem dX8_joinedTo_61 : decode cX8_joinedTo 61 = .ok (.iinc 5 1, 3) := dr9 dk9_dX8_joinedTo_0_0.2 21 (61, .iinc 5 1, 3) rfl
theorem dX8_joinedTo_64 : decode cX8_joinedTo 64 = .ok (.goto (-24), 3) := dr9 dk9_dX8_joinedTo_0_0.2 22 (64, .goto (-24), 3) rfl
theorem dk9_dX0_has_0_0 : dOk cX0_has [(0, .iload_n 1, 1), (1, .ifCond .lt 18, 3), (19, .iconst 0, 1), (20, .ireturn, 1), (4, .iload_n 1, 1), (5, .aload_n 0, 1), (6, .getfield 23, 3), (9, .getfield 59, 3), (12, .if_icmp .ge 7, 3), (15, .iconst 1, 1), (16, .goto 4, 3)] = true := by decide +kernel
theorem dX0_has_0 : decode cX0_has 0 = .ok (.iload_n 1, 1) := dr9 dk9_dX0_has_0_0 0 (0, .iload_n 1, 1) rfl
theorem dX0_has_1 : decode cX0_has 1 = .ok (.ifCond .lt 18, 3) := dr9 dk9_dX0_has_0_0 1 (1, .ifCond .lt 18, 3) rfl
theorem dX0_has_19 : decode cX0_has 19 = .ok (.iconst 0, 1) := dr9 dk9_dX0_has_0_0 2 (19, .iconst 0, 1) rfl
theorem dX0_has_20 : decode cX0_has 20 = .ok (.ireturn, 1) := dr9 dk9_dX0_has_0_0 3 (20, .ireturn, 1) rfl
theorem dX0_has_4 : decode cX0_has 4 = .ok (.iload_n 1, 1) := dr9 dk9_dX0_has_0_0 4 (4, .iload_n 1, 1) rfl
theorem dX0_has_5 : decode cX0_has 5 = .ok (.aload_n 0, 1) := dr9 dk9_dX0_has_0_0 5 (5, .aload_n 0, 1) rfl
theorem dX0_has_6 : decode cX0_has 6 = .ok (.getfield 23, 3) := dr9 dk9_dX0_has_0_0 6 (6, .getfield 23, 3) rfl
theorem dX0_has_9 : decode cX0_has 9 = .ok (.getfield 59, 3) := dr9 dk9_dX0_has_0_0 7 (9, .getfield 59, 3) rfl
theorem dX0_has_12 : decode cX0_has 12 = .ok (.if_icmp .ge 7, 3) := dr9 dk9_dX0_has_0_0 8 (12, .if_icmp .ge 7, 3) rfl
theorem dX0_has_15 : decode cX0_has 15 = .ok (.iconst 1, 1) := dr9 dk9_dX0_has_0_0 9 (15, .iconst 1, 1) rfl
theorem dX0_has_16 : decode cX0_has 16 = .ok (.goto 4, 3) := dr9 dk9_dX0_has_0_0 10 (16, .goto 4, 3) rfl
theorem dk9_dX0_isThere_0_0 : dOk cX0_isThere [(0, .aload_n 0, 1), (1, .getfield 41, 3), (4, .iload_n 1, 1), (5, .aaload, 1), (6, .astore_n 2, 1), (7, .aload_n 2, 1), (8, .getfield 73, 3), (11, .iconst (-1), 1), (12, .if_icmp .eq 19, 3), (31, .iconst 1, 1), (32, .goto 4, 3), (36, .ireturn, 1), (15, .aload_n 0, 1), (16, .getfield 36, 3), (19, .aload_n 2, 1), (20, .getfield 73, 3), (23, .iaload, 1), (24, .aload_n 2, 1), (25, .getfield 76, 3), (28, .if_icmp .ne 7, 3), (35, .iconst 0, 1)] = true := by decide +kernel
theorem dX0_isThere_0 : decode cX0_isThere 0 = .ok (.aload_n 0, 1) := dr9 dk9_dX0_isThere_0_0 0 (0, .aload_n 0, 1) rfl
theorem dX0_isThere_1 : decode cX0_isThere 1 = .ok (.getfield 41, 3) := dr9 dk9_dX0_isThere_0_0 1 (1, .getfield 41, 3) rfl
theorem dX0_isThere_4 : decode cX0_isThere 4 = .ok (.iload_n 1, 1) := dr9 dk9_dX0_isThere_0_0 2 (4, .iload_n 1, 1) rfl
theorem dX0_isThere_5 : decode cX0_isThere 5 = .ok (.aaload, 1) := dr9 dk9_dX0_isThere_0_0 3 (5, .aaload, 1) rfl
theorem dX0_isThere_6 : decode cX0_isThere 6 = .ok (.astore_n 2, 1) := dr9 dk9_dX0_isThere_0_0 4 (6, .astore_n 2, 1) rfl
theorem dX0_isThere_7 : decode cX0_isThere 7 = .ok (.aload_n 2, 1) := dr9 dk9_dX0_isThere_0_0 5 (7, .aload_n 2, 1) rfl
theorem dX0_isThere_8 : decode cX0_isThere 8 = .ok (.getfield 73, 3) := dr9 dk9_dX0_isThere_0_0 6 (8, .getfield 73, 3) rfl
theorem dX0_isThere_11 : decode cX0_isThere 11 = .ok (.iconst (-1), 1) := dr9 dk9_dX0_isThere_0_0 7 (11, .iconst (-1), 1) rfl
theorem dX0_isThere_12 : decode cX0_isThere 12 = .ok (.if_icmp .eq 19, 3) := dr9 dk9_dX0_isThere_0_0 8 (12, .if_icmp .eq 19, 3) rfl
theorem dX0_isThere_31 : decode cX0_isThere 31 = .ok (.iconst 1, 1) := dr9 dk9_dX0_isThere_0_0 9 (31, .iconst 1, 1) rfl
theorem dX0_isThere_32 : decode cX0_isThere 32 = .ok (.goto 4, 3) := dr9 dk9_dX0_isThere_0_0 10 (32, .goto 4, 3) rfl
theorem dX0_isThere_36 : decode cX0_isThere 36 = .ok (.ireturn, 1) := dr9 dk9_dX0_isThere_0_0 11 (36, .ireturn, 1) rfl
theorem dX0_isThere_15 : decode cX0_isThere 15 = .ok (.aload_n 0, 1) := dr9 dk9_dX0_isThere_0_0 12 (15, .aload_n 0, 1) rfl
theorem dX0_isThere_16 : decode cX0_isThere 16 = .ok (.getfield 36, 3) := dr9 dk9_dX0_isThere_0_0 13 (16, .getfield 36, 3) rfl
theorem dX0_isThere_19 : decode cX0_isThere 19 = .ok (.aload_n 2, 1) := dr9 dk9_dX0_isThere_0_0 14 (19, .aload_n 2, 1) rfl
theorem dX0_isThere_20 : decode cX0_isThere 20 = .ok (.getfield 73, 3) := dr9 dk9_dX0_isThere_0_0 15 (20, .getfield 73, 3) rfl
theorem dX0_isThere_23 : decode cX0_isThere 23 = .ok (.iaload, 1) := dr9 dk9_dX0_isThere_0_0 16 (23, .iaload, 1) rfl
theorem dX0_isThere_24 : decode cX0_isThere 24 = .ok (.aload_n 2, 1) := dr9 dk9_dX0_isThere_0_0 17 (24, .aload_n 2, 1) rfl
theorem dX0_isThere_25 : decode cX0_isThere 25 = .ok (.getfield 76, 3) := dr9 dk9_dX0_isThere_0_0 18 (25, .getfield 76, 3) rfl
theorem dX0_isThere_28 : decode cX0_isThere 28 = .ok (.if_icmp .ne 7, 3) := dr9 dk9_dX0_isThere_0_0 19 (28, .if_icmp .ne 7, 3) rfl
theorem dX0_isThere_35 : decode cX0_isThere 35 = .ok (.iconst 0, 1) := dr9 dk9_dX0_isThere_0_0 20 (35, .iconst 0, 1) rfl
theorem dk9_dX0_numberOf_0_0 : dOk cX0_numberOf [(0, .iload_n 3, 1), (1, .tableswitch 80 0 4 #[35, 44, 53, 62, 71], 35), (36, .aload_n 0, 1), (37, .getfield 14, 3), (40, .lload_n 1, 1), (41, .invokevirtual 69, 3), (44, .ireturn, 1), (45, .aload_n 0, 1), (46, .getfield 20, 3), (49, .lload_n 1, 1), (50, .invokevirtual 69, 3), (53, .ireturn, 1), (54, .aload_n 0, 1), (55, .getfield 23, 3), (58, .lload_n 1, 1), (59, .invokevirtual 69, 3), (62, .ireturn, 1), (63, .aload_n 0, 1), (64, .getfield 26, 3), (67, .lload_n 1, 1), (68, .invokevirtual 69, 3), (71, .ireturn, 1), (72, .aload_n 0, 1), (73, .getfield 29, 3)] = true ∧ dOk cX0_numberOf [(76, .lload_n 1, 1), (77, .invokevirtual 69, 3), (80, .ireturn, 1), (81, .iconst (-1), 1), (82, .ireturn, 1)] = true := by decide +kernel
theorem dX0_numberOf_0 : decode cX0_numberOf 0 = .ok (.iload_n 3, 1) := dr9 dk9_dX0_numberOf_0_0.1 0 (0, .iload_n 3, 1) rfl
theorem dX0_numberOf_1 : decode cX0_numberOf 1 = .ok (.tableswitch 80 0 4 #[35, 44, 53, 62, 71], 35) := dr9 dk9_dX0_numberOf_0_0.1 1 (1, .tableswitch 80 0 4 #[35, 44, 53, 62, 71], 35) rfl
theorem dX0_numberOf_36 : decode cX0_numberOf 36 = .ok (.aload_n 0, 1) := dr9 dk9_dX0_numberOf_0_0.1 2 (36, .aload_n 0, 1) rfl
theorem dX0_numberOf_37 : decode cX0_numberOf 37 = .ok (.getfield 14, 3) := dr9 dk9_dX0_numberOf_0_0.1 3 (37, .getfield 14, 3) rfl
theorem dX0_numberOf_40 : decode cX0_numberOf 40 = .ok (.lload_n 1, 1) := dr9 dk9_dX0_numberOf_0_0.1 4 (40, .lload_n 1, 1) rfl
theorem dX0_numberOf_41 : decode cX0_numberOf 41 = .ok (.invokevirtual 69, 3) := dr9 dk9_dX0_numberOf_0_0.1 5 (41, .invokevirtual 69, 3) rfl
theorem dX0_numberOf_44 : decode cX0_numberOf 44 = .ok (.ireturn, 1) := dr9 dk9_dX0_numberOf_0_0.1 6 (44, .ireturn, 1) rfl
theorem dX0_numberOf_45 : decode cX0_numberOf 45 = .ok (.aload_n 0, 1) := dr9 dk9_dX0_numberOf_0_0.1 7 (45, .aload_n 0, 1) rfl
theorem dX0_numberOf_46 : decode cX0_numberOf 46 = .ok (.getfield 20, 3) := dr9 dk9_dX0_numberOf_0_0.1 8 (46, .getfield 20, 3) rfl
theorem dX0_numberOf_49 : decode cX0_numberOf 49 = .ok (.lload_n 1, 1) := dr9 dk9_dX0_numberOf_0_0.1 9 (49, .lload_n 1, 1) rfl
theorem dX0_numberOf_50 : decode cX0_numberOf 50 = .ok (.invokevirtual 69, 3) := dr9 dk9_dX0_numberOf_0_0.1 10 (50, .invokevirtual 69, 3) rfl
theorem dX0_numberOf_53 : decode cX0_numberOf 53 = .ok (.ireturn, 1) := dr9 dk9_dX0_numberOf_0_0.1 11 (53, .ireturn, 1) rfl
theorem dX0_numberOf_54 : decode cX0_numberOf 54 = .ok (.aload_n 0, 1) := dr9 dk9_dX0_numberOf_0_0.1 12 (54, .aload_n 0, 1) rfl
theorem dX0_numberOf_55 : decode cX0_numberOf 55 = .ok (.getfield 23, 3) := dr9 dk9_dX0_numberOf_0_0.1 13 (55, .getfield 23, 3) rfl
theorem dX0_numberOf_58 : decode cX0_numberOf 58 = .ok (.lload_n 1, 1) := dr9 dk9_dX0_numberOf_0_0.1 14 (58, .lload_n 1, 1) rfl
theorem dX0_numberOf_59 : decode cX0_numberOf 59 = .ok (.invokevirtual 69, 3) := dr9 dk9_dX0_numberOf_0_0.1 15 (59, .invokevirtual 69, 3) rfl
theorem dX0_numberOf_62 : decode cX0_numberOf 62 = .ok (.ireturn, 1) := dr9 dk9_dX0_numberOf_0_0.1 16 (62, .ireturn, 1) rfl
theorem dX0_numberOf_63 : decode cX0_numberOf 63 = .ok (.aload_n 0, 1) := dr9 dk9_dX0_numberOf_0_0.1 17 (63, .aload_n 0, 1) rfl
theorem dX0_numberOf_64 : decode cX0_numberOf 64 = .ok (.getfield 26, 3) := dr9 dk9_dX0_numberOf_0_0.1 18 (64, .getfield 26, 3) rfl
theorem dX0_numberOf_67 : decode cX0_numberOf 67 = .ok (.lload_n 1, 1) := dr9 dk9_dX0_numberOf_0_0.1 19 (67, .lload_n 1, 1) rfl
theorem dX0_numberOf_68 : decode cX0_numberOf 68 = .ok (.invokevirtual 69, 3) := dr9 dk9_dX0_numberOf_0_0.1 20 (68, .invokevirtual 69, 3) rfl
theorem dX0_numberOf_71 : decode cX0_numberOf 71 = .ok (.ireturn, 1) := dr9 dk9_dX0_numberOf_0_0.1 21 (71, .ireturn, 1) rfl
theorem dX0_numberOf_72 : decode cX0_numberOf 72 = .ok (.aload_n 0, 1) := dr9 dk9_dX0_numberOf_0_0.1 22 (72, .aload_n 0, 1) rfl
theorem dX0_numberOf_73 : decode cX0_numberOf 73 = .ok (.getfield 29, 3) := dr9 dk9_dX0_numberOf_0_0.1 23 (73, .getfield 29, 3) rfl
theorem dX0_numberOf_76 : decode cX0_numberOf 76 = .ok (.lload_n 1, 1) := dr9 dk9_dX0_numberOf_0_0.2 0 (76, .lload_n 1, 1) rfl
theorem dX0_numberOf_77 : decode cX0_numberOf 77 = .ok (.invokevirtual 69, 3) := dr9 dk9_dX0_numberOf_0_0.2 1 (77, .invokevirtual 69, 3) rfl
theorem dX0_numberOf_80 : decode cX0_numberOf 80 = .ok (.ireturn, 1) := dr9 dk9_dX0_numberOf_0_0.2 2 (80, .ireturn, 1) rfl
theorem dX0_numberOf_81 : decode cX0_numberOf 81 = .ok (.iconst (-1), 1) := dr9 dk9_dX0_numberOf_0_0.2 3 (81, .iconst (-1), 1) rfl
theorem dX0_numberOf_82 : decode cX0_numberOf 82 = .ok (.ireturn, 1) := dr9 dk9_dX0_numberOf_0_0.2 4 (82, .ireturn, 1) rfl
theorem dk9_dX0_isTold_0_0 : dOk cX0_isTold [(0, .aload_n 0, 1), (1, .getfield 14, 3), (4, .lload_n 1, 1), (5, .invokevirtual 69, 3), (8, .iconst (-1), 1), (9, .if_icmp .ne 27, 3), (36, .iconst 1, 1), (37, .goto 4, 3), (41, .ireturn, 1), (12, .aload_n 0, 1), (13, .getfield 20, 3), (16, .lload_n 1, 1), (17, .invokevirtual 69, 3), (20, .iconst (-1), 1), (21, .if_icmp .ne 15, 3), (24, .aload_n 0, 1), (25, .getfield 23, 3), (28, .lload_n 1, 1), (29, .invokevirtual 69, 3), (32, .iconst (-1), 1), (33, .if_icmp .eq 7, 3), (40, .iconst 0, 1)] = true := by decide +kernel
theorem dX0_isTold_0 : decode cX0_isTold 0 = .ok (.aload_n 0, 1) := dr9 dk9_dX0_isTold_0_0 0 (0, .aload_n 0, 1) rfl
theorem dX0_isTold_1 : decode cX0_isTold 1 = .ok (.getfield 14, 3) := dr9 dk9_dX0_isTold_0_0 1 (1, .getfield 14, 3) rfl
theorem dX0_isTold_4 : decode cX0_isTold 4 = .ok (.lload_n 1, 1) := dr9 dk9_dX0_isTold_0_0 2 (4, .lload_n 1, 1) rfl
theorem dX0_isTold_5 : decode cX0_isTold 5 = .ok (.invokevirtual 69, 3) := dr9 dk9_dX0_isTold_0_0 3 (5, .invokevirtual 69, 3) rfl
theorem dX0_isTold_8 : decode cX0_isTold 8 = .ok (.iconst (-1), 1) := dr9 dk9_dX0_isTold_0_0 4 (8, .iconst (-1), 1) rfl
theorem dX0_isTold_9 : decode cX0_isTold 9 = .ok (.if_icmp .ne 27, 3) := dr9 dk9_dX0_isTold_0_0 5 (9, .if_icmp .ne 27, 3) rfl
theorem dX0_isTold_36 : decode cX0_isTold 36 = .ok (.iconst 1, 1) := dr9 dk9_dX0_isTold_0_0 6 (36, .iconst 1, 1) rfl
theorem dX0_isTold_37 : decode cX0_isTold 37 = .ok (.goto 4, 3) := dr9 dk9_dX0_isTold_0_0 7 (37, .goto 4, 3) rfl
theorem dX0_isTold_41 : decode cX0_isTold 41 = .ok (.ireturn, 1) := dr9 dk9_dX0_isTold_0_0 8 (41, .ireturn, 1) rfl
theorem dX0_isTold_12 : decode cX0_isTold 12 = .ok (.aload_n 0, 1) := dr9 dk9_dX0_isTold_0_0 9 (12, .aload_n 0, 1) rfl
theorem dX0_isTold_13 : decode cX0_isTold 13 = .ok (.getfield 20, 3) := dr9 dk9_dX0_isTold_0_0 10 (13, .getfield 20, 3) rfl
theorem dX0_isTold_16 : decode cX0_isTold 16 = .ok (.lload_n 1, 1) := dr9 dk9_dX0_isTold_0_0 11 (16, .lload_n 1, 1) rfl
theorem dX0_isTold_17 : decode cX0_isTold 17 = .ok (.invokevirtual 69, 3) := dr9 dk9_dX0_isTold_0_0 12 (17, .invokevirtual 69, 3) rfl
theorem dX0_isTold_20 : decode cX0_isTold 20 = .ok (.iconst (-1), 1) := dr9 dk9_dX0_isTold_0_0 13 (20, .iconst (-1), 1) rfl
theorem dX0_isTold_21 : decode cX0_isTold 21 = .ok (.if_icmp .ne 15, 3) := dr9 dk9_dX0_isTold_0_0 14 (21, .if_icmp .ne 15, 3) rfl
theorem dX0_isTold_24 : decode cX0_isTold 24 = .ok (.aload_n 0, 1) := dr9 dk9_dX0_isTold_0_0 15 (24, .aload_n 0, 1) rfl
theorem dX0_isTold_25 : decode cX0_isTold 25 = .ok (.getfield 23, 3) := dr9 dk9_dX0_isTold_0_0 16 (25, .getfield 23, 3) rfl
theorem dX0_isTold_28 : decode cX0_isTold 28 = .ok (.lload_n 1, 1) := dr9 dk9_dX0_isTold_0_0 17 (28, .lload_n 1, 1) rfl
theorem dX0_isTold_29 : decode cX0_isTold 29 = .ok (.invokevirtual 69, 3) := dr9 dk9_dX0_isTold_0_0 18 (29, .invokevirtual 69, 3) rfl
theorem dX0_isTold_32 : decode cX0_isTold 32 = .ok (.iconst (-1), 1) := dr9 dk9_dX0_isTold_0_0 19 (32, .iconst (-1), 1) rfl
theorem dX0_isTold_33 : decode cX0_isTold 33 = .ok (.if_icmp .eq 7, 3) := dr9 dk9_dX0_isTold_0_0 20 (33, .if_icmp .eq 7, 3) rfl
theorem dX0_isTold_40 : decode cX0_isTold 40 = .ok (.iconst 0, 1) := dr9 dk9_dX0_isTold_0_0 21 (40, .iconst 0, 1) rfl
theorem dk9_dX0_candidates_0_0 : dOk cX0_candidates [(0, .aload_n 0, 1), (1, .getfield 41, 3), (4, .iload_n 1, 1), (5, .aaload, 1), (6, .astore_n 3, 1), (7, .aload_n 3, 1), (8, .getfield 79, 3), (11, .iload_n 2, 1), (12, .iaload, 1), (13, .istore 4, 2), (15, .aload_n 3, 1), (16, .getfield 82, 3), (19, .iload_n 2, 1), (20, .iaload, 1), (21, .istore 5, 2), (23, .aload_n 3, 1), (24, .getfield 85, 3), (27, .iload_n 2, 1), (28, .iaload, 1), (29, .istore 6, 2), (31, .iconst 0, 1), (32, .istore 7, 2), (34, .iconst 0, 1), (35, .istore 8, 2)] = true ∧ dOk cX0_candidates [(37, .iconst 0, 1), (38, .istore 9, 2), (40, .iload 9, 2), (42, .aload_n 0, 1), (43, .getfield 23, 3), (46, .getfield 59, 3), (49, .if_icmp .ge 122, 3), (171, .iload 7, 2), (173, .ireturn, 1), (52, .aload_n 0, 1), (53, .getfield 41, 3), (56, .iload 9, 2), (58, .aaload, 1), (59, .astore 10, 2), (61, .iload 6, 2), (63, .iconst (-1), 1), (64, .if_icmp .eq 13, 3), (77, .iconst 1, 1), (78, .goto 4, 3), (82, .istore 11, 2), (84, .aload 10, 2), (86, .getfield 91, 3), (89, .iload 5, 2), (91, .ishr, 1)] = true ∧ dOk cX0_candidates [(92, .iconst 1, 1), (93, .iand, 1), (94, .ifCond .eq 71, 3), (165, .iinc 9 1, 3), (168, .goto (-128), 3), (97, .iload 11, 2), (99, .ifCond .eq 66, 3), (102, .aload_n 0, 1), (103, .iload 9, 2), (105, .invokevirtual 94, 3), (108, .ifCond .ne 6, 3), (114, .iload 4, 2), (116, .iconst 2, 1), (117, .if_icmp .eq 23, 3), (140, .iload 4, 2), (142, .iconst 2, 1), (143, .if_icmp .eq 13, 3), (156, .iload 7, 2), (158, .iconst 1, 1), (159, .iload 9, 2), (161, .ishl, 1), (162, .ior, 1), (163, .istore 7, 2), (120, .aload 10, 2)] = true ∧ dOk cX0_candidates [(122, .getfield 98, 3), (125, .iload 8, 2), (127, .if_icmp .le 13, 3), (146, .aload 10, 2), (148, .getfield 98, 3), (151, .iload 8, 2), (153, .if_icmp .ne 12, 3), (130, .aload 10, 2), (132, .getfield 98, 3), (135, .istore 8, 2), (137, .iconst 0, 1), (138, .istore 7, 2), (111, .goto 54, 3), (67, .aload 10, 2), (69, .getfield 88, 3), (72, .iload 6, 2), (74, .if_icmp .ne 7, 3), (81, .iconst 0, 1)] = true := by decide +kernel
theorem dX0_candidates_0 : decode cX0_candidates 0 = .ok (.aload_n 0, 1) := dr9 dk9_dX0_candidates_0_0.1 0 (0, .aload_n 0, 1) rfl
theorem dX0_candidates_1 : decode cX0_candidates 1 = .ok (.getfield 41, 3) := dr9 dk9_dX0_candidates_0_0.1 1 (1, .getfield 41, 3) rfl
theorem dX0_candidates_4 : decode cX0_candidates 4 = .ok (.iload_n 1, 1) := dr9 dk9_dX0_candidates_0_0.1 2 (4, .iload_n 1, 1) rfl
theorem dX0_candidates_5 : decode cX0_candidates 5 = .ok (.aaload, 1) := dr9 dk9_dX0_candidates_0_0.1 3 (5, .aaload, 1) rfl
theorem dX0_candidates_6 : decode cX0_candidates 6 = .ok (.astore_n 3, 1) := dr9 dk9_dX0_candidates_0_0.1 4 (6, .astore_n 3, 1) rfl
theorem dX0_candidates_7 : decode cX0_candidates 7 = .ok (.aload_n 3, 1) := dr9 dk9_dX0_candidates_0_0.1 5 (7, .aload_n 3, 1) rfl
theorem dX0_candidates_8 : decode cX0_candidates 8 = .ok (.getfield 79, 3) := dr9 dk9_dX0_candidates_0_0.1 6 (8, .getfield 79, 3) rfl
theorem dX0_candidates_11 : decode cX0_candidates 11 = .ok (.iload_n 2, 1) := dr9 dk9_dX0_candidates_0_0.1 7 (11, .iload_n 2, 1) rfl
theorem dX0_candidates_12 : decode cX0_candidates 12 = .ok (.iaload, 1) := dr9 dk9_dX0_candidates_0_0.1 8 (12, .iaload, 1) rfl
theorem dX0_candidates_13 : decode cX0_candidates 13 = .ok (.istore 4, 2) := dr9 dk9_dX0_candidates_0_0.1 9 (13, .istore 4, 2) rfl
theorem dX0_candidates_15 : decode cX0_candidates 15 = .ok (.aload_n 3, 1) := dr9 dk9_dX0_candidates_0_0.1 10 (15, .aload_n 3, 1) rfl
theorem dX0_candidates_16 : decode cX0_candidates 16 = .ok (.getfield 82, 3) := dr9 dk9_dX0_candidates_0_0.1 11 (16, .getfield 82, 3) rfl
theorem dX0_candidates_19 : decode cX0_candidates 19 = .ok (.iload_n 2, 1) := dr9 dk9_dX0_candidates_0_0.1 12 (19, .iload_n 2, 1) rfl
theorem dX0_candidates_20 : decode cX0_candidates 20 = .ok (.iaload, 1) := dr9 dk9_dX0_candidates_0_0.1 13 (20, .iaload, 1) rfl
theorem dX0_candidates_21 : decode cX0_candidates 21 = .ok (.istore 5, 2) := dr9 dk9_dX0_candidates_0_0.1 14 (21, .istore 5, 2) rfl
theorem dX0_candidates_23 : decode cX0_candidates 23 = .ok (.aload_n 3, 1) := dr9 dk9_dX0_candidates_0_0.1 15 (23, .aload_n 3, 1) rfl
theorem dX0_candidates_24 : decode cX0_candidates 24 = .ok (.getfield 85, 3) := dr9 dk9_dX0_candidates_0_0.1 16 (24, .getfield 85, 3) rfl
theorem dX0_candidates_27 : decode cX0_candidates 27 = .ok (.iload_n 2, 1) := dr9 dk9_dX0_candidates_0_0.1 17 (27, .iload_n 2, 1) rfl
theorem dX0_candidates_28 : decode cX0_candidates 28 = .ok (.iaload, 1) := dr9 dk9_dX0_candidates_0_0.1 18 (28, .iaload, 1) rfl
theorem dX0_candidates_29 : decode cX0_candidates 29 = .ok (.istore 6, 2) := dr9 dk9_dX0_candidates_0_0.1 19 (29, .istore 6, 2) rfl
theorem dX0_candidates_31 : decode cX0_candidates 31 = .ok (.iconst 0, 1) := dr9 dk9_dX0_candidates_0_0.1 20 (31, .iconst 0, 1) rfl
theorem dX0_candidates_32 : decode cX0_candidates 32 = .ok (.istore 7, 2) := dr9 dk9_dX0_candidates_0_0.1 21 (32, .istore 7, 2) rfl
theorem dX0_candidates_34 : decode cX0_candidates 34 = .ok (.iconst 0, 1) := dr9 dk9_dX0_candidates_0_0.1 22 (34, .iconst 0, 1) rfl
theorem dX0_candidates_35 : decode cX0_candidates 35 = .ok (.istore 8, 2) := dr9 dk9_dX0_candidates_0_0.1 23 (35, .istore 8, 2) rfl
theorem dX0_candidates_37 : decode cX0_candidates 37 = .ok (.iconst 0, 1) := dr9 dk9_dX0_candidates_0_0.2.1 0 (37, .iconst 0, 1) rfl
theorem dX0_candidates_38 : decode cX0_candidates 38 = .ok (.istore 9, 2) := dr9 dk9_dX0_candidates_0_0.2.1 1 (38, .istore 9, 2) rfl
theorem dX0_candidates_40 : decode cX0_candidates 40 = .ok (.iload 9, 2) := dr9 dk9_dX0_candidates_0_0.2.1 2 (40, .iload 9, 2) rfl
theorem dX0_candidates_42 : decode cX0_candidates 42 = .ok (.aload_n 0, 1) := dr9 dk9_dX0_candidates_0_0.2.1 3 (42, .aload_n 0, 1) rfl
theorem dX0_candidates_43 : decode cX0_candidates 43 = .ok (.getfield 23, 3) := dr9 dk9_dX0_candidates_0_0.2.1 4 (43, .getfield 23, 3) rfl
theorem dX0_candidates_46 : decode cX0_candidates 46 = .ok (.getfield 59, 3) := dr9 dk9_dX0_candidates_0_0.2.1 5 (46, .getfield 59, 3) rfl
theorem dX0_candidates_49 : decode cX0_candidates 49 = .ok (.if_icmp .ge 122, 3) := dr9 dk9_dX0_candidates_0_0.2.1 6 (49, .if_icmp .ge 122, 3) rfl
theorem dX0_candidates_171 : decode cX0_candidates 171 = .ok (.iload 7, 2) := dr9 dk9_dX0_candidates_0_0.2.1 7 (171, .iload 7, 2) rfl
theorem dX0_candidates_173 : decode cX0_candidates 173 = .ok (.ireturn, 1) := dr9 dk9_dX0_candidates_0_0.2.1 8 (173, .ireturn, 1) rfl
theorem dX0_candidates_52 : decode cX0_candidates 52 = .ok (.aload_n 0, 1) := dr9 dk9_dX0_candidates_0_0.2.1 9 (52, .aload_n 0, 1) rfl
theorem dX0_candidates_53 : decode cX0_candidates 53 = .ok (.getfield 41, 3) := dr9 dk9_dX0_candidates_0_0.2.1 10 (53, .getfield 41, 3) rfl
theorem dX0_candidates_56 : decode cX0_candidates 56 = .ok (.iload 9, 2) := dr9 dk9_dX0_candidates_0_0.2.1 11 (56, .iload 9, 2) rfl
theorem dX0_candidates_58 : decode cX0_candidates 58 = .ok (.aaload, 1) := dr9 dk9_dX0_candidates_0_0.2.1 12 (58, .aaload, 1) rfl
theorem dX0_candidates_59 : decode cX0_candidates 59 = .ok (.astore 10, 2) := dr9 dk9_dX0_candidates_0_0.2.1 13 (59, .astore 10, 2) rfl
theorem dX0_candidates_61 : decode cX0_candidates 61 = .ok (.iload 6, 2) := dr9 dk9_dX0_candidates_0_0.2.1 14 (61, .iload 6, 2) rfl
theorem dX0_candidates_63 : decode cX0_candidates 63 = .ok (.iconst (-1), 1) := dr9 dk9_dX0_candidates_0_0.2.1 15 (63, .iconst (-1), 1) rfl
theorem dX0_candidates_64 : decode cX0_candidates 64 = .ok (.if_icmp .eq 13, 3) := dr9 dk9_dX0_candidates_0_0.2.1 16 (64, .if_icmp .eq 13, 3) rfl
theorem dX0_candidates_77 : decode cX0_candidates 77 = .ok (.iconst 1, 1) := dr9 dk9_dX0_candidates_0_0.2.1 17 (77, .iconst 1, 1) rfl
theorem dX0_candidates_78 : decode cX0_candidates 78 = .ok (.goto 4, 3) := dr9 dk9_dX0_candidates_0_0.2.1 18 (78, .goto 4, 3) rfl
theorem dX0_candidates_82 : decode cX0_candidates 82 = .ok (.istore 11, 2) := dr9 dk9_dX0_candidates_0_0.2.1 19 (82, .istore 11, 2) rfl
theorem dX0_candidates_84 : decode cX0_candidates 84 = .ok (.aload 10, 2) := dr9 dk9_dX0_candidates_0_0.2.1 20 (84, .aload 10, 2) rfl
theorem dX0_candidates_86 : decode cX0_candidates 86 = .ok (.getfield 91, 3) := dr9 dk9_dX0_candidates_0_0.2.1 21 (86, .getfield 91, 3) rfl
theorem dX0_candidates_89 : decode cX0_candidates 89 = .ok (.iload 5, 2) := dr9 dk9_dX0_candidates_0_0.2.1 22 (89, .iload 5, 2) rfl
theorem dX0_candidates_91 : decode cX0_candidates 91 = .ok (.ishr, 1) := dr9 dk9_dX0_candidates_0_0.2.1 23 (91, .ishr, 1) rfl
theorem dX0_candidates_92 : decode cX0_candidates 92 = .ok (.iconst 1, 1) := dr9 dk9_dX0_candidates_0_0.2.2.1 0 (92, .iconst 1, 1) rfl
theorem dX0_candidates_93 : decode cX0_candidates 93 = .ok (.iand, 1) := dr9 dk9_dX0_candidates_0_0.2.2.1 1 (93, .iand, 1) rfl
theorem dX0_candidates_94 : decode cX0_candidates 94 = .ok (.ifCond .eq 71, 3) := dr9 dk9_dX0_candidates_0_0.2.2.1 2 (94, .ifCond .eq 71, 3) rfl
theorem dX0_candidates_165 : decode cX0_candidates 165 = .ok (.iinc 9 1, 3) := dr9 dk9_dX0_candidates_0_0.2.2.1 3 (165, .iinc 9 1, 3) rfl
theorem dX0_candidates_168 : decode cX0_candidates 168 = .ok (.goto (-128), 3) := dr9 dk9_dX0_candidates_0_0.2.2.1 4 (168, .goto (-128), 3) rfl
theorem dX0_candidates_97 : decode cX0_candidates 97 = .ok (.iload 11, 2) := dr9 dk9_dX0_candidates_0_0.2.2.1 5 (97, .iload 11, 2) rfl
theorem dX0_candidates_99 : decode cX0_candidates 99 = .ok (.ifCond .eq 66, 3) := dr9 dk9_dX0_candidates_0_0.2.2.1 6 (99, .ifCond .eq 66, 3) rfl
theorem dX0_candidates_102 : decode cX0_candidates 102 = .ok (.aload_n 0, 1) := dr9 dk9_dX0_candidates_0_0.2.2.1 7 (102, .aload_n 0, 1) rfl
theorem dX0_candidates_103 : decode cX0_candidates 103 = .ok (.iload 9, 2) := dr9 dk9_dX0_candidates_0_0.2.2.1 8 (103, .iload 9, 2) rfl
theorem dX0_candidates_105 : decode cX0_candidates 105 = .ok (.invokevirtual 94, 3) := dr9 dk9_dX0_candidates_0_0.2.2.1 9 (105, .invokevirtual 94, 3) rfl
theorem dX0_candidates_108 : decode cX0_candidates 108 = .ok (.ifCond .ne 6, 3) := dr9 dk9_dX0_candidates_0_0.2.2.1 10 (108, .ifCond .ne 6, 3) rfl
theorem dX0_candidates_114 : decode cX0_candidates 114 = .ok (.iload 4, 2) := dr9 dk9_dX0_candidates_0_0.2.2.1 11 (114, .iload 4, 2) rfl
theorem dX0_candidates_116 : decode cX0_candidates 116 = .ok (.iconst 2, 1) := dr9 dk9_dX0_candidates_0_0.2.2.1 12 (116, .iconst 2, 1) rfl
theorem dX0_candidates_117 : decode cX0_candidates 117 = .ok (.if_icmp .eq 23, 3) := dr9 dk9_dX0_candidates_0_0.2.2.1 13 (117, .if_icmp .eq 23, 3) rfl
theorem dX0_candidates_140 : decode cX0_candidates 140 = .ok (.iload 4, 2) := dr9 dk9_dX0_candidates_0_0.2.2.1 14 (140, .iload 4, 2) rfl
theorem dX0_candidates_142 : decode cX0_candidates 142 = .ok (.iconst 2, 1) := dr9 dk9_dX0_candidates_0_0.2.2.1 15 (142, .iconst 2, 1) rfl
theorem dX0_candidates_143 : decode cX0_candidates 143 = .ok (.if_icmp .eq 13, 3) := dr9 dk9_dX0_candidates_0_0.2.2.1 16 (143, .if_icmp .eq 13, 3) rfl
theorem dX0_candidates_156 : decode cX0_candidates 156 = .ok (.iload 7, 2) := dr9 dk9_dX0_candidates_0_0.2.2.1 17 (156, .iload 7, 2) rfl
theorem dX0_candidates_158 : decode cX0_candidates 158 = .ok (.iconst 1, 1) := dr9 dk9_dX0_candidates_0_0.2.2.1 18 (158, .iconst 1, 1) rfl
theorem dX0_candidates_159 : decode cX0_candidates 159 = .ok (.iload 9, 2) := dr9 dk9_dX0_candidates_0_0.2.2.1 19 (159, .iload 9, 2) rfl
theorem dX0_candidates_161 : decode cX0_candidates 161 = .ok (.ishl, 1) := dr9 dk9_dX0_candidates_0_0.2.2.1 20 (161, .ishl, 1) rfl
theorem dX0_candidates_162 : decode cX0_candidates 162 = .ok (.ior, 1) := dr9 dk9_dX0_candidates_0_0.2.2.1 21 (162, .ior, 1) rfl
theorem dX0_candidates_163 : decode cX0_candidates 163 = .ok (.istore 7, 2) := dr9 dk9_dX0_candidates_0_0.2.2.1 22 (163, .istore 7, 2) rfl
theorem dX0_candidates_120 : decode cX0_candidates 120 = .ok (.aload 10, 2) := dr9 dk9_dX0_candidates_0_0.2.2.1 23 (120, .aload 10, 2) rfl
theorem dX0_candidates_122 : decode cX0_candidates 122 = .ok (.getfield 98, 3) := dr9 dk9_dX0_candidates_0_0.2.2.2 0 (122, .getfield 98, 3) rfl
theorem dX0_candidates_125 : decode cX0_candidates 125 = .ok (.iload 8, 2) := dr9 dk9_dX0_candidates_0_0.2.2.2 1 (125, .iload 8, 2) rfl
theorem dX0_candidates_127 : decode cX0_candidates 127 = .ok (.if_icmp .le 13, 3) := dr9 dk9_dX0_candidates_0_0.2.2.2 2 (127, .if_icmp .le 13, 3) rfl
theorem dX0_candidates_146 : decode cX0_candidates 146 = .ok (.aload 10, 2) := dr9 dk9_dX0_candidates_0_0.2.2.2 3 (146, .aload 10, 2) rfl
theorem dX0_candidates_148 : decode cX0_candidates 148 = .ok (.getfield 98, 3) := dr9 dk9_dX0_candidates_0_0.2.2.2 4 (148, .getfield 98, 3) rfl
theorem dX0_candidates_151 : decode cX0_candidates 151 = .ok (.iload 8, 2) := dr9 dk9_dX0_candidates_0_0.2.2.2 5 (151, .iload 8, 2) rfl
theorem dX0_candidates_153 : decode cX0_candidates 153 = .ok (.if_icmp .ne 12, 3) := dr9 dk9_dX0_candidates_0_0.2.2.2 6 (153, .if_icmp .ne 12, 3) rfl
theorem dX0_candidates_130 : decode cX0_candidates 130 = .ok (.aload 10, 2) := dr9 dk9_dX0_candidates_0_0.2.2.2 7 (130, .aload 10, 2) rfl
theorem dX0_candidates_132 : decode cX0_candidates 132 = .ok (.getfield 98, 3) := dr9 dk9_dX0_candidates_0_0.2.2.2 8 (132, .getfield 98, 3) rfl
theorem dX0_candidates_135 : decode cX0_candidates 135 = .ok (.istore 8, 2) := dr9 dk9_dX0_candidates_0_0.2.2.2 9 (135, .istore 8, 2) rfl
theorem dX0_candidates_137 : decode cX0_candidates 137 = .ok (.iconst 0, 1) := dr9 dk9_dX0_candidates_0_0.2.2.2 10 (137, .iconst 0, 1) rfl
theorem dX0_candidates_138 : decode cX0_candidates 138 = .ok (.istore 7, 2) := dr9 dk9_dX0_candidates_0_0.2.2.2 11 (138, .istore 7, 2) rfl
theorem dX0_candidates_111 : decode cX0_candidates 111 = .ok (.goto 54, 3) := dr9 dk9_dX0_candidates_0_0.2.2.2 12 (111, .goto 54, 3) rfl
theorem dX0_candidates_67 : decode cX0_candidates 67 = .ok (.aload 10, 2) := dr9 dk9_dX0_candidates_0_0.2.2.2 13 (67, .aload 10, 2) rfl
theorem dX0_candidates_69 : decode cX0_candidates 69 = .ok (.getfield 88, 3) := dr9 dk9_dX0_candidates_0_0.2.2.2 14 (69, .getfield 88, 3) rfl
theorem dX0_candidates_72 : decode cX0_candidates 72 = .ok (.iload 6, 2) := dr9 dk9_dX0_candidates_0_0.2.2.2 15 (72, .iload 6, 2) rfl
theorem dX0_candidates_74 : decode cX0_candidates 74 = .ok (.if_icmp .ne 7, 3) := dr9 dk9_dX0_candidates_0_0.2.2.2 16 (74, .if_icmp .ne 7, 3) rfl
theorem dX0_candidates_81 : decode cX0_candidates 81 = .ok (.iconst 0, 1) := dr9 dk9_dX0_candidates_0_0.2.2.2 17 (81, .iconst 0, 1) rfl
theorem dk9_dX0_isFor_0_0 : dOk cX0_isFor [(0, .aload_n 1, 1), (1, .getfield 120, 3), (4, .iload_n 2, 1), (5, .if_icmp .ne 35, 3), (40, .iconst 0, 1), (41, .ireturn, 1), (8, .aload_n 1, 1), (9, .getfield 114, 3), (12, .iload 4, 2), (14, .if_icmp .ne 26, 3), (17, .aload_n 0, 1), (18, .getfield 41, 3), (21, .iload_n 3, 1), (22, .aaload, 1), (23, .getfield 91, 3), (26, .aload_n 1, 1), (27, .getfield 111, 3), (30, .ishr, 1), (31, .iconst 1, 1), (32, .iand, 1), (33, .ifCond .eq 7, 3), (36, .iconst 1, 1), (37, .goto 4, 3)] = true := by decide +kernel
theorem dX0_isFor_0 : decode cX0_isFor 0 = .ok (.aload_n 1, 1) := dr9 dk9_dX0_isFor_0_0 0 (0, .aload_n 1, 1) rfl
theorem dX0_isFor_1 : decode cX0_isFor 1 = .ok (.getfield 120, 3) := dr9 dk9_dX0_isFor_0_0 1 (1, .getfield 120, 3) rfl
theorem dX0_isFor_4 : decode cX0_isFor 4 = .ok (.iload_n 2, 1) := dr9 dk9_dX0_isFor_0_0 2 (4, .iload_n 2, 1) rfl
theorem dX0_isFor_5 : decode cX0_isFor 5 = .ok (.if_icmp .ne 35, 3) := dr9 dk9_dX0_isFor_0_0 3 (5, .if_icmp .ne 35, 3) rfl
theorem dX0_isFor_40 : decode cX0_isFor 40 = .ok (.iconst 0, 1) := dr9 dk9_dX0_isFor_0_0 4 (40, .iconst 0, 1) rfl
theorem dX0_isFor_41 : decode cX0_isFor 41 = .ok (.ireturn, 1) := dr9 dk9_dX0_isFor_0_0 5 (41, .ireturn, 1) rfl
theorem dX0_isFor_8 : decode cX0_isFor 8 = .ok (.aload_n 1, 1) := dr9 dk9_dX0_isFor_0_0 6 (8, .aload_n 1, 1) rfl
theorem dX0_isFor_9 : decode cX0_isFor 9 = .ok (.getfield 114, 3) := dr9 dk9_dX0_isFor_0_0 7 (9, .getfield 114, 3) rfl
theorem dX0_isFor_12 : decode cX0_isFor 12 = .ok (.iload 4, 2) := dr9 dk9_dX0_isFor_0_0 8 (12, .iload 4, 2) rfl
theorem dX0_isFor_14 : decode cX0_isFor 14 = .ok (.if_icmp .ne 26, 3) := dr9 dk9_dX0_isFor_0_0 9 (14, .if_icmp .ne 26, 3) rfl
theorem dX0_isFor_17 : decode cX0_isFor 17 = .ok (.aload_n 0, 1) := dr9 dk9_dX0_isFor_0_0 10 (17, .aload_n 0, 1) rfl
theorem dX0_isFor_18 : decode cX0_isFor 18 = .ok (.getfield 41, 3) := dr9 dk9_dX0_isFor_0_0 11 (18, .getfield 41, 3) rfl
theorem dX0_isFor_21 : decode cX0_isFor 21 = .ok (.iload_n 3, 1) := dr9 dk9_dX0_isFor_0_0 12 (21, .iload_n 3, 1) rfl
theorem dX0_isFor_22 : decode cX0_isFor 22 = .ok (.aaload, 1) := dr9 dk9_dX0_isFor_0_0 13 (22, .aaload, 1) rfl
theorem dX0_isFor_23 : decode cX0_isFor 23 = .ok (.getfield 91, 3) := dr9 dk9_dX0_isFor_0_0 14 (23, .getfield 91, 3) rfl
theorem dX0_isFor_26 : decode cX0_isFor 26 = .ok (.aload_n 1, 1) := dr9 dk9_dX0_isFor_0_0 15 (26, .aload_n 1, 1) rfl
theorem dX0_isFor_27 : decode cX0_isFor 27 = .ok (.getfield 111, 3) := dr9 dk9_dX0_isFor_0_0 16 (27, .getfield 111, 3) rfl
theorem dX0_isFor_30 : decode cX0_isFor 30 = .ok (.ishr, 1) := dr9 dk9_dX0_isFor_0_0 17 (30, .ishr, 1) rfl
theorem dX0_isFor_31 : decode cX0_isFor 31 = .ok (.iconst 1, 1) := dr9 dk9_dX0_isFor_0_0 18 (31, .iconst 1, 1) rfl
theorem dX0_isFor_32 : decode cX0_isFor 32 = .ok (.iand, 1) := dr9 dk9_dX0_isFor_0_0 19 (32, .iand, 1) rfl
theorem dX0_isFor_33 : decode cX0_isFor 33 = .ok (.ifCond .eq 7, 3) := dr9 dk9_dX0_isFor_0_0 20 (33, .ifCond .eq 7, 3) rfl
theorem dX0_isFor_36 : decode cX0_isFor 36 = .ok (.iconst 1, 1) := dr9 dk9_dX0_isFor_0_0 21 (36, .iconst 1, 1) rfl
theorem dX0_isFor_37 : decode cX0_isFor 37 = .ok (.goto 4, 3) := dr9 dk9_dX0_isFor_0_0 22 (37, .goto 4, 3) rfl
theorem dk9_dX0_aroundsOf_0_0 : dOk cX0_aroundsOf [(0, .iconst 0, 1), (1, .istore_n 2, 1), (2, .iconst 0, 1), (3, .istore_n 3, 1), (4, .iload_n 3, 1), (5, .aload_n 0, 1), (6, .getfield 63, 3), (9, .if_icmp .ge 38, 3), (47, .iload_n 2, 1), (48, .ireturn, 1), (12, .aload_n 0, 1), (13, .getfield 47, 3), (16, .iload_n 3, 1), (17, .aaload, 1), (18, .getfield 120, 3), (21, .iconst 1, 1), (22, .if_icmp .ne 19, 3), (41, .iinc 3 1, 3), (44, .goto (-40), 3), (25, .aload_n 0, 1), (26, .getfield 47, 3), (29, .iload_n 3, 1), (30, .aaload, 1), (31, .getfield 114, 3)] = true ∧ dOk cX0_aroundsOf [(34, .iload_n 1, 1), (35, .if_icmp .ne 6, 3), (38, .iinc 2 1, 3)] = true := by decide +kernel
theorem dX0_aroundsOf_0 : decode cX0_aroundsOf 0 = .ok (.iconst 0, 1) := dr9 dk9_dX0_aroundsOf_0_0.1 0 (0, .iconst 0, 1) rfl
theorem dX0_aroundsOf_1 : decode cX0_aroundsOf 1 = .ok (.istore_n 2, 1) := dr9 dk9_dX0_aroundsOf_0_0.1 1 (1, .istore_n 2, 1) rfl
theorem dX0_aroundsOf_2 : decode cX0_aroundsOf 2 = .ok (.iconst 0, 1) := dr9 dk9_dX0_aroundsOf_0_0.1 2 (2, .iconst 0, 1) rfl
theorem dX0_aroundsOf_3 : decode cX0_aroundsOf 3 = .ok (.istore_n 3, 1) := dr9 dk9_dX0_aroundsOf_0_0.1 3 (3, .istore_n 3, 1) rfl
theorem dX0_aroundsOf_4 : decode cX0_aroundsOf 4 = .ok (.iload_n 3, 1) := dr9 dk9_dX0_aroundsOf_0_0.1 4 (4, .iload_n 3, 1) rfl
theorem dX0_aroundsOf_5 : decode cX0_aroundsOf 5 = .ok (.aload_n 0, 1) := dr9 dk9_dX0_aroundsOf_0_0.1 5 (5, .aload_n 0, 1) rfl
theorem dX0_aroundsOf_6 : decode cX0_aroundsOf 6 = .ok (.getfield 63, 3) := dr9 dk9_dX0_aroundsOf_0_0.1 6 (6, .getfield 63, 3) rfl
theorem dX0_aroundsOf_9 : decode cX0_aroundsOf 9 = .ok (.if_icmp .ge 38, 3) := dr9 dk9_dX0_aroundsOf_0_0.1 7 (9, .if_icmp .ge 38, 3) rfl
theorem dX0_aroundsOf_47 : decode cX0_aroundsOf 47 = .ok (.iload_n 2, 1) := dr9 dk9_dX0_aroundsOf_0_0.1 8 (47, .iload_n 2, 1) rfl
theorem dX0_aroundsOf_48 : decode cX0_aroundsOf 48 = .ok (.ireturn, 1) := dr9 dk9_dX0_aroundsOf_0_0.1 9 (48, .ireturn, 1) rfl
theorem dX0_aroundsOf_12 : decode cX0_aroundsOf 12 = .ok (.aload_n 0, 1) := dr9 dk9_dX0_aroundsOf_0_0.1 10 (12, .aload_n 0, 1) rfl
theorem dX0_aroundsOf_13 : decode cX0_aroundsOf 13 = .ok (.getfield 47, 3) := dr9 dk9_dX0_aroundsOf_0_0.1 11 (13, .getfield 47, 3) rfl
theorem dX0_aroundsOf_16 : decode cX0_aroundsOf 16 = .ok (.iload_n 3, 1) := dr9 dk9_dX0_aroundsOf_0_0.1 12 (16, .iload_n 3, 1) rfl
theorem dX0_aroundsOf_17 : decode cX0_aroundsOf 17 = .ok (.aaload, 1) := dr9 dk9_dX0_aroundsOf_0_0.1 13 (17, .aaload, 1) rfl
theorem dX0_aroundsOf_18 : decode cX0_aroundsOf 18 = .ok (.getfield 120, 3) := dr9 dk9_dX0_aroundsOf_0_0.1 14 (18, .getfield 120, 3) rfl
theorem dX0_aroundsOf_21 : decode cX0_aroundsOf 21 = .ok (.iconst 1, 1) := dr9 dk9_dX0_aroundsOf_0_0.1 15 (21, .iconst 1, 1) rfl
theorem dX0_aroundsOf_22 : decode cX0_aroundsOf 22 = .ok (.if_icmp .ne 19, 3) := dr9 dk9_dX0_aroundsOf_0_0.1 16 (22, .if_icmp .ne 19, 3) rfl
theorem dX0_aroundsOf_41 : decode cX0_aroundsOf 41 = .ok (.iinc 3 1, 3) := dr9 dk9_dX0_aroundsOf_0_0.1 17 (41, .iinc 3 1, 3) rfl
theorem dX0_aroundsOf_44 : decode cX0_aroundsOf 44 = .ok (.goto (-40), 3) := dr9 dk9_dX0_aroundsOf_0_0.1 18 (44, .goto (-40), 3) rfl
theorem dX0_aroundsOf_25 : decode cX0_aroundsOf 25 = .ok (.aload_n 0, 1) := dr9 dk9_dX0_aroundsOf_0_0.1 19 (25, .aload_n 0, 1) rfl
theorem dX0_aroundsOf_26 : decode cX0_aroundsOf 26 = .ok (.getfield 47, 3) := dr9 dk9_dX0_aroundsOf_0_0.1 20 (26, .getfield 47, 3) rfl
theorem dX0_aroundsOf_29 : decode cX0_aroundsOf 29 = .ok (.iload_n 3, 1) := dr9 dk9_dX0_aroundsOf_0_0.1 21 (29, .iload_n 3, 1) rfl
theorem dX0_aroundsOf_30 : decode cX0_aroundsOf 30 = .ok (.aaload, 1) := dr9 dk9_dX0_aroundsOf_0_0.1 22 (30, .aaload, 1) rfl
theorem dX0_aroundsOf_31 : decode cX0_aroundsOf 31 = .ok (.getfield 114, 3) := dr9 dk9_dX0_aroundsOf_0_0.1 23 (31, .getfield 114, 3) rfl
theorem dX0_aroundsOf_34 : decode cX0_aroundsOf 34 = .ok (.iload_n 1, 1) := dr9 dk9_dX0_aroundsOf_0_0.2 0 (34, .iload_n 1, 1) rfl
theorem dX0_aroundsOf_35 : decode cX0_aroundsOf 35 = .ok (.if_icmp .ne 6, 3) := dr9 dk9_dX0_aroundsOf_0_0.2 1 (35, .if_icmp .ne 6, 3) rfl
theorem dX0_aroundsOf_38 : decode cX0_aroundsOf 38 = .ok (.iinc 2 1, 3) := dr9 dk9_dX0_aroundsOf_0_0.2 2 (38, .iinc 2 1, 3) rfl
theorem dk9_dX0_wrapFrom_0_0 : dOk cX0_wrapFrom [(0, .iload_n 1, 1), (1, .istore 5, 2), (3, .iload 5, 2), (5, .aload_n 0, 1), (6, .getfield 63, 3), (9, .if_icmp .ge 35, 3), (44, .iconst (-1), 1), (45, .ireturn, 1), (12, .aload_n 0, 1), (13, .aload_n 0, 1), (14, .getfield 47, 3), (17, .aload_n 0, 1), (18, .getfield 51, 3), (21, .iload 5, 2), (23, .iaload, 1), (24, .aaload, 1), (25, .iload_n 2, 1), (26, .iload_n 3, 1), (27, .iload 4, 2), (29, .invokevirtual 126, 3), (32, .ifCond .eq 6, 3), (38, .iinc 5 1, 3), (41, .goto (-38), 3), (35, .iload 5, 2)] = true ∧ dOk cX0_wrapFrom [(37, .ireturn, 1)] = true := by decide +kernel
theorem dX0_wrapFrom_0 : decode cX0_wrapFrom 0 = .ok (.iload_n 1, 1) := dr9 dk9_dX0_wrapFrom_0_0.1 0 (0, .iload_n 1, 1) rfl
theorem dX0_wrapFrom_1 : decode cX0_wrapFrom 1 = .ok (.istore 5, 2) := dr9 dk9_dX0_wrapFrom_0_0.1 1 (1, .istore 5, 2) rfl
theorem dX0_wrapFrom_3 : decode cX0_wrapFrom 3 = .ok (.iload 5, 2) := dr9 dk9_dX0_wrapFrom_0_0.1 2 (3, .iload 5, 2) rfl
theorem dX0_wrapFrom_5 : decode cX0_wrapFrom 5 = .ok (.aload_n 0, 1) := dr9 dk9_dX0_wrapFrom_0_0.1 3 (5, .aload_n 0, 1) rfl
theorem dX0_wrapFrom_6 : decode cX0_wrapFrom 6 = .ok (.getfield 63, 3) := dr9 dk9_dX0_wrapFrom_0_0.1 4 (6, .getfield 63, 3) rfl
theorem dX0_wrapFrom_9 : decode cX0_wrapFrom 9 = .ok (.if_icmp .ge 35, 3) := dr9 dk9_dX0_wrapFrom_0_0.1 5 (9, .if_icmp .ge 35, 3) rfl
theorem dX0_wrapFrom_44 : decode cX0_wrapFrom 44 = .ok (.iconst (-1), 1) := dr9 dk9_dX0_wrapFrom_0_0.1 6 (44, .iconst (-1), 1) rfl
theorem dX0_wrapFrom_45 : decode cX0_wrapFrom 45 = .ok (.ireturn, 1) := dr9 dk9_dX0_wrapFrom_0_0.1 7 (45, .ireturn, 1) rfl
theorem dX0_wrapFrom_12 : decode cX0_wrapFrom 12 = .ok (.aload_n 0, 1) := dr9 dk9_dX0_wrapFrom_0_0.1 8 (12, .aload_n 0, 1) rfl
theorem dX0_wrapFrom_13 : decode cX0_wrapFrom 13 = .ok (.aload_n 0, 1) := dr9 dk9_dX0_wrapFrom_0_0.1 9 (13, .aload_n 0, 1) rfl
theorem dX0_wrapFrom_14 : decode cX0_wrapFrom 14 = .ok (.getfield 47, 3) := dr9 dk9_dX0_wrapFrom_0_0.1 10 (14, .getfield 47, 3) rfl
theorem dX0_wrapFrom_17 : decode cX0_wrapFrom 17 = .ok (.aload_n 0, 1) := dr9 dk9_dX0_wrapFrom_0_0.1 11 (17, .aload_n 0, 1) rfl
theorem dX0_wrapFrom_18 : decode cX0_wrapFrom 18 = .ok (.getfield 51, 3) := dr9 dk9_dX0_wrapFrom_0_0.1 12 (18, .getfield 51, 3) rfl
theorem dX0_wrapFrom_21 : decode cX0_wrapFrom 21 = .ok (.iload 5, 2) := dr9 dk9_dX0_wrapFrom_0_0.1 13 (21, .iload 5, 2) rfl
theorem dX0_wrapFrom_23 : decode cX0_wrapFrom 23 = .ok (.iaload, 1) := dr9 dk9_dX0_wrapFrom_0_0.1 14 (23, .iaload, 1) rfl
theorem dX0_wrapFrom_24 : decode cX0_wrapFrom 24 = .ok (.aaload, 1) := dr9 dk9_dX0_wrapFrom_0_0.1 15 (24, .aaload, 1) rfl
theorem dX0_wrapFrom_25 : decode cX0_wrapFrom 25 = .ok (.iload_n 2, 1) := dr9 dk9_dX0_wrapFrom_0_0.1 16 (25, .iload_n 2, 1) rfl
theorem dX0_wrapFrom_26 : decode cX0_wrapFrom 26 = .ok (.iload_n 3, 1) := dr9 dk9_dX0_wrapFrom_0_0.1 17 (26, .iload_n 3, 1) rfl
theorem dX0_wrapFrom_27 : decode cX0_wrapFrom 27 = .ok (.iload 4, 2) := dr9 dk9_dX0_wrapFrom_0_0.1 18 (27, .iload 4, 2) rfl
theorem dX0_wrapFrom_29 : decode cX0_wrapFrom 29 = .ok (.invokevirtual 126, 3) := dr9 dk9_dX0_wrapFrom_0_0.1 19 (29, .invokevirtual 126, 3) rfl
theorem dX0_wrapFrom_32 : decode cX0_wrapFrom 32 = .ok (.ifCond .eq 6, 3) := dr9 dk9_dX0_wrapFrom_0_0.1 20 (32, .ifCond .eq 6, 3) rfl
theorem dX0_wrapFrom_38 : decode cX0_wrapFrom 38 = .ok (.iinc 5 1, 3) := dr9 dk9_dX0_wrapFrom_0_0.1 21 (38, .iinc 5 1, 3) rfl
theorem dX0_wrapFrom_41 : decode cX0_wrapFrom 41 = .ok (.goto (-38), 3) := dr9 dk9_dX0_wrapFrom_0_0.1 22 (41, .goto (-38), 3) rfl
theorem dX0_wrapFrom_35 : decode cX0_wrapFrom 35 = .ok (.iload 5, 2) := dr9 dk9_dX0_wrapFrom_0_0.1 23 (35, .iload 5, 2) rfl
theorem dX0_wrapFrom_37 : decode cX0_wrapFrom 37 = .ok (.ireturn, 1) := dr9 dk9_dX0_wrapFrom_0_0.2 0 (37, .ireturn, 1) rfl
theorem dk9_dX0_wrapBackFrom_0_0 : dOk cX0_wrapBackFrom [(0, .iload_n 1, 1), (1, .istore 5, 2), (3, .iload 5, 2), (5, .ifCond .lt 35, 3), (40, .iconst (-1), 1), (41, .ireturn, 1), (8, .aload_n 0, 1), (9, .aload_n 0, 1), (10, .getfield 47, 3), (13, .aload_n 0, 1), (14, .getfield 51, 3), (17, .iload 5, 2), (19, .iaload, 1), (20, .aaload, 1), (21, .iload_n 2, 1), (22, .iload_n 3, 1), (23, .iload 4, 2), (25, .invokevirtual 126, 3), (28, .ifCond .eq 6, 3), (34, .iinc 5 (-1), 3), (37, .goto (-34), 3), (31, .iload 5, 2), (33, .ireturn, 1)] = true := by decide +kernel
theorem dX0_wrapBackFrom_0 : decode cX0_wrapBackFrom 0 = .ok (.iload_n 1, 1) := dr9 dk9_dX0_wrapBackFrom_0_0 0 (0, .iload_n 1, 1) rfl
theorem dX0_wrapBackFrom_1 : decode cX0_wrapBackFrom 1 = .ok (.istore 5, 2) := dr9 dk9_dX0_wrapBackFrom_0_0 1 (1, .istore 5, 2) rfl
theorem dX0_wrapBackFrom_3 : decode cX0_wrapBackFrom 3 = .ok (.iload 5, 2) := dr9 dk9_dX0_wrapBackFrom_0_0 2 (3, .iload 5, 2) rfl
theorem dX0_wrapBackFrom_5 : decode cX0_wrapBackFrom 5 = .ok (.ifCond .lt 35, 3) := dr9 dk9_dX0_wrapBackFrom_0_0 3 (5, .ifCond .lt 35, 3) rfl
theorem dX0_wrapBackFrom_40 : decode cX0_wrapBackFrom 40 = .ok (.iconst (-1), 1) := dr9 dk9_dX0_wrapBackFrom_0_0 4 (40, .iconst (-1), 1) rfl
theorem dX0_wrapBackFrom_41 : decode cX0_wrapBackFrom 41 = .ok (.ireturn, 1) := dr9 dk9_dX0_wrapBackFrom_0_0 5 (41, .ireturn, 1) rfl
theorem dX0_wrapBackFrom_8 : decode cX0_wrapBackFrom 8 = .ok (.aload_n 0, 1) := dr9 dk9_dX0_wrapBackFrom_0_0 6 (8, .aload_n 0, 1) rfl
theorem dX0_wrapBackFrom_9 : decode cX0_wrapBackFrom 9 = .ok (.aload_n 0, 1) := dr9 dk9_dX0_wrapBackFrom_0_0 7 (9, .aload_n 0, 1) rfl
theorem dX0_wrapBackFrom_10 : decode cX0_wrapBackFrom 10 = .ok (.getfield 47, 3) := dr9 dk9_dX0_wrapBackFrom_0_0 8 (10, .getfield 47, 3) rfl
theorem dX0_wrapBackFrom_13 : decode cX0_wrapBackFrom 13 = .ok (.aload_n 0, 1) := dr9 dk9_dX0_wrapBackFrom_0_0 9 (13, .aload_n 0, 1) rfl
theorem dX0_wrapBackFrom_14 : decode cX0_wrapBackFrom 14 = .ok (.getfield 51, 3) := dr9 dk9_dX0_wrapBackFrom_0_0 10 (14, .getfield 51, 3) rfl
theorem dX0_wrapBackFrom_17 : decode cX0_wrapBackFrom 17 = .ok (.iload 5, 2) := dr9 dk9_dX0_wrapBackFrom_0_0 11 (17, .iload 5, 2) rfl
theorem dX0_wrapBackFrom_19 : decode cX0_wrapBackFrom 19 = .ok (.iaload, 1) := dr9 dk9_dX0_wrapBackFrom_0_0 12 (19, .iaload, 1) rfl
theorem dX0_wrapBackFrom_20 : decode cX0_wrapBackFrom 20 = .ok (.aaload, 1) := dr9 dk9_dX0_wrapBackFrom_0_0 13 (20, .aaload, 1) rfl
theorem dX0_wrapBackFrom_21 : decode cX0_wrapBackFrom 21 = .ok (.iload_n 2, 1) := dr9 dk9_dX0_wrapBackFrom_0_0 14 (21, .iload_n 2, 1) rfl
theorem dX0_wrapBackFrom_22 : decode cX0_wrapBackFrom 22 = .ok (.iload_n 3, 1) := dr9 dk9_dX0_wrapBackFrom_0_0 15 (22, .iload_n 3, 1) rfl
theorem dX0_wrapBackFrom_23 : decode cX0_wrapBackFrom 23 = .ok (.iload 4, 2) := dr9 dk9_dX0_wrapBackFrom_0_0 16 (23, .iload 4, 2) rfl
theorem dX0_wrapBackFrom_25 : decode cX0_wrapBackFrom 25 = .ok (.invokevirtual 126, 3) := dr9 dk9_dX0_wrapBackFrom_0_0 17 (25, .invokevirtual 126, 3) rfl
theorem dX0_wrapBackFrom_28 : decode cX0_wrapBackFrom 28 = .ok (.ifCond .eq 6, 3) := dr9 dk9_dX0_wrapBackFrom_0_0 18 (28, .ifCond .eq 6, 3) rfl
theorem dX0_wrapBackFrom_34 : decode cX0_wrapBackFrom 34 = .ok (.iinc 5 (-1), 3) := dr9 dk9_dX0_wrapBackFrom_0_0 19 (34, .iinc 5 (-1), 3) rfl
theorem dX0_wrapBackFrom_37 : decode cX0_wrapBackFrom 37 = .ok (.goto (-34), 3) := dr9 dk9_dX0_wrapBackFrom_0_0 20 (37, .goto (-34), 3) rfl
theorem dX0_wrapBackFrom_31 : decode cX0_wrapBackFrom 31 = .ok (.iload 5, 2) := dr9 dk9_dX0_wrapBackFrom_0_0 21 (31, .iload 5, 2) rfl
theorem dX0_wrapBackFrom_33 : decode cX0_wrapBackFrom 33 = .ok (.ireturn, 1) := dr9 dk9_dX0_wrapBackFrom_0_0 22 (33, .ireturn, 1) rfl
theorem dk9_dX0_addWrap_0_0 : dOk cX0_addWrap [(0, .aload_n 0, 1), (1, .getfield 63, 3), (4, .bipush 12, 2), (6, .if_icmp .lt 4, 3), (10, .aload_n 0, 1), (11, .getfield 47, 3), (14, .aload_n 0, 1), (15, .getfield 63, 3), (18, .aaload, 1), (19, .astore 6, 2), (21, .aload 6, 2), (23, .iload_n 1, 1), (24, .putfield 111, 3), (27, .aload 6, 2), (29, .iload_n 2, 1), (30, .putfield 114, 3), (33, .aload 6, 2), (35, .iload_n 3, 1), (36, .putfield 117, 3), (39, .aload 6, 2), (41, .iload 4, 2), (43, .putfield 120, 3), (46, .aload 6, 2), (48, .iload 5, 2)] = true ∧ dOk cX0_addWrap [(50, .putfield 123, 3), (53, .aload_n 0, 1), (54, .getfield 63, 3), (57, .istore 7, 2), (59, .iload 7, 2), (61, .ifCond .le 46, 3), (107, .aload_n 0, 1), (108, .getfield 51, 3), (111, .iload 7, 2), (113, .aload_n 0, 1), (114, .getfield 63, 3), (117, .iastore, 1), (118, .aload_n 0, 1), (119, .dup, 1), (120, .getfield 63, 3), (123, .iconst 1, 1), (124, .iadd, 1), (125, .putfield 63, 3), (128, .return_, 1), (64, .aload_n 0, 1), (65, .getfield 47, 3), (68, .aload_n 0, 1), (69, .getfield 51, 3), (72, .iload 7, 2)] = true ∧ dOk cX0_addWrap [(74, .iconst 1, 1), (75, .isub, 1), (76, .iaload, 1), (77, .aaload, 1), (78, .getfield 117, 3), (81, .iload_n 3, 1), (82, .if_icmp .le 25, 3), (85, .aload_n 0, 1), (86, .getfield 51, 3), (89, .iload 7, 2), (91, .aload_n 0, 1), (92, .getfield 51, 3), (95, .iload 7, 2), (97, .iconst 1, 1), (98, .isub, 1), (99, .iaload, 1), (100, .iastore, 1), (101, .iinc 7 (-1), 3), (104, .goto (-45), 3), (9, .return_, 1)] = true := by decide +kernel
theorem dX0_addWrap_0 : decode cX0_addWrap 0 = .ok (.aload_n 0, 1) := dr9 dk9_dX0_addWrap_0_0.1 0 (0, .aload_n 0, 1) rfl
theorem dX0_addWrap_1 : decode cX0_addWrap 1 = .ok (.getfield 63, 3) := dr9 dk9_dX0_addWrap_0_0.1 1 (1, .getfield 63, 3) rfl
theorem dX0_addWrap_4 : decode cX0_addWrap 4 = .ok (.bipush 12, 2) := dr9 dk9_dX0_addWrap_0_0.1 2 (4, .bipush 12, 2) rfl
theorem dX0_addWrap_6 : decode cX0_addWrap 6 = .ok (.if_icmp .lt 4, 3) := dr9 dk9_dX0_addWrap_0_0.1 3 (6, .if_icmp .lt 4, 3) rfl
theorem dX0_addWrap_10 : decode cX0_addWrap 10 = .ok (.aload_n 0, 1) := dr9 dk9_dX0_addWrap_0_0.1 4 (10, .aload_n 0, 1) rfl
theorem dX0_addWrap_11 : decode cX0_addWrap 11 = .ok (.getfield 47, 3) := dr9 dk9_dX0_addWrap_0_0.1 5 (11, .getfield 47, 3) rfl
theorem dX0_addWrap_14 : decode cX0_addWrap 14 = .ok (.aload_n 0, 1) := dr9 dk9_dX0_addWrap_0_0.1 6 (14, .aload_n 0, 1) rfl
theorem dX0_addWrap_15 : decode cX0_addWrap 15 = .ok (.getfield 63, 3) := dr9 dk9_dX0_addWrap_0_0.1 7 (15, .getfield 63, 3) rfl
theorem dX0_addWrap_18 : decode cX0_addWrap 18 = .ok (.aaload, 1) := dr9 dk9_dX0_addWrap_0_0.1 8 (18, .aaload, 1) rfl
theorem dX0_addWrap_19 : decode cX0_addWrap 19 = .ok (.astore 6, 2) := dr9 dk9_dX0_addWrap_0_0.1 9 (19, .astore 6, 2) rfl
theorem dX0_addWrap_21 : decode cX0_addWrap 21 = .ok (.aload 6, 2) := dr9 dk9_dX0_addWrap_0_0.1 10 (21, .aload 6, 2) rfl
theorem dX0_addWrap_23 : decode cX0_addWrap 23 = .ok (.iload_n 1, 1) := dr9 dk9_dX0_addWrap_0_0.1 11 (23, .iload_n 1, 1) rfl
theorem dX0_addWrap_24 : decode cX0_addWrap 24 = .ok (.putfield 111, 3) := dr9 dk9_dX0_addWrap_0_0.1 12 (24, .putfield 111, 3) rfl
theorem dX0_addWrap_27 : decode cX0_addWrap 27 = .ok (.aload 6, 2) := dr9 dk9_dX0_addWrap_0_0.1 13 (27, .aload 6, 2) rfl
theorem dX0_addWrap_29 : decode cX0_addWrap 29 = .ok (.iload_n 2, 1) := dr9 dk9_dX0_addWrap_0_0.1 14 (29, .iload_n 2, 1) rfl
theorem dX0_addWrap_30 : decode cX0_addWrap 30 = .ok (.putfield 114, 3) := dr9 dk9_dX0_addWrap_0_0.1 15 (30, .putfield 114, 3) rfl
theorem dX0_addWrap_33 : decode cX0_addWrap 33 = .ok (.aload 6, 2) := dr9 dk9_dX0_addWrap_0_0.1 16 (33, .aload 6, 2) rfl
theorem dX0_addWrap_35 : decode cX0_addWrap 35 = .ok (.iload_n 3, 1) := dr9 dk9_dX0_addWrap_0_0.1 17 (35, .iload_n 3, 1) rfl
theorem dX0_addWrap_36 : decode cX0_addWrap 36 = .ok (.putfield 117, 3) := dr9 dk9_dX0_addWrap_0_0.1 18 (36, .putfield 117, 3) rfl
theorem dX0_addWrap_39 : decode cX0_addWrap 39 = .ok (.aload 6, 2) := dr9 dk9_dX0_addWrap_0_0.1 19 (39, .aload 6, 2) rfl
theorem dX0_addWrap_41 : decode cX0_addWrap 41 = .ok (.iload 4, 2) := dr9 dk9_dX0_addWrap_0_0.1 20 (41, .iload 4, 2) rfl
theorem dX0_addWrap_43 : decode cX0_addWrap 43 = .ok (.putfield 120, 3) := dr9 dk9_dX0_addWrap_0_0.1 21 (43, .putfield 120, 3) rfl
theorem dX0_addWrap_46 : decode cX0_addWrap 46 = .ok (.aload 6, 2) := dr9 dk9_dX0_addWrap_0_0.1 22 (46, .aload 6, 2) rfl
theorem dX0_addWrap_48 : decode cX0_addWrap 48 = .ok (.iload 5, 2) := dr9 dk9_dX0_addWrap_0_0.1 23 (48, .iload 5, 2) rfl
theorem dX0_addWrap_50 : decode cX0_addWrap 50 = .ok (.putfield 123, 3) := dr9 dk9_dX0_addWrap_0_0.2.1 0 (50, .putfield 123, 3) rfl
theorem dX0_addWrap_53 : decode cX0_addWrap 53 = .ok (.aload_n 0, 1) := dr9 dk9_dX0_addWrap_0_0.2.1 1 (53, .aload_n 0, 1) rfl
theorem dX0_addWrap_54 : decode cX0_addWrap 54 = .ok (.getfield 63, 3) := dr9 dk9_dX0_addWrap_0_0.2.1 2 (54, .getfield 63, 3) rfl
theorem dX0_addWrap_57 : decode cX0_addWrap 57 = .ok (.istore 7, 2) := dr9 dk9_dX0_addWrap_0_0.2.1 3 (57, .istore 7, 2) rfl
theorem dX0_addWrap_59 : decode cX0_addWrap 59 = .ok (.iload 7, 2) := dr9 dk9_dX0_addWrap_0_0.2.1 4 (59, .iload 7, 2) rfl
theorem dX0_addWrap_61 : decode cX0_addWrap 61 = .ok (.ifCond .le 46, 3) := dr9 dk9_dX0_addWrap_0_0.2.1 5 (61, .ifCond .le 46, 3) rfl
theorem dX0_addWrap_107 : decode cX0_addWrap 107 = .ok (.aload_n 0, 1) := dr9 dk9_dX0_addWrap_0_0.2.1 6 (107, .aload_n 0, 1) rfl
theorem dX0_addWrap_108 : decode cX0_addWrap 108 = .ok (.getfield 51, 3) := dr9 dk9_dX0_addWrap_0_0.2.1 7 (108, .getfield 51, 3) rfl
theorem dX0_addWrap_111 : decode cX0_addWrap 111 = .ok (.iload 7, 2) := dr9 dk9_dX0_addWrap_0_0.2.1 8 (111, .iload 7, 2) rfl
theorem dX0_addWrap_113 : decode cX0_addWrap 113 = .ok (.aload_n 0, 1) := dr9 dk9_dX0_addWrap_0_0.2.1 9 (113, .aload_n 0, 1) rfl
theorem dX0_addWrap_114 : decode cX0_addWrap 114 = .ok (.getfield 63, 3) := dr9 dk9_dX0_addWrap_0_0.2.1 10 (114, .getfield 63, 3) rfl
theorem dX0_addWrap_117 : decode cX0_addWrap 117 = .ok (.iastore, 1) := dr9 dk9_dX0_addWrap_0_0.2.1 11 (117, .iastore, 1) rfl
theorem dX0_addWrap_118 : decode cX0_addWrap 118 = .ok (.aload_n 0, 1) := dr9 dk9_dX0_addWrap_0_0.2.1 12 (118, .aload_n 0, 1) rfl
theorem dX0_addWrap_119 : decode cX0_addWrap 119 = .ok (.dup, 1) := dr9 dk9_dX0_addWrap_0_0.2.1 13 (119, .dup, 1) rfl
theorem dX0_addWrap_120 : decode cX0_addWrap 120 = .ok (.getfield 63, 3) := dr9 dk9_dX0_addWrap_0_0.2.1 14 (120, .getfield 63, 3) rfl
theorem dX0_addWrap_123 : decode cX0_addWrap 123 = .ok (.iconst 1, 1) := dr9 dk9_dX0_addWrap_0_0.2.1 15 (123, .iconst 1, 1) rfl
theorem dX0_addWrap_124 : decode cX0_addWrap 124 = .ok (.iadd, 1) := dr9 dk9_dX0_addWrap_0_0.2.1 16 (124, .iadd, 1) rfl
theorem dX0_addWrap_125 : decode cX0_addWrap 125 = .ok (.putfield 63, 3) := dr9 dk9_dX0_addWrap_0_0.2.1 17 (125, .putfield 63, 3) rfl
theorem dX0_addWrap_128 : decode cX0_addWrap 128 = .ok (.return_, 1) := dr9 dk9_dX0_addWrap_0_0.2.1 18 (128, .return_, 1) rfl
theorem dX0_addWrap_64 : decode cX0_addWrap 64 = .ok (.aload_n 0, 1) := dr9 dk9_dX0_addWrap_0_0.2.1 19 (64, .aload_n 0, 1) rfl
theorem dX0_addWrap_65 : decode cX0_addWrap 65 = .ok (.getfield 47, 3) := dr9 dk9_dX0_addWrap_0_0.2.1 20 (65, .getfield 47, 3) rfl
theorem dX0_addWrap_68 : decode cX0_addWrap 68 = .ok (.aload_n 0, 1) := dr9 dk9_dX0_addWrap_0_0.2.1 21 (68, .aload_n 0, 1) rfl
theorem dX0_addWrap_69 : decode cX0_addWrap 69 = .ok (.getfield 51, 3) := dr9 dk9_dX0_addWrap_0_0.2.1 22 (69, .getfield 51, 3) rfl
theorem dX0_addWrap_72 : decode cX0_addWrap 72 = .ok (.iload 7, 2) := dr9 dk9_dX0_addWrap_0_0.2.1 23 (72, .iload 7, 2) rfl
theorem dX0_addWrap_74 : decode cX0_addWrap 74 = .ok (.iconst 1, 1) := dr9 dk9_dX0_addWrap_0_0.2.2 0 (74, .iconst 1, 1) rfl
theorem dX0_addWrap_75 : decode cX0_addWrap 75 = .ok (.isub, 1) := dr9 dk9_dX0_addWrap_0_0.2.2 1 (75, .isub, 1) rfl
theorem dX0_addWrap_76 : decode cX0_addWrap 76 = .ok (.iaload, 1) := dr9 dk9_dX0_addWrap_0_0.2.2 2 (76, .iaload, 1) rfl
theorem dX0_addWrap_77 : decode cX0_addWrap 77 = .ok (.aaload, 1) := dr9 dk9_dX0_addWrap_0_0.2.2 3 (77, .aaload, 1) rfl
theorem dX0_addWrap_78 : decode cX0_addWrap 78 = .ok (.getfield 117, 3) := dr9 dk9_dX0_addWrap_0_0.2.2 4 (78, .getfield 117, 3) rfl
theorem dX0_addWrap_81 : decode cX0_addWrap 81 = .ok (.iload_n 3, 1) := dr9 dk9_dX0_addWrap_0_0.2.2 5 (81, .iload_n 3, 1) rfl
theorem dX0_addWrap_82 : decode cX0_addWrap 82 = .ok (.if_icmp .le 25, 3) := dr9 dk9_dX0_addWrap_0_0.2.2 6 (82, .if_icmp .le 25, 3) rfl
theorem dX0_addWrap_85 : decode cX0_addWrap 85 = .ok (.aload_n 0, 1) := dr9 dk9_dX0_addWrap_0_0.2.2 7 (85, .aload_n 0, 1) rfl
theorem dX0_addWrap_86 : decode cX0_addWrap 86 = .ok (.getfield 51, 3) := dr9 dk9_dX0_addWrap_0_0.2.2 8 (86, .getfield 51, 3) rfl
theorem dX0_addWrap_89 : decode cX0_addWrap 89 = .ok (.iload 7, 2) := dr9 dk9_dX0_addWrap_0_0.2.2 9 (89, .iload 7, 2) rfl
theorem dX0_addWrap_91 : decode cX0_addWrap 91 = .ok (.aload_n 0, 1) := dr9 dk9_dX0_addWrap_0_0.2.2 10 (91, .aload_n 0, 1) rfl
theorem dX0_addWrap_92 : decode cX0_addWrap 92 = .ok (.getfield 51, 3) := dr9 dk9_dX0_addWrap_0_0.2.2 11 (92, .getfield 51, 3) rfl
theorem dX0_addWrap_95 : decode cX0_addWrap 95 = .ok (.iload 7, 2) := dr9 dk9_dX0_addWrap_0_0.2.2 12 (95, .iload 7, 2) rfl
theorem dX0_addWrap_97 : decode cX0_addWrap 97 = .ok (.iconst 1, 1) := dr9 dk9_dX0_addWrap_0_0.2.2 13 (97, .iconst 1, 1) rfl
theorem dX0_addWrap_98 : decode cX0_addWrap 98 = .ok (.isub, 1) := dr9 dk9_dX0_addWrap_0_0.2.2 14 (98, .isub, 1) rfl
theorem dX0_addWrap_99 : decode cX0_addWrap 99 = .ok (.iaload, 1) := dr9 dk9_dX0_addWrap_0_0.2.2 15 (99, .iaload, 1) rfl
theorem dX0_addWrap_100 : decode cX0_addWrap 100 = .ok (.iastore, 1) := dr9 dk9_dX0_addWrap_0_0.2.2 16 (100, .iastore, 1) rfl
theorem dX0_addWrap_101 : decode cX0_addWrap 101 = .ok (.iinc 7 (-1), 3) := dr9 dk9_dX0_addWrap_0_0.2.2 17 (101, .iinc 7 (-1), 3) rfl
theorem dX0_addWrap_104 : decode cX0_addWrap 104 = .ok (.goto (-45), 3) := dr9 dk9_dX0_addWrap_0_0.2.2 18 (104, .goto (-45), 3) rfl
theorem dX0_addWrap_9 : decode cX0_addWrap 9 = .ok (.return_, 1) := dr9 dk9_dX0_addWrap_0_0.2.2 19 (9, .return_, 1) rfl
theorem dk9_dX0_clear_0_0 : dOk cX0_clear [(0, .aload_n 0, 1), (1, .getfield 14, 3), (4, .iconst 0, 1), (5, .putfield 59, 3), (8, .aload_n 0, 1), (9, .getfield 20, 3), (12, .iconst 0, 1), (13, .putfield 59, 3), (16, .aload_n 0, 1), (17, .getfield 23, 3), (20, .iconst 0, 1), (21, .putfield 59, 3), (24, .aload_n 0, 1), (25, .getfield 26, 3), (28, .iconst 0, 1), (29, .putfield 59, 3), (32, .aload_n 0, 1), (33, .getfield 29, 3), (36, .iconst 0, 1), (37, .putfield 59, 3), (40, .aload_n 0, 1), (41, .iconst 0, 1), (42, .putfield 63, 3), (45, .aload_n 0, 1)] = true ∧ dOk cX0_clear [(46, .iconst 0, 1), (47, .putfield 66, 3), (50, .return_, 1)] = true := by decide +kernel
theorem dX0_clear_0 : decode cX0_clear 0 = .ok (.aload_n 0, 1) := dr9 dk9_dX0_clear_0_0.1 0 (0, .aload_n 0, 1) rfl
theorem dX0_clear_1 : decode cX0_clear 1 = .ok (.getfield 14, 3) := dr9 dk9_dX0_clear_0_0.1 1 (1, .getfield 14, 3) rfl
theorem dX0_clear_4 : decode cX0_clear 4 = .ok (.iconst 0, 1) := dr9 dk9_dX0_clear_0_0.1 2 (4, .iconst 0, 1) rfl
theorem dX0_clear_5 : decode cX0_clear 5 = .ok (.putfield 59, 3) := dr9 dk9_dX0_clear_0_0.1 3 (5, .putfield 59, 3) rfl
theorem dX0_clear_8 : decode cX0_clear 8 = .ok (.aload_n 0, 1) := dr9 dk9_dX0_clear_0_0.1 4 (8, .aload_n 0, 1) rfl
theorem dX0_clear_9 : decode cX0_clear 9 = .ok (.getfield 20, 3) := dr9 dk9_dX0_clear_0_0.1 5 (9, .getfield 20, 3) rfl
theorem dX0_clear_12 : decode cX0_clear 12 = .ok (.iconst 0, 1) := dr9 dk9_dX0_clear_0_0.1 6 (12, .iconst 0, 1) rfl
theorem dX0_clear_13 : decode cX0_clear 13 = .ok (.putfield 59, 3) := dr9 dk9_dX0_clear_0_0.1 7 (13, .putfield 59, 3) rfl
theorem dX0_clear_16 : decode cX0_clear 16 = .ok (.aload_n 0, 1) := dr9 dk9_dX0_clear_0_0.1 8 (16, .aload_n 0, 1) rfl
theorem dX0_clear_17 : decode cX0_clear 17 = .ok (.getfield 23, 3) := dr9 dk9_dX0_clear_0_0.1 9 (17, .getfield 23, 3) rfl
theorem dX0_clear_20 : decode cX0_clear 20 = .ok (.iconst 0, 1) := dr9 dk9_dX0_clear_0_0.1 10 (20, .iconst 0, 1) rfl
theorem dX0_clear_21 : decode cX0_clear 21 = .ok (.putfield 59, 3) := dr9 dk9_dX0_clear_0_0.1 11 (21, .putfield 59, 3) rfl
theorem dX0_clear_24 : decode cX0_clear 24 = .ok (.aload_n 0, 1) := dr9 dk9_dX0_clear_0_0.1 12 (24, .aload_n 0, 1) rfl
theorem dX0_clear_25 : decode cX0_clear 25 = .ok (.getfield 26, 3) := dr9 dk9_dX0_clear_0_0.1 13 (25, .getfield 26, 3) rfl
theorem dX0_clear_28 : decode cX0_clear 28 = .ok (.iconst 0, 1) := dr9 dk9_dX0_clear_0_0.1 14 (28, .iconst 0, 1) rfl
theorem dX0_clear_29 : decode cX0_clear 29 = .ok (.putfield 59, 3) := dr9 dk9_dX0_clear_0_0.1 15 (29, .putfield 59, 3) rfl
theorem dX0_clear_32 : decode cX0_clear 32 = .ok (.aload_n 0, 1) := dr9 dk9_dX0_clear_0_0.1 16 (32, .aload_n 0, 1) rfl
theorem dX0_clear_33 : decode cX0_clear 33 = .ok (.getfield 29, 3) := dr9 dk9_dX0_clear_0_0.1 17 (33, .getfield 29, 3) rfl
theorem dX0_clear_36 : decode cX0_clear 36 = .ok (.iconst 0, 1) := dr9 dk9_dX0_clear_0_0.1 18 (36, .iconst 0, 1) rfl
theorem dX0_clear_37 : decode cX0_clear 37 = .ok (.putfield 59, 3) := dr9 dk9_dX0_clear_0_0.1 19 (37, .putfield 59, 3) rfl
theorem dX0_clear_40 : decode cX0_clear 40 = .ok (.aload_n 0, 1) := dr9 dk9_dX0_clear_0_0.1 20 (40, .aload_n 0, 1) rfl
theorem dX0_clear_41 : decode cX0_clear 41 = .ok (.iconst 0, 1) := dr9 dk9_dX0_clear_0_0.1 21 (41, .iconst 0, 1) rfl
theorem dX0_clear_42 : decode cX0_clear 42 = .ok (.putfield 63, 3) := dr9 dk9_dX0_clear_0_0.1 22 (42, .putfield 63, 3) rfl
theorem dX0_clear_45 : decode cX0_clear 45 = .ok (.aload_n 0, 1) := dr9 dk9_dX0_clear_0_0.1 23 (45, .aload_n 0, 1) rfl
theorem dX0_clear_46 : decode cX0_clear 46 = .ok (.iconst 0, 1) := dr9 dk9_dX0_clear_0_0.2 0 (46, .iconst 0, 1) rfl
theorem dX0_clear_47 : decode cX0_clear 47 = .ok (.putfield 66, 3) := dr9 dk9_dX0_clear_0_0.2 1 (47, .putfield 66, 3) rfl
theorem dX0_clear_50 : decode cX0_clear 50 = .ok (.return_, 1) := dr9 dk9_dX0_clear_0_0.2 2 (50, .return_, 1) rfl
theorem dk9_dX3_addNeed_0_0 : dOk cX3_addNeed [(0, .aload_n 0, 1), (1, .getfield 30, 3), (4, .bipush 8, 2), (6, .if_icmp .ge 43, 3), (49, .return_, 1), (9, .aload_n 0, 1), (10, .getfield 18, 3), (13, .aload_n 0, 1), (14, .getfield 30, 3), (17, .iload_n 1, 1), (18, .iastore, 1), (19, .aload_n 0, 1), (20, .getfield 9, 3), (23, .aload_n 0, 1), (24, .getfield 30, 3), (27, .iload_n 2, 1), (28, .iastore, 1), (29, .aload_n 0, 1), (30, .getfield 15, 3), (33, .aload_n 0, 1), (34, .getfield 30, 3), (37, .iload_n 3, 1), (38, .iastore, 1), (39, .aload_n 0, 1)] = true ∧ dOk cX3_addNeed [(40, .dup, 1), (41, .getfield 30, 3), (44, .iconst 1, 1), (45, .iadd, 1), (46, .putfield 30, 3)] = true := by decide +kernel
theorem dX3_addNeed_0 : decode cX3_addNeed 0 = .ok (.aload_n 0, 1) := dr9 dk9_dX3_addNeed_0_0.1 0 (0, .aload_n 0, 1) rfl
theorem dX3_addNeed_1 : decode cX3_addNeed 1 = .ok (.getfield 30, 3) := dr9 dk9_dX3_addNeed_0_0.1 1 (1, .getfield 30, 3) rfl
theorem dX3_addNeed_4 : decode cX3_addNeed 4 = .ok (.bipush 8, 2) := dr9 dk9_dX3_addNeed_0_0.1 2 (4, .bipush 8, 2) rfl
theorem dX3_addNeed_6 : decode cX3_addNeed 6 = .ok (.if_icmp .ge 43, 3) := dr9 dk9_dX3_addNeed_0_0.1 3 (6, .if_icmp .ge 43, 3) rfl
theorem dX3_addNeed_49 : decode cX3_addNeed 49 = .ok (.return_, 1) := dr9 dk9_dX3_addNeed_0_0.1 4 (49, .return_, 1) rfl
theorem dX3_addNeed_9 : decode cX3_addNeed 9 = .ok (.aload_n 0, 1) := dr9 dk9_dX3_addNeed_0_0.1 5 (9, .aload_n 0, 1) rfl
theorem dX3_addNeed_10 : decode cX3_addNeed 10 = .ok (.getfield 18, 3) := dr9 dk9_dX3_addNeed_0_0.1 6 (10, .getfield 18, 3) rfl
theorem dX3_addNeed_13 : decode cX3_addNeed 13 = .ok (.aload_n 0, 1) := dr9 dk9_dX3_addNeed_0_0.1 7 (13, .aload_n 0, 1) rfl
theorem dX3_addNeed_14 : decode cX3_addNeed 14 = .ok (.getfield 30, 3) := dr9 dk9_dX3_addNeed_0_0.1 8 (14, .getfield 30, 3) rfl
theorem dX3_addNeed_17 : decode cX3_addNeed 17 = .ok (.iload_n 1, 1) := dr9 dk9_dX3_addNeed_0_0.1 9 (17, .iload_n 1, 1) rfl
theorem dX3_addNeed_18 : decode cX3_addNeed 18 = .ok (.iastore, 1) := dr9 dk9_dX3_addNeed_0_0.1 10 (18, .iastore, 1) rfl
theorem dX3_addNeed_19 : decode cX3_addNeed 19 = .ok (.aload_n 0, 1) := dr9 dk9_dX3_addNeed_0_0.1 11 (19, .aload_n 0, 1) rfl
theorem dX3_addNeed_20 : decode cX3_addNeed 20 = .ok (.getfield 9, 3) := dr9 dk9_dX3_addNeed_0_0.1 12 (20, .getfield 9, 3) rfl
theorem dX3_addNeed_23 : decode cX3_addNeed 23 = .ok (.aload_n 0, 1) := dr9 dk9_dX3_addNeed_0_0.1 13 (23, .aload_n 0, 1) rfl
theorem dX3_addNeed_24 : decode cX3_addNeed 24 = .ok (.getfield 30, 3) := dr9 dk9_dX3_addNeed_0_0.1 14 (24, .getfield 30, 3) rfl
theorem dX3_addNeed_27 : decode cX3_addNeed 27 = .ok (.iload_n 2, 1) := dr9 dk9_dX3_addNeed_0_0.1 15 (27, .iload_n 2, 1) rfl
theorem dX3_addNeed_28 : decode cX3_addNeed 28 = .ok (.iastore, 1) := dr9 dk9_dX3_addNeed_0_0.1 16 (28, .iastore, 1) rfl
theorem dX3_addNeed_29 : decode cX3_addNeed 29 = .ok (.aload_n 0, 1) := dr9 dk9_dX3_addNeed_0_0.1 17 (29, .aload_n 0, 1) rfl
theorem dX3_addNeed_30 : decode cX3_addNeed 30 = .ok (.getfield 15, 3) := dr9 dk9_dX3_addNeed_0_0.1 18 (30, .getfield 15, 3) rfl
theorem dX3_addNeed_33 : decode cX3_addNeed 33 = .ok (.aload_n 0, 1) := dr9 dk9_dX3_addNeed_0_0.1 19 (33, .aload_n 0, 1) rfl
theorem dX3_addNeed_34 : decode cX3_addNeed 34 = .ok (.getfield 30, 3) := dr9 dk9_dX3_addNeed_0_0.1 20 (34, .getfield 30, 3) rfl
theorem dX3_addNeed_37 : decode cX3_addNeed 37 = .ok (.iload_n 3, 1) := dr9 dk9_dX3_addNeed_0_0.1 21 (37, .iload_n 3, 1) rfl
theorem dX3_addNeed_38 : decode cX3_addNeed 38 = .ok (.iastore, 1) := dr9 dk9_dX3_addNeed_0_0.1 22 (38, .iastore, 1) rfl
theorem dX3_addNeed_39 : decode cX3_addNeed 39 = .ok (.aload_n 0, 1) := dr9 dk9_dX3_addNeed_0_0.1 23 (39, .aload_n 0, 1) rfl
theorem dX3_addNeed_40 : decode cX3_addNeed 40 = .ok (.dup, 1) := dr9 dk9_dX3_addNeed_0_0.2 0 (40, .dup, 1) rfl
theorem dX3_addNeed_41 : decode cX3_addNeed 41 = .ok (.getfield 30, 3) := dr9 dk9_dX3_addNeed_0_0.2 1 (41, .getfield 30, 3) rfl
theorem dX3_addNeed_44 : decode cX3_addNeed 44 = .ok (.iconst 1, 1) := dr9 dk9_dX3_addNeed_0_0.2 2 (44, .iconst 1, 1) rfl
theorem dX3_addNeed_45 : decode cX3_addNeed 45 = .ok (.iadd, 1) := dr9 dk9_dX3_addNeed_0_0.2 3 (45, .iadd, 1) rfl
theorem dX3_addNeed_46 : decode cX3_addNeed 46 = .ok (.putfield 30, 3) := dr9 dk9_dX3_addNeed_0_0.2 4 (46, .putfield 30, 3) rfl
abbrev r_x_has : Room := { frames := 0, cells := 0, slots := 0, locals := 0 }
abbrev q_x_has (D : va_G) (ks : KS) (ad : Nat → Nat) (kk : Nat → ClassId) (V : Vf) (L : Lf) (Z : XZ) (p0 : Int32) (A : Nat → Prop) : Array Value → State → Outcome → State → Prop := va_Qi (fun (r : Int32) (_ : Unit) => (0 ≤ r.toInt ∧ r.toInt ≤ 1) ∧ (Imp (r.toInt = 1) (0 ≤ p0.toInt ∧ p0.toInt < (V 3 13).toInt))) (fun _ t => gq D A (xw ad kk V L Z) (xty kk Z) t) A
set_option maxHeartbeats 4000000 in
set_option maxRecDepth 100000 in
theorem x_has (l : Launch) (D : va_G) (ks : KS) (sz : Nat) (ad : Nat → Nat) (kk : Nat → ClassId) (V : Vf) (L : Lf) (Z : XZ) (p0 : Int32) (hMV : rgd bX V)  : Met l yX8_has (Cond.code yX8_has cX8_has 2 (some .boolean) :: GW) r_x_has (va_Pc [.ref (ad 3), .int p0] (gp D ks (xw ad kk V L Z) (xty kk Z) sz)) (q_x_has D ks ad kk V L Z p0 (va_A (xw ad kk V L Z) sz)) 0 0 (va_A (xw ad kk V L Z) sz) := by
  refine g_met (q_x_has D ks ad kk V L Z p0) (by decide) (Nat.le_of_ble_eq_true rfl) ?_
  intro p e s m below meth c A ls H locs hx hb hr hml hown hg hlocks hin hnw hgk hP hK hD hS hA hl
  have hown : s.vm.findClass RX8 = some m.cls := hown
  have hl : lv_has ls 2 [(0, .ref (ad 3)), (1, .int p0)] := hl
  have hP : va_P D vwCl (xw ad kk V L Z) H := hP
  have hD : va_D A (xw ad kk V L Z) := hD
  have hK : va_K D vwCl (xty kk Z) s := hK
  refine lv_iload_n hx hb dX8_has_0 rfl (lv_at hl 1 rfl) ?_
  refine lv_if_lt (tgt := 16) hx hb dX8_has_1 (by decide) (fun c1 => ?_) (fun c1 => ?_)
  · skip
    have f2 : p0.toInt < 0 := b_lt rfl (by decide) c1
    refine lv_iconst (v := 0) hx hb dX8_has_16 (by decide) ?_
    have r3 : 0 ≤ ((V 3 13)).toInt ∧ ((V 3 13)).toInt ≤ 300 := hMV 3 13
    exact W.zret (v := 0) hx hb hr rfl (fun t ht hW => ⟨⟨0, (), rfl, ⟨(by decide), (Imp.mk (fun hp => absurd hp (by decide)))⟩, by rw [ht]; exact hP, va_K.moved hW.alike hK, hD⟩, hS.F ht⟩) hS.2.2 dX8_has_17
  · skip
    have f4 : 0 ≤ p0.toInt := b_nlt rfl (by decide) c1
    refine lv_iload_n hx hb dX8_has_4 rfl (lv_at hl 1 rfl) ?_
    refine lv_aload_n hx hb dX8_has_5 rfl (lv_at hl 0 rfl) ?_
    refine va_get (D := D) (ci := 8) (v := .int (V 3 13)) (fs := (xfStock ad V L Z)) (C := RX8) (T := TX8) (N := 16) hx hb hg inX8 hown hK hP 3 xgStock rfl 13 (by decide) (hg _ w391) (fun _ h9 => h9) rfl dX8_has_6 ?_
    have r5 : 0 ≤ ((V 3 13)).toInt ∧ ((V 3 13)).toInt ≤ 300 := hMV 3 13
    refine lv_icmp_ge (tgt := 16) hx hb dX8_has_9 (by decide) (fun c6 => ?_) (fun c6 => ?_)
    · skip
      have f7 : ((V 3 13)).toInt ≤ p0.toInt := b_le rfl rfl c6
      refine lv_iconst (v := 0) hx hb dX8_has_16 (by decide) ?_
      exact W.zret (v := 0) hx hb hr rfl (fun t ht hW => ⟨⟨0, (), rfl, ⟨(by decide), (Imp.mk (fun hp => absurd hp (by decide)))⟩, by rw [ht]; exact hP, va_K.moved hW.alike hK, hD⟩, hS.F ht⟩) hS.2.2 dX8_has_17
    · skip
      have f8 : p0.toInt < ((V 3 13)).toInt := b_nle rfl rfl c6
      refine lv_iconst (v := 1) hx hb dX8_has_12 (by decide) ?_
      refine lv_goto (tgt := 17) hx hb dX8_has_13 (by decide) ?_
      exact W.zret (v := 1) hx hb hr rfl (fun t ht hW => ⟨⟨1, (), rfl, ⟨(by decide), (Imp.mk (fun _ => (show 0 ≤ p0.toInt ∧ p0.toInt < (V 3 13).toInt from by (first | exact om_a1ce77cc111f f4 f8 | omega))))⟩, by rw [ht]; exact hP, va_K.moved hW.alike hK, hD⟩, hS.F ht⟩) hS.2.2 dX8_has_17
abbrev r_x_isOpen : Room := { frames := 0, cells := 0, slots := 0, locals := 0 }
abbrev q_x_isOpen (D : va_G) (ks : KS) (ad : Nat → Nat) (kk : Nat → ClassId) (V : Vf) (L : Lf) (Z : XZ) (p0 : Int32) (A : Nat → Prop) : Array Value → State → Outcome → State → Prop := va_Qi (fun (r : Int32) (_ : Unit) => (0 ≤ r.toInt ∧ r.toInt ≤ 1) ∧ (Imp (r.toInt = 1) (0 ≤ p0.toInt ∧ p0.toInt < (V 3 12).toInt))) (fun _ t => gq D A (xw ad kk V L Z) (xty kk Z) t) A
set_option maxHeartbeats 4000000 in
set_option maxRecDepth 100000 in
theorem x_isOpen (l : Launch) (D : va_G) (ks : KS) (sz : Nat) (ad : Nat → Nat) (kk : Nat → ClassId) (V : Vf) (L : Lf) (Z : XZ) (p0 : Int32) (hMV : rgd bX V)  : Met l yX8_isOpen (Cond.code yX8_isOpen cX8_isOpen 2 (some .boolean) :: GW) r_x_isOpen (va_Pc [.ref (ad 3), .int p0] (gp D ks (xw ad kk V L Z) (xty kk Z) sz)) (q_x_isOpen D ks ad kk V L Z p0 (va_A (xw ad kk V L Z) sz)) 0 0 (va_A (xw ad kk V L Z) sz) := by
  refine g_met (q_x_isOpen D ks ad kk V L Z p0) (by decide) (Nat.le_of_ble_eq_true rfl) ?_
  intro p e s m below meth c A ls H locs hx hb hr hml hown hg hlocks hin hnw hgk hP hK hD hS hA hl
  have hown : s.vm.findClass RX8 = some m.cls := hown
  have hl : lv_has ls 2 [(0, .ref (ad 3)), (1, .int p0)] := hl
  have hP : va_P D vwCl (xw ad kk V L Z) H := hP
  have hD : va_D A (xw ad kk V L Z) := hD
  have hK : va_K D vwCl (xty kk Z) s := hK
  refine lv_iload_n hx hb dX8_isOpen_0 rfl (lv_at hl 1 rfl) ?_
  refine lv_if_lt (tgt := 25) hx hb dX8_isOpen_1 (by decide) (fun c1 => ?_) (fun c1 => ?_)
  · skip
    have f2 : p0.toInt < 0 := b_lt rfl (by decide) c1
    refine lv_iconst (v := 0) hx hb dX8_isOpen_25 (by decide) ?_
    have r3 : 1 ≤ ((V 3 12)).toInt ∧ ((V 3 12)).toInt ≤ 40 := hMV 3 12
    exact W.zret (v := 0) hx hb hr rfl (fun t ht hW => ⟨⟨0, (), rfl, ⟨(by decide), (Imp.mk (fun hp => absurd hp (by decide)))⟩, by rw [ht]; exact hP, va_K.moved hW.alike hK, hD⟩, hS.F ht⟩) hS.2.2 dX8_isOpen_26
  · skip
    have f4 : 0 ≤ p0.toInt := b_nlt rfl (by decide) c1
    refine lv_iload_n hx hb dX8_isOpen_4 rfl (lv_at hl 1 rfl) ?_
    refine lv_aload_n hx hb dX8_isOpen_5 rfl (lv_at hl 0 rfl) ?_
    refine va_get (D := D) (ci := 8) (v := .int (V 3 12)) (fs := (xfStock ad V L Z)) (C := RX8) (T := TX8) (N := 16) hx hb hg inX8 hown hK hP 3 xgStock rfl 12 (by decide) (hg _ w390) (fun _ h9 => h9) rfl dX8_isOpen_6 ?_
    have r5 : 1 ≤ ((V 3 12)).toInt ∧ ((V 3 12)).toInt ≤ 40 := hMV 3 12
    refine lv_icmp_ge (tgt := 25) hx hb dX8_isOpen_9 (by decide) (fun c6 => ?_) (fun c6 => ?_)
    · skip
      have f7 : ((V 3 12)).toInt ≤ p0.toInt := b_le rfl rfl c6
      refine lv_iconst (v := 0) hx hb dX8_isOpen_25 (by decide) ?_
      exact W.zret (v := 0) hx hb hr rfl (fun t ht hW => ⟨⟨0, (), rfl, ⟨(by decide), (Imp.mk (fun hp => absurd hp (by decide)))⟩, by rw [ht]; exact hP, va_K.moved hW.alike hK, hD⟩, hS.F ht⟩) hS.2.2 dX8_isOpen_26
    · skip
      have f8 : p0.toInt < ((V 3 12)).toInt := b_nle rfl rfl c6
      refine lv_aload_n hx hb dX8_isOpen_12 rfl (lv_at hl 0 rfl) ?_
      refine va_get (D := D) (ci := 8) (v := .ref (ad 20)) (fs := (xfStock ad V L Z)) (C := RX8) (T := TX8) (N := 16) hx hb hg inX8 hown hK hP 3 xgStock rfl 2 (by decide) (hg _ w376) (fun _ h9 => h9) rfl dX8_isOpen_13 ?_
      refine lv_iload_n hx hb dX8_isOpen_16 rfl (lv_at hl 1 rfl) ?_
      refine va_zald (D := D) (i := p0) hx hb hK hP 20 13 rfl rfl (i_in (a := p0.toInt) rfl (by (first | exact om_8c1a0720d08e f4 r5.2 f8 | omega))) dX8_isOpen_17 ?_
      have r9 : 0 ≤ ((V 23 (Int32.toNatClampNeg p0))).toInt ∧ ((V 23 (Int32.toNatClampNeg p0))).toInt ≤ 1 := hMV 23 (Int32.toNatClampNeg p0)
      refine lv_if_eq (tgt := 25) hx hb dX8_isOpen_18 (by decide) (fun c10 => ?_) (fun c10 => ?_)
      · skip
        have f11 : ((V 23 (Int32.toNatClampNeg p0))).toInt = 0 := b_eq rfl (by decide) c10
        refine lv_iconst (v := 0) hx hb dX8_isOpen_25 (by decide) ?_
        exact W.zret (v := 0) hx hb hr rfl (fun t ht hW => ⟨⟨0, (), rfl, ⟨(by decide), (Imp.mk (fun hp => absurd hp (by decide)))⟩, by rw [ht]; exact hP, va_K.moved hW.alike hK, hD⟩, hS.F ht⟩) hS.2.2 dX8_isOpen_26
      · skip
        have f12 : ((V 23 (Int32.toNatClampNeg p0))).toInt ≠ 0 := b_neq rfl (by decide) c10
        refine lv_iconst (v := 1) hx hb dX8_isOpen_21 (by decide) ?_
        refine lv_goto (tgt := 26) hx hb dX8_isOpen_22 (by decide) ?_
        exact W.zret (v := 1) hx hb hr rfl (fun t ht hW => ⟨⟨1, (), rfl, ⟨(by decide), (Imp.mk (fun _ => (show 0 ≤ p0.toInt ∧ p0.toInt < (V 3 12).toInt from by (first | exact om_a1ce77cc111f f4 f8 | omega))))⟩, by rw [ht]; exact hP, va_K.moved hW.alike hK, hD⟩, hS.F ht⟩) hS.2.2 dX8_isOpen_26
abbrev r_x_open : Room := { frames := 0, cells := 0, slots := 0, locals := 0 }
abbrev q_x_open (D : va_G) (ks : KS) (ad : Nat → Nat) (kk : Nat → ClassId) (V : Vf) (L : Lf) (Z : XZ) (p0 : Int32) (p1 : Int32) (A : Nat → Prop) : Array Value → State → Outcome → State → Prop := va_Qi (fun (r : Int32) (u : Vf × Lf) => rgd bX u.1 ∧ agr [(3, 12)] [21, 22, 23] V u.1 ∧ u.2 = L ∧ ((-1) ≤ r.toInt ∧ r.toInt ≤ 39)) (fun u t => gq D A (xw ad kk u.1 u.2 Z) (xty kk Z) t) A
abbrev r_x_openScopes : Room := { frames := 0, cells := 0, slots := 0, locals := 0 }
abbrev q_x_openScopes (D : va_G) (ks : KS) (ad : Nat → Nat) (kk : Nat → ClassId) (V : Vf) (L : Lf) (Z : XZ) (A : Nat → Prop) : Array Value → State → Outcome → State → Prop := va_Qi (fun (r : Int32) (_ : Unit) => True) (fun _ t => gq D A (xw ad kk V L Z) (xty kk Z) t) A
abbrev r_x_latestOpen : Room := { frames := 0, cells := 0, slots := 0, locals := 0 }
abbrev q_x_latestOpen (D : va_G) (ks : KS) (ad : Nat → Nat) (kk : Nat → ClassId) (V : Vf) (L : Lf) (Z : XZ) (p0 : Int32) (p1 : Int32) (A : Nat → Prop) : Array Value → State → Outcome → State → Prop := va_Qi (fun (r : Int32) (_ : Unit) => ((-1) ≤ r.toInt ∧ r.toInt ≤ 39)) (fun _ t => gq D A (xw ad kk V L Z) (xty kk Z) t) A
set_option maxHeartbeats 4000000 in
set_option maxRecDepth 100000 in
theorem x_latestOpen (l : Launch) (D : va_G) (ks : KS) (sz : Nat) (ad : Nat → Nat) (kk : Nat → ClassId) (V : Vf) (L : Lf) (Z : XZ) (p0 : Int32) (p1 : Int32) (hMV : rgd bX V)  : Met l yX8_latestOpen (Cond.code yX8_latestOpen cX8_latestOpen 4 (some .int) :: GW) r_x_latestOpen (va_Pc [.ref (ad 3), .int p0, .int p1] (gp D ks (xw ad kk V L Z) (xty kk Z) sz)) (q_x_latestOpen D ks ad kk V L Z p0 p1 (va_A (xw ad kk V L Z) sz)) 0 0 (va_A (xw ad kk V L Z) sz) := by
  refine g_met (q_x_latestOpen D ks ad kk V L Z p0 p1) (by decide) (Nat.le_of_ble_eq_true rfl) ?_
  intro p e s m below meth c A ls H locs hx hb hr hml hown hg hlocks hin hnw hgk hP hK hD hS hA hl
  have hown : s.vm.findClass RX8 = some m.cls := hown
  have hl : lv_has ls 4 [(0, .ref (ad 3)), (1, .int p0), (2, .int p1)] := hl
  have hP : va_P D vwCl (xw ad kk V L Z) H := hP
  have hD : va_D A (xw ad kk V L Z) := hD
  have hK : va_K D vwCl (xty kk Z) s := hK
  refine lv_aload_n hx hb dX8_latestOpen_0 rfl (lv_at hl 0 rfl) ?_
  refine va_get (D := D) (ci := 8) (v := .int (V 3 12)) (fs := (xfStock ad V L Z)) (C := RX8) (T := TX8) (N := 16) hx hb hg inX8 hown hK hP 3 xgStock rfl 12 (by decide) (hg _ w390) (fun _ h9 => h9) rfl dX8_latestOpen_1 ?_
  have r1 : 1 ≤ ((V 3 12)).toInt ∧ ((V 3 12)).toInt ≤ 40 := hMV 3 12
  refine lv_iconst (v := 1) hx hb dX8_latestOpen_4 (by decide) ?_
  refine lv_isub hx hb dX8_latestOpen_5 ?_
  refine lv_topi (fun z2 ez2 => ?_)
  have hz2 : z2.toInt = ((V 3 12)).toInt - 1 := i_sub ez2 rfl (by decide) (by (first | exact om_e77d46198aca r1.1 r1.2 | omega))
  refine lv_istore_n (lv' := [(3, .int z2), (0, .ref (ad 3)), (1, .int p0), (2, .int p1)]) hx hb dX8_latestOpen_6 rfl hl (by decide) rfl (fun ls hl => ?_)
  have lp4 : ∀ (fulp4 : Nat) (y3 : Int32) (H : Heap) (locs : List Loc) (ls : Array Slot), 0 ≤ y3.toInt ∧ y3.toInt ≤ 39 → y3.toInt < (fulp4 : Int) → va_P D vwCl (xw ad kk V L Z) H → va_D A (xw ad kk V L Z) → va_S A s.heap H locs → lv_has ls 4 [(3, .int y3), (0, .ref (ad 3)), (1, .int p0), (2, .int p1)] → W p l e r_x_latestOpen s m ([.ref (ad 3), .int p0, .int p1] : List Value).toArray below meth c H locs 0 0 (MQ below (q_x_latestOpen D ks ad kk V L Z p0 p1 A) ([.ref (ad 3), .int p0, .int p1] : List Value).toArray s 0 0 A) (F0 m 7 ls []) := by
    intro fulp4
    induction fulp4 with
    | zero =>
      intro y3 H locs ls klp4_0 hn  hP hD hS hl
      exfalso; (first | exact om_21e89d3d06d7 klp4_0.1 hn | omega)
    | succ fulp4 ihlp4 =>
      intro y3 H locs ls klp4_0 hn  hP hD hS hl
      refine lv_iload_n hx hb dX8_latestOpen_7 rfl (lv_at hl 0 rfl) ?_
      refine lv_if_le (tgt := 48) hx hb dX8_latestOpen_8 (by decide) (fun c5 => ?_) (fun c5 => ?_)
      · skip
        have f6 : y3.toInt ≤ 0 := b_le rfl (by decide) c5
        refine lv_iconst (v := (-1)) hx hb dX8_latestOpen_48 (by decide) ?_
        exact W.iret (v := (-1)) hx hb hr (fun t ht hW => ⟨⟨(-1), (), rfl, (by decide), by rw [ht]; exact hP, va_K.moved hW.alike hK, hD⟩, hS.F ht⟩) hS.2.2 dX8_latestOpen_49
      · skip
        have f7 : 0 < y3.toInt := b_nle rfl (by decide) c5
        refine lv_aload_n hx hb dX8_latestOpen_11 rfl (lv_at hl 1 rfl) ?_
        refine va_get (D := D) (ci := 8) (v := .ref (ad 20)) (fs := (xfStock ad V L Z)) (C := RX8) (T := TX8) (N := 16) hx hb hg inX8 hown hK hP 3 xgStock rfl 2 (by decide) (hg _ w376) (fun _ h9 => h9) rfl dX8_latestOpen_12 ?_
        refine lv_iload_n hx hb dX8_latestOpen_15 rfl (lv_at hl 0 rfl) ?_
        refine va_zald (D := D) (i := y3) hx hb hK hP 20 13 rfl rfl (i_in (a := y3.toInt) rfl (by (first | exact om_4e39fc579b00 klp4_0.2 f7 | omega))) dX8_latestOpen_16 ?_
        have r8 : 0 ≤ ((V 23 (Int32.toNatClampNeg y3))).toInt ∧ ((V 23 (Int32.toNatClampNeg y3))).toInt ≤ 1 := hMV 23 (Int32.toNatClampNeg y3)
        refine lv_if_eq (tgt := 42) hx hb dX8_latestOpen_17 (by decide) (fun c9 => ?_) (fun c9 => ?_)
        · skip
          have f10 : ((V 23 (Int32.toNatClampNeg y3))).toInt = 0 := b_eq rfl (by decide) c9
          obtain ⟨z11, ez11⟩ : ∃ y : Int32, y = y3 + (-1) := ⟨_, rfl⟩
          have hz11 : z11.toInt = y3.toInt + (-1) := i_add ez11 rfl (by decide) (by (first | exact om_38bbca15f2be klp4_0.2 f7 | omega))
          refine lv_iinc (v := z11) (lv' := [(3, .int z11), (0, .ref (ad 3)), (1, .int p0), (2, .int p1)]) hx hb dX8_latestOpen_42 hl (k := 0) rfl (by rw [ez11]; rfl) (by decide) rfl (fun ls hl => ?_)
          refine lv_goto (tgt := 7) hx hb dX8_latestOpen_45 (by decide) ?_
          exact ihlp4 z11 H locs ls (by (first | exact om_0934def82ed5 klp4_0.2 f7 hz11 | omega)) (by (first | exact om_46f113951c8c hn hz11 | omega)) hP hD hS (lv_sub hl [0, 1, 2, 3] rfl)
        · skip
          have f12 : ((V 23 (Int32.toNatClampNeg y3))).toInt ≠ 0 := b_neq rfl (by decide) c9
          refine lv_aload_n hx hb dX8_latestOpen_20 rfl (lv_at hl 1 rfl) ?_
          refine va_get (D := D) (ci := 8) (v := .ref (ad 18)) (fs := (xfStock ad V L Z)) (C := RX8) (T := TX8) (N := 16) hx hb hg inX8 hown hK hP 3 xgStock rfl 0 (by decide) (hg _ w373) (fun _ h9 => h9) rfl dX8_latestOpen_21 ?_
          refine lv_iload_n hx hb dX8_latestOpen_24 rfl (lv_at hl 0 rfl) ?_
          refine va_iald (D := D) (i := y3) hx hb hK hP 18 11 rfl rfl (i_in (a := y3.toInt) rfl (by (first | exact om_4e39fc579b00 klp4_0.2 f7 | omega))) dX8_latestOpen_25 ?_
          refine lv_iload_n hx hb dX8_latestOpen_26 rfl (lv_at hl 2 rfl) ?_
          refine lv_icmp_ne (tgt := 42) hx hb dX8_latestOpen_27 (by decide) (fun c13 => ?_) (fun c13 => ?_)
          · skip
            have f14 : ((V 21 (Int32.toNatClampNeg y3))).toInt ≠ p0.toInt := b_neq rfl rfl c13
            obtain ⟨z15, ez15⟩ : ∃ y : Int32, y = y3 + (-1) := ⟨_, rfl⟩
            have hz15 : z15.toInt = y3.toInt + (-1) := i_add ez15 rfl (by decide) (by (first | exact om_38bbca15f2be klp4_0.2 f7 | omega))
            refine lv_iinc (v := z15) (lv' := [(3, .int z15), (0, .ref (ad 3)), (1, .int p0), (2, .int p1)]) hx hb dX8_latestOpen_42 hl (k := 0) rfl (by rw [ez15]; rfl) (by decide) rfl (fun ls hl => ?_)
            refine lv_goto (tgt := 7) hx hb dX8_latestOpen_45 (by decide) ?_
            exact ihlp4 z15 H locs ls (by (first | exact om_0934def82ed5 klp4_0.2 f7 hz15 | omega)) (by (first | exact om_46f113951c8c hn hz15 | omega)) hP hD hS (lv_sub hl [0, 1, 2, 3] rfl)
          · skip
            have f16 : ((V 21 (Int32.toNatClampNeg y3))).toInt = p0.toInt := b_eq rfl rfl c13
            refine lv_aload_n hx hb dX8_latestOpen_30 rfl (lv_at hl 1 rfl) ?_
            refine va_get (D := D) (ci := 8) (v := .ref (ad 19)) (fs := (xfStock ad V L Z)) (C := RX8) (T := TX8) (N := 16) hx hb hg inX8 hown hK hP 3 xgStock rfl 1 (by decide) (hg _ w375) (fun _ h9 => h9) rfl dX8_latestOpen_31 ?_
            refine lv_iload_n hx hb dX8_latestOpen_34 rfl (lv_at hl 0 rfl) ?_
            refine va_iald (D := D) (i := y3) hx hb hK hP 19 12 rfl rfl (i_in (a := y3.toInt) rfl (by (first | exact om_4e39fc579b00 klp4_0.2 f7 | omega))) dX8_latestOpen_35 ?_
            have r17 : 0 ≤ ((V 22 (Int32.toNatClampNeg y3))).toInt ∧ ((V 22 (Int32.toNatClampNeg y3))).toInt ≤ 39 := hMV 22 (Int32.toNatClampNeg y3)
            refine lv_iload_n hx hb dX8_latestOpen_36 rfl (lv_at hl 3 rfl) ?_
            refine lv_icmp_ne (tgt := 42) hx hb dX8_latestOpen_37 (by decide) (fun c18 => ?_) (fun c18 => ?_)
            · skip
              have f19 : ((V 22 (Int32.toNatClampNeg y3))).toInt ≠ p1.toInt := b_neq rfl rfl c18
              obtain ⟨z20, ez20⟩ : ∃ y : Int32, y = y3 + (-1) := ⟨_, rfl⟩
              have hz20 : z20.toInt = y3.toInt + (-1) := i_add ez20 rfl (by decide) (by (first | exact om_38bbca15f2be klp4_0.2 f7 | omega))
              refine lv_iinc (v := z20) (lv' := [(3, .int z20), (0, .ref (ad 3)), (1, .int p0), (2, .int p1)]) hx hb dX8_latestOpen_42 hl (k := 0) rfl (by rw [ez20]; rfl) (by decide) rfl (fun ls hl => ?_)
              refine lv_goto (tgt := 7) hx hb dX8_latestOpen_45 (by decide) ?_
              exact ihlp4 z20 H locs ls (by (first | exact om_0934def82ed5 klp4_0.2 f7 hz20 | omega)) (by (first | exact om_46f113951c8c hn hz20 | omega)) hP hD hS (lv_sub hl [0, 1, 2, 3] rfl)
            · skip
              have f21 : ((V 22 (Int32.toNatClampNeg y3))).toInt = p1.toInt := b_eq rfl rfl c18
              refine lv_iload_n hx hb dX8_latestOpen_40 rfl (lv_at hl 0 rfl) ?_
              exact W.iret (v := y3) hx hb hr (fun t ht hW => ⟨⟨y3, (), rfl, (show (-1) ≤ y3.toInt ∧ y3.toInt ≤ 39 from by (first | exact om_f73bf33877bf klp4_0.2 f7 | omega)), by rw [ht]; exact hP, va_K.moved hW.alike hK, hD⟩, hS.F ht⟩) hS.2.2 dX8_latestOpen_41
  exact lp4 ((z2.toInt + 1 : Int).toNat) z2 H locs ls (by (first | exact om_e561bb5b3d47 r1.1 r1.2 hz2 | omega)) (by (first | exact om_9011110baf36 | omega)) hP hD hS (lv_sub hl [0, 1, 2, 3] rfl)
abbrev r_x_innermost : Room := { frames := 1, cells := 0, slots := 0, locals := 23 }
abbrev q_x_innermost (D : va_G) (ks : KS) (ad : Nat → Nat) (kk : Nat → ClassId) (V : Vf) (L : Lf) (Z : XZ) (p0 : Int32) (A : Nat → Prop) : Array Value → State → Outcome → State → Prop := va_Qi (fun (r : Int32) (_ : Unit) => (0 ≤ r.toInt ∧ r.toInt ≤ 39)) (fun _ t => gq D A (xw ad kk V L Z) (xty kk Z) t) A
set_option maxHeartbeats 4000000 in
set_option maxRecDepth 100000 in
theorem x_innermost (l : Launch) (D : va_G) (ks : KS) (sz : Nat) (ad : Nat → Nat) (kk : Nat → ClassId) (V : Vf) (L : Lf) (Z : XZ) (p0 : Int32) (hMV : rgd bX V) (rg_p0 : 0 ≤ p0.toInt ∧ p0.toInt ≤ 39)  : Met l yX8_innermost (Cond.code yX8_innermost cX8_innermost 4 (some .int) :: GW) r_x_innermost (va_Pc [.ref (ad 3), .int p0] (gp D ks (xw ad kk V L Z) (xty kk Z) sz)) (q_x_innermost D ks ad kk V L Z p0 (va_A (xw ad kk V L Z) sz)) 0 0 (va_A (xw ad kk V L Z) sz) := by
  refine g_met (q_x_innermost D ks ad kk V L Z p0) (by decide) (Nat.le_of_ble_eq_true rfl) ?_
  intro p e s m below meth c A ls H locs hx hb hr hml hown hg hlocks hin hnw hgk hP hK hD hS hA hl
  have hown : s.vm.findClass RX8 = some m.cls := hown
  have hl : lv_has ls 4 [(0, .ref (ad 3)), (1, .int p0)] := hl
  have hP : va_P D vwCl (xw ad kk V L Z) H := hP
  have hD : va_D A (xw ad kk V L Z) := hD
  have hK : va_K D vwCl (xty kk Z) s := hK
  refine lv_iload_n hx hb dX8_innermost_0 rfl (lv_at hl 1 rfl) ?_
  refine lv_istore_n (lv' := [(2, .int p0), (0, .ref (ad 3)), (1, .int p0)]) hx hb dX8_innermost_1 rfl hl (by decide) rfl (fun ls hl => ?_)
  refine lv_iload_n hx hb dX8_innermost_2 rfl (lv_at hl 2 rfl) ?_
  refine lv_if_ne (tgt := 13) hx hb dX8_innermost_3 (by decide) (fun c1 => ?_) (fun c1 => ?_)
  · skip
    have f2 : p0.toInt ≠ 0 := b_neq rfl (by decide) c1
    refine lv_aload_n hx hb dX8_innermost_13 rfl (lv_at hl 1 rfl) ?_
    refine lv_iconst (v := 2) hx hb dX8_innermost_14 (by decide) ?_
    refine lv_iload_n hx hb dX8_innermost_15 rfl (lv_at hl 0 rfl) ?_
    have r3 : Int32.toInt 2 = 2 := by decide
    refine gA_int (gA_runV (As := [.int 2, .int p0]) (rest := []) (ci := 8) (q0 := 3) hx hb hml hown hg hP hD hK hS hA hnw hgk (x_latestOpen l D ks H.size ad kk V L Z 2 p0 hMV ) w1528 w1530 w79 w164 w1531 rfl xgStock hdV_yX8_latestOpen ⟨Nat.le_of_ble_eq_true rfl, Nat.le_of_ble_eq_true rfl⟩ rfl hl.1 rfl (Nat.le_of_ble_eq_true rfl) dX8_innermost_16 ⟨Nat.le_of_ble_eq_true rfl, Nat.le_of_ble_eq_true rfl⟩) hP hD hK hS hA (fun z4 u5 H locs w6 hP hD hK hS => ?_)
    have rgz4 := w6
    have rgz4 : (-1) ≤ z4.toInt ∧ z4.toInt ≤ 39 := rgz4
    refine lv_istore_n (lv' := [(3, .int z4), (2, .int p0), (0, .ref (ad 3)), (1, .int p0)]) hx hb dX8_innermost_19 rfl hl (by decide) rfl (fun ls hl => ?_)
    refine lv_iload_n hx hb dX8_innermost_20 rfl (lv_at hl 0 rfl) ?_
    refine lv_iconst (v := (-1)) hx hb dX8_innermost_21 (by decide) ?_
    refine lv_icmp_eq (tgt := 29) hx hb dX8_innermost_22 (by decide) (fun c7 => ?_) (fun c7 => ?_)
    · skip
      have f8 : z4.toInt = (-1) := b_eq rfl (by decide) c7
      refine lv_iload_n hx hb dX8_innermost_29 rfl (lv_at hl 1 rfl) ?_
      refine lv_iconst (v := (-1)) hx hb dX8_innermost_30 (by decide) ?_
      refine lv_icmp_eq (tgt := 38) hx hb dX8_innermost_31 (by decide) (fun c9 => ?_) (fun c9 => ?_)
      · skip
        have f10 : p0.toInt = (-1) := b_eq rfl (by decide) c9
        exfalso; (first | exact om_a3c3ab3149d1 rg_p0.1 f2 f10 | omega)
      · skip
        have f11 : p0.toInt ≠ (-1) := b_neq rfl (by decide) c9
        refine lv_iload_n hx hb dX8_innermost_34 rfl (lv_at hl 1 rfl) ?_
        refine lv_goto (tgt := 39) hx hb dX8_innermost_35 (by decide) ?_
        exact W.iret (v := p0) hx hb hr (fun t ht hW => ⟨⟨p0, (), rfl, (show 0 ≤ p0.toInt ∧ p0.toInt ≤ 39 from by (first | exact om_a1f377a6f5cc rg_p0.1 rg_p0.2 f2 | omega)), by rw [ht]; exact hP, va_K.moved hW.alike hK, hD⟩, hS.F ht⟩) hS.2.2 dX8_innermost_39
    · skip
      have f12 : z4.toInt ≠ (-1) := b_neq rfl (by decide) c7
      refine lv_iload_n hx hb dX8_innermost_25 rfl (lv_at hl 0 rfl) ?_
      refine lv_goto (tgt := 39) hx hb dX8_innermost_26 (by decide) ?_
      exact W.iret (v := z4) hx hb hr (fun t ht hW => ⟨⟨z4, (), rfl, (show 0 ≤ z4.toInt ∧ z4.toInt ≤ 39 from by (first | exact om_8305e47bdc88 rgz4.1 rgz4.2 f12 | omega)), by rw [ht]; exact hP, va_K.moved hW.alike hK, hD⟩, hS.F ht⟩) hS.2.2 dX8_innermost_39
  · skip
    have f13 : p0.toInt = 0 := b_eq rfl (by decide) c1
    refine lv_aload_n hx hb dX8_innermost_6 rfl (lv_at hl 1 rfl) ?_
    refine lv_iconst (v := 1) hx hb dX8_innermost_7 (by decide) ?_
    refine lv_iconst (v := 0) hx hb dX8_innermost_8 (by decide) ?_
    have r14 : Int32.toInt 1 = 1 := by decide
    have r15 : Int32.toInt 0 = 0 := by decide
    refine gA_int (gA_runV (As := [.int 1, .int 0]) (rest := []) (ci := 8) (q0 := 3) hx hb hml hown hg hP hD hK hS hA hnw hgk (x_latestOpen l D ks H.size ad kk V L Z 1 0 hMV ) w1528 w1530 w79 w164 w1531 rfl xgStock hdV_yX8_latestOpen ⟨Nat.le_of_ble_eq_true rfl, Nat.le_of_ble_eq_true rfl⟩ rfl hl.1 rfl (Nat.le_of_ble_eq_true rfl) dX8_innermost_9 ⟨Nat.le_of_ble_eq_true rfl, Nat.le_of_ble_eq_true rfl⟩) hP hD hK hS hA (fun z16 u17 H locs w18 hP hD hK hS => ?_)
    have rgz16 := w18
    have rgz16 : (-1) ≤ z16.toInt ∧ z16.toInt ≤ 39 := rgz16
    refine lv_istore_n (lv' := [(2, .int z16), (0, .ref (ad 3)), (1, .int p0)]) hx hb dX8_innermost_12 rfl hl (by decide) rfl (fun ls hl => ?_)
    refine lv_aload_n hx hb dX8_innermost_13 rfl (lv_at hl 1 rfl) ?_
    refine lv_iconst (v := 2) hx hb dX8_innermost_14 (by decide) ?_
    refine lv_iload_n hx hb dX8_innermost_15 rfl (lv_at hl 0 rfl) ?_
    have r19 : Int32.toInt 2 = 2 := by decide
    refine gA_int (gA_runV (As := [.int 2, .int z16]) (rest := []) (ci := 8) (q0 := 3) hx hb hml hown hg hP hD hK hS hA hnw hgk (x_latestOpen l D ks H.size ad kk V L Z 2 z16 hMV ) w1528 w1530 w79 w164 w1531 rfl xgStock hdV_yX8_latestOpen ⟨Nat.le_of_ble_eq_true rfl, Nat.le_of_ble_eq_true rfl⟩ rfl hl.1 rfl (Nat.le_of_ble_eq_true rfl) dX8_innermost_16 ⟨Nat.le_of_ble_eq_true rfl, Nat.le_of_ble_eq_true rfl⟩) hP hD hK hS hA (fun z20 u21 H locs w22 hP hD hK hS => ?_)
    have rgz20 := w22
    have rgz20 : (-1) ≤ z20.toInt ∧ z20.toInt ≤ 39 := rgz20
    refine lv_istore_n (lv' := [(3, .int z20), (2, .int z16), (0, .ref (ad 3)), (1, .int p0)]) hx hb dX8_innermost_19 rfl hl (by decide) rfl (fun ls hl => ?_)
    refine lv_iload_n hx hb dX8_innermost_20 rfl (lv_at hl 0 rfl) ?_
    refine lv_iconst (v := (-1)) hx hb dX8_innermost_21 (by decide) ?_
    refine lv_icmp_eq (tgt := 29) hx hb dX8_innermost_22 (by decide) (fun c23 => ?_) (fun c23 => ?_)
    · skip
      have f24 : z20.toInt = (-1) := b_eq rfl (by decide) c23
      refine lv_iload_n hx hb dX8_innermost_29 rfl (lv_at hl 1 rfl) ?_
      refine lv_iconst (v := (-1)) hx hb dX8_innermost_30 (by decide) ?_
      refine lv_icmp_eq (tgt := 38) hx hb dX8_innermost_31 (by decide) (fun c25 => ?_) (fun c25 => ?_)
      · skip
        have f26 : z16.toInt = (-1) := b_eq rfl (by decide) c25
        refine lv_iload_n hx hb dX8_innermost_38 rfl (lv_at hl 3 rfl) ?_
        exact W.iret (v := p0) hx hb hr (fun t ht hW => ⟨⟨p0, (), rfl, (show 0 ≤ p0.toInt ∧ p0.toInt ≤ 39 from by (first | exact om_0b70af307712 rg_p0.1 f13 | omega)), by rw [ht]; exact hP, va_K.moved hW.alike hK, hD⟩, hS.F ht⟩) hS.2.2 dX8_innermost_39
      · skip
        have f27 : z16.toInt ≠ (-1) := b_neq rfl (by decide) c25
        refine lv_iload_n hx hb dX8_innermost_34 rfl (lv_at hl 1 rfl) ?_
        refine lv_goto (tgt := 39) hx hb dX8_innermost_35 (by decide) ?_
        exact W.iret (v := z16) hx hb hr (fun t ht hW => ⟨⟨z16, (), rfl, (show 0 ≤ z16.toInt ∧ z16.toInt ≤ 39 from by (first | exact om_8305e47bdc88 rgz16.1 rgz16.2 f27 | omega)), by rw [ht]; exact hP, va_K.moved hW.alike hK, hD⟩, hS.F ht⟩) hS.2.2 dX8_innermost_39
    · skip
      have f28 : z20.toInt ≠ (-1) := b_neq rfl (by decide) c23
      refine lv_iload_n hx hb dX8_innermost_25 rfl (lv_at hl 0 rfl) ?_
      refine lv_goto (tgt := 39) hx hb dX8_innermost_26 (by decide) ?_
      exact W.iret (v := z20) hx hb hr (fun t ht hW => ⟨⟨z20, (), rfl, (show 0 ≤ z20.toInt ∧ z20.toInt ≤ 39 from by (first | exact om_8305e47bdc88 rgz20.1 rgz20.2 f28 | omega)), by rw [ht]; exact hP, va_K.moved hW.alike hK, hD⟩, hS.F ht⟩) hS.2.2 dX8_innermost_39
abbrev r_x_shut : Room := { frames := 0, cells := 0, slots := 0, locals := 0 }
abbrev q_x_shut (D : va_G) (ks : KS) (ad : Nat → Nat) (kk : Nat → ClassId) (V : Vf) (L : Lf) (Z : XZ) (p0 : Int32) (A : Nat → Prop) : Array Value → State → Outcome → State → Prop := va_Qv (fun (u : Vf × Lf) => rgd bX u.1 ∧ agr [] [23, 24] V u.1 ∧ u.2 = L) (fun u t => gq D A (xw ad kk u.1 u.2 Z) (xty kk Z) t) A
set_option maxHeartbeats 4000000 in
set_option maxRecDepth 100000 in
theorem x_shut (l : Launch) (D : va_G) (ks : KS) (sz : Nat) (ad : Nat → Nat) (kk : Nat → ClassId) (V : Vf) (L : Lf) (Z : XZ) (p0 : Int32) (hMV : rgd bX V) (rg_p0 : 0 ≤ p0.toInt ∧ p0.toInt ≤ 39)  : Met l yX8_shut (Cond.code yX8_shut cX8_shut 2 none :: GW) r_x_shut (va_Pc [.ref (ad 3), .int p0] (gp D ks (xw ad kk V L Z) (xty kk Z) sz)) (q_x_shut D ks ad kk V L Z p0 (va_A (xw ad kk V L Z) sz)) 0 0 (va_A (xw ad kk V L Z) sz) := by
  refine g_met (q_x_shut D ks ad kk V L Z p0) (by decide) (Nat.le_of_ble_eq_true rfl) ?_
  intro p e s m below meth c A ls H locs hx hb hr hml hown hg hlocks hin hnw hgk hP hK hD hS hA hl
  have hown : s.vm.findClass RX8 = some m.cls := hown
  have hl : lv_has ls 2 [(0, .ref (ad 3)), (1, .int p0)] := hl
  have hP : va_P D vwCl (xw ad kk V L Z) H := hP
  have hD : va_D A (xw ad kk V L Z) := hD
  have hK : va_K D vwCl (xty kk Z) s := hK
  have agV : agr [] [23, 24] V V := agr.rf
  refine lv_aload_n hx hb dX8_shut_0 rfl (lv_at hl 0 rfl) ?_
  refine va_get (D := D) (ci := 8) (v := .ref (ad 20)) (fs := (xfStock ad V L Z)) (C := RX8) (T := TX8) (N := 16) hx hb hg inX8 hown hK hP 3 xgStock rfl 2 (by decide) (hg _ w376) (fun _ h9 => h9) rfl dX8_shut_1 ?_
  refine lv_iload_n hx hb dX8_shut_4 rfl (lv_at hl 1 rfl) ?_
  refine lv_iconst (v := 0) hx hb dX8_shut_5 (by decide) ?_
  refine va_zast (D := D) (i := p0) (x := 0) hx hb hK hP hD hS 20 13 rfl rfl (i_in (a := p0.toInt) rfl (by (first | exact om_fc4b7ceebace rg_p0.1 rg_p0.2 | omega))) dX8_shut_6 (fun H locs hP hD hS => ?_)
  obtain ⟨V1, hV1⟩ : ∃ z, z = up2 V 23 (Int32.toNatClampNeg p0) (vp_nar .boolean 0) := ⟨_, rfl⟩
  have ew2 : (xw ad kk V L Z).set 20 ((ad 20), .inl ((kk 20), 40, .inl (upd (V 23) (Int32.toNatClampNeg p0) (vp_nar .boolean 0)))) = xw ad kk V1 L Z := by rw [hV1]; exact xw_ss (by decide) rfl (xb_si (by decide))
  have hP : va_P D vwCl (xw ad kk V1 L Z) H := by rw [← ew2]; exact hP
  have hD : va_D A (xw ad kk V1 L Z) := by rw [← ew2]; exact hD
  have hMV1 : rgd bX V1 := hMV.put hV1 (nar_b _)
  have agV1 : agr [] [23, 24] V V1 := agV.up hV1 rfl
  refine lv_aload_n hx hb dX8_shut_7 rfl (lv_at hl 0 rfl) ?_
  refine va_get (D := D) (ci := 8) (v := .ref (ad 21)) (fs := (xfStock ad V1 L Z)) (C := RX8) (T := TX8) (N := 16) hx hb hg inX8 hown hK hP 3 xgStock rfl 3 (by decide) (hg _ w377) (fun _ h9 => h9) rfl dX8_shut_8 ?_
  refine lv_iload_n hx hb dX8_shut_11 rfl (lv_at hl 1 rfl) ?_
  refine lv_iconst (v := 0) hx hb dX8_shut_12 (by decide) ?_
  refine va_iast (D := D) (i := p0) (x := 0) hx hb hK hP hD hS 21 14 rfl rfl (i_in (a := p0.toInt) rfl (by (first | exact om_fc4b7ceebace rg_p0.1 rg_p0.2 | omega))) dX8_shut_13 (fun H locs hP hD hS => ?_)
  obtain ⟨V3, hV3⟩ : ∃ z, z = up2 V1 24 (Int32.toNatClampNeg p0) 0 := ⟨_, rfl⟩
  have ew4 : (xw ad kk V1 L Z).set 21 ((ad 21), .inl ((kk 21), 40, .inl (upd (V1 24) (Int32.toNatClampNeg p0) 0))) = xw ad kk V3 L Z := by rw [hV3]; exact xw_ss (by decide) rfl (xb_si (by decide))
  have hP : va_P D vwCl (xw ad kk V3 L Z) H := by rw [← ew4]; exact hP
  have hD : va_D A (xw ad kk V3 L Z) := by rw [← ew4]; exact hD
  have hMV3 : rgd bX V3 := hMV1.put hV3 (i_full _)
  have agV3 : agr [] [23, 24] V V3 := agV1.up hV3 rfl
  exact W.vret hx hb hr (fun t ht hW => ⟨⟨(V3, L), rfl, ⟨hMV3, agV3, rfl⟩, by rw [ht]; exact hP, va_K.moved hW.alike hK, hD⟩, hS.F ht⟩) hS.2.2 dX8_shut_14
abbrev r_x_reopenHouse : Room := { frames := 0, cells := 0, slots := 0, locals := 0 }
abbrev q_x_reopenHouse (D : va_G) (ks : KS) (ad : Nat → Nat) (kk : Nat → ClassId) (V : Vf) (L : Lf) (Z : XZ) (A : Nat → Prop) : Array Value → State → Outcome → State → Prop := va_Qv (fun (u : Vf × Lf) => rgd bX u.1 ∧ agr [] [23] V u.1 ∧ u.2 = L) (fun u t => gq D A (xw ad kk u.1 u.2 Z) (xty kk Z) t) A
set_option maxHeartbeats 4000000 in
set_option maxRecDepth 100000 in
theorem x_reopenHouse (l : Launch) (D : va_G) (ks : KS) (sz : Nat) (ad : Nat → Nat) (kk : Nat → ClassId) (V : Vf) (L : Lf) (Z : XZ)  (hMV : rgd bX V)  : Met l yX8_reopenHouse (Cond.code yX8_reopenHouse cX8_reopenHouse 1 none :: GW) r_x_reopenHouse (va_Pc [.ref (ad 3)] (gp D ks (xw ad kk V L Z) (xty kk Z) sz)) (q_x_reopenHouse D ks ad kk V L Z  (va_A (xw ad kk V L Z) sz)) 0 0 (va_A (xw ad kk V L Z) sz) := by
  refine g_met (q_x_reopenHouse D ks ad kk V L Z) (by decide) (Nat.le_of_ble_eq_true rfl) ?_
  intro p e s m below meth c A ls H locs hx hb hr hml hown hg hlocks hin hnw hgk hP hK hD hS hA hl
  have hown : s.vm.findClass RX8 = some m.cls := hown
  have hl : lv_has ls 1 [(0, .ref (ad 3))] := hl
  have hP : va_P D vwCl (xw ad kk V L Z) H := hP
  have hD : va_D A (xw ad kk V L Z) := hD
  have hK : va_K D vwCl (xty kk Z) s := hK
  have agV : agr [] [23] V V := agr.rf
  refine lv_aload_n hx hb dX8_reopenHouse_0 rfl (lv_at hl 0 rfl) ?_
  refine va_get (D := D) (ci := 8) (v := .ref (ad 20)) (fs := (xfStock ad V L Z)) (C := RX8) (T := TX8) (N := 16) hx hb hg inX8 hown hK hP 3 xgStock rfl 2 (by decide) (hg _ w376) (fun _ h9 => h9) rfl dX8_reopenHouse_1 ?_
  refine lv_iconst (v := 0) hx hb dX8_reopenHouse_4 (by decide) ?_
  refine lv_iconst (v := 1) hx hb dX8_reopenHouse_5 (by decide) ?_
  refine va_zast (D := D) (i := 0) (x := 1) hx hb hK hP hD hS 20 13 rfl rfl (i_in (a := 0) (by decide) (by decide)) dX8_reopenHouse_6 (fun H locs hP hD hS => ?_)
  obtain ⟨V1, hV1⟩ : ∃ z, z = up2 V 23 (Int32.toNatClampNeg 0) (vp_nar .boolean 1) := ⟨_, rfl⟩
  have ew2 : (xw ad kk V L Z).set 20 ((ad 20), .inl ((kk 20), 40, .inl (upd (V 23) (Int32.toNatClampNeg 0) (vp_nar .boolean 1)))) = xw ad kk V1 L Z := by rw [hV1]; exact xw_ss (by decide) rfl (xb_si (by decide))
  have hP : va_P D vwCl (xw ad kk V1 L Z) H := by rw [← ew2]; exact hP
  have hD : va_D A (xw ad kk V1 L Z) := by rw [← ew2]; exact hD
  have hMV1 : rgd bX V1 := hMV.put hV1 (nar_b _)
  have agV1 : agr [] [23] V V1 := agV.up hV1 rfl
  exact W.vret hx hb hr (fun t ht hW => ⟨⟨(V1, L), rfl, ⟨hMV1, agV1, rfl⟩, by rw [ht]; exact hP, va_K.moved hW.alike hK, hD⟩, hS.F ht⟩) hS.2.2 dX8_reopenHouse_7
abbrev r_x_placeOf : Room := { frames := 0, cells := 0, slots := 0, locals := 0 }
abbrev q_x_placeOf (D : va_G) (ks : KS) (ad : Nat → Nat) (kk : Nat → ClassId) (V : Vf) (L : Lf) (Z : XZ) (p0 : Int32) (p1 : Int32) (A : Nat → Prop) : Array Value → State → Outcome → State → Prop := va_Qi (fun (r : Int32) (_ : Unit) => ((-1) ≤ r.toInt ∧ r.toInt ≤ 39)) (fun _ t => gq D A (xw ad kk V L Z) (xty kk Z) t) A
set_option maxHeartbeats 4000000 in
set_option maxRecDepth 100000 in
theorem x_placeOf (l : Launch) (D : va_G) (ks : KS) (sz : Nat) (ad : Nat → Nat) (kk : Nat → ClassId) (V : Vf) (L : Lf) (Z : XZ) (p0 : Int32) (p1 : Int32) (hMV : rgd bX V) (rg_p1 : 0 ≤ p1.toInt ∧ p1.toInt ≤ 39)  : Met l yX8_placeOf (Cond.code yX8_placeOf cX8_placeOf 4 (some .int) :: GW) r_x_placeOf (va_Pc [.ref (ad 3), .int p0, .int p1] (gp D ks (xw ad kk V L Z) (xty kk Z) sz)) (q_x_placeOf D ks ad kk V L Z p0 p1 (va_A (xw ad kk V L Z) sz)) 0 0 (va_A (xw ad kk V L Z) sz) := by
  refine g_met (q_x_placeOf D ks ad kk V L Z p0 p1) (by decide) (Nat.le_of_ble_eq_true rfl) ?_
  intro p e s m below meth c A ls H locs hx hb hr hml hown hg hlocks hin hnw hgk hP hK hD hS hA hl
  have hown : s.vm.findClass RX8 = some m.cls := hown
  have hl : lv_has ls 4 [(0, .ref (ad 3)), (1, .int p0), (2, .int p1)] := hl
  have hP : va_P D vwCl (xw ad kk V L Z) H := hP
  have hD : va_D A (xw ad kk V L Z) := hD
  have hK : va_K D vwCl (xty kk Z) s := hK
  refine lv_aload_n hx hb dX8_placeOf_0 rfl (lv_at hl 0 rfl) ?_
  refine va_get (D := D) (ci := 8) (v := .ref (ad 18)) (fs := (xfStock ad V L Z)) (C := RX8) (T := TX8) (N := 16) hx hb hg inX8 hown hK hP 3 xgStock rfl 0 (by decide) (hg _ w373) (fun _ h9 => h9) rfl dX8_placeOf_1 ?_
  refine lv_iload_n hx hb dX8_placeOf_4 rfl (lv_at hl 2 rfl) ?_
  refine va_iald (D := D) (i := p1) hx hb hK hP 18 11 rfl rfl (i_in (a := p1.toInt) rfl (by (first | exact om_fc4b7ceebace rg_p1.1 rg_p1.2 | omega))) dX8_placeOf_5 ?_
  refine lv_istore_n (lv' := [(3, .int (V 21 (Int32.toNatClampNeg p1))), (0, .ref (ad 3)), (1, .int p0), (2, .int p1)]) hx hb dX8_placeOf_6 rfl hl (by decide) rfl (fun ls hl => ?_)
  refine lv_iload_n hx hb dX8_placeOf_7 rfl (lv_at hl 2 rfl) ?_
  by_cases q1 : p0 = 0
  · refine g_top (v := 0) q1 ?_
    have fq1 : p0.toInt = 0 := b_eq rfl (by decide) q1
    refine lv_tableIn (x := 0) (off := 28) (tgt := 36) hx hb dX8_placeOf_8 (by decide) (by decide) (by decide) (by decide) ?_
    refine lv_iconst (v := 0) hx hb dX8_placeOf_36 (by decide) ?_
    exact W.iret (v := 0) hx hb hr (fun t ht hW => ⟨⟨0, (), rfl, (by decide), by rw [ht]; exact hP, va_K.moved hW.alike hK, hD⟩, hS.F ht⟩) hS.2.2 dX8_placeOf_37
  by_cases q2 : p0 = 1
  · refine g_top (v := 1) q2 ?_
    have fq2 : p0.toInt = 1 := b_eq rfl (by decide) q2
    refine lv_tableIn (x := 1) (off := 30) (tgt := 38) hx hb dX8_placeOf_8 (by decide) (by decide) (by decide) (by decide) ?_
    refine lv_iload_n hx hb dX8_placeOf_38 rfl (lv_at hl 0 rfl) ?_
    refine lv_iconst (v := 1) hx hb dX8_placeOf_39 (by decide) ?_
    refine lv_icmp_ne (tgt := 47) hx hb dX8_placeOf_40 (by decide) (fun c3 => ?_) (fun c3 => ?_)
    · skip
      have f4 : ((V 21 (Int32.toNatClampNeg p1))).toInt ≠ 1 := b_neq rfl (by decide) c3
      refine lv_iload_n hx hb dX8_placeOf_47 rfl (lv_at hl 0 rfl) ?_
      refine lv_iconst (v := 2) hx hb dX8_placeOf_48 (by decide) ?_
      refine lv_icmp_ne (tgt := 61) hx hb dX8_placeOf_49 (by decide) (fun c5 => ?_) (fun c5 => ?_)
      · skip
        have f6 : ((V 21 (Int32.toNatClampNeg p1))).toInt ≠ 2 := b_neq rfl (by decide) c5
        refine lv_iconst (v := (-1)) hx hb dX8_placeOf_61 (by decide) ?_
        exact W.iret (v := (-1)) hx hb hr (fun t ht hW => ⟨⟨(-1), (), rfl, (by decide), by rw [ht]; exact hP, va_K.moved hW.alike hK, hD⟩, hS.F ht⟩) hS.2.2 dX8_placeOf_62
      · skip
        have f7 : ((V 21 (Int32.toNatClampNeg p1))).toInt = 2 := b_eq rfl (by decide) c5
        refine lv_aload_n hx hb dX8_placeOf_52 rfl (lv_at hl 1 rfl) ?_
        refine va_get (D := D) (ci := 8) (v := .ref (ad 19)) (fs := (xfStock ad V L Z)) (C := RX8) (T := TX8) (N := 16) hx hb hg inX8 hown hK hP 3 xgStock rfl 1 (by decide) (hg _ w375) (fun _ h9 => h9) rfl dX8_placeOf_53 ?_
        refine lv_iload_n hx hb dX8_placeOf_56 rfl (lv_at hl 3 rfl) ?_
        refine va_iald (D := D) (i := p1) hx hb hK hP 19 12 rfl rfl (i_in (a := p1.toInt) rfl (by (first | exact om_fc4b7ceebace rg_p1.1 rg_p1.2 | omega))) dX8_placeOf_57 ?_
        have r8 : 0 ≤ ((V 22 (Int32.toNatClampNeg p1))).toInt ∧ ((V 22 (Int32.toNatClampNeg p1))).toInt ≤ 39 := hMV 22 (Int32.toNatClampNeg p1)
        refine lv_goto (tgt := 62) hx hb dX8_placeOf_58 (by decide) ?_
        exact W.iret (v := (V 22 (Int32.toNatClampNeg p1))) hx hb hr (fun t ht hW => ⟨⟨(V 22 (Int32.toNatClampNeg p1)), (), rfl, (show (-1) ≤ ((V 22 (Int32.toNatClampNeg p1))).toInt ∧ ((V 22 (Int32.toNatClampNeg p1))).toInt ≤ 39 from by (first | exact om_51af92a0e09d r8.1 r8.2 | omega)), by rw [ht]; exact hP, va_K.moved hW.alike hK, hD⟩, hS.F ht⟩) hS.2.2 dX8_placeOf_62
    · skip
      have f9 : ((V 21 (Int32.toNatClampNeg p1))).toInt = 1 := b_eq rfl (by decide) c3
      refine lv_iload_n hx hb dX8_placeOf_43 rfl (lv_at hl 3 rfl) ?_
      refine lv_goto (tgt := 62) hx hb dX8_placeOf_44 (by decide) ?_
      exact W.iret (v := p1) hx hb hr (fun t ht hW => ⟨⟨p1, (), rfl, (show (-1) ≤ p1.toInt ∧ p1.toInt ≤ 39 from by (first | exact om_51af92a0e09d rg_p1.1 rg_p1.2 | omega)), by rw [ht]; exact hP, va_K.moved hW.alike hK, hD⟩, hS.F ht⟩) hS.2.2 dX8_placeOf_62
  by_cases q10 : p0 = 2
  · refine g_top (v := 2) q10 ?_
    have fq10 : p0.toInt = 2 := b_eq rfl (by decide) q10
    refine lv_tableIn (x := 2) (off := 55) (tgt := 63) hx hb dX8_placeOf_8 (by decide) (by decide) (by decide) (by decide) ?_
    refine lv_iload_n hx hb dX8_placeOf_63 rfl (lv_at hl 0 rfl) ?_
    refine lv_iconst (v := 2) hx hb dX8_placeOf_64 (by decide) ?_
    refine lv_icmp_ne (tgt := 72) hx hb dX8_placeOf_65 (by decide) (fun c11 => ?_) (fun c11 => ?_)
    · skip
      have f12 : ((V 21 (Int32.toNatClampNeg p1))).toInt ≠ 2 := b_neq rfl (by decide) c11
      refine lv_iconst (v := (-1)) hx hb dX8_placeOf_72 (by decide) ?_
      exact W.iret (v := (-1)) hx hb hr (fun t ht hW => ⟨⟨(-1), (), rfl, (by decide), by rw [ht]; exact hP, va_K.moved hW.alike hK, hD⟩, hS.F ht⟩) hS.2.2 dX8_placeOf_73
    · skip
      have f13 : ((V 21 (Int32.toNatClampNeg p1))).toInt = 2 := b_eq rfl (by decide) c11
      refine lv_iload_n hx hb dX8_placeOf_68 rfl (lv_at hl 3 rfl) ?_
      refine lv_goto (tgt := 73) hx hb dX8_placeOf_69 (by decide) ?_
      exact W.iret (v := p1) hx hb hr (fun t ht hW => ⟨⟨p1, (), rfl, (show (-1) ≤ p1.toInt ∧ p1.toInt ≤ 39 from by (first | exact om_51af92a0e09d rg_p1.1 rg_p1.2 | omega)), by rw [ht]; exact hP, va_K.moved hW.alike hK, hD⟩, hS.F ht⟩) hS.2.2 dX8_placeOf_73
  refine lv_tableOut (x := p0) (tgt := 74) hx hb dX8_placeOf_8 (tab_out p0 2 (by decide) (fun k hk => match k, hk with | 0, _ => q1 | 1, _ => q2 | 2, _ => q10 | k + 3, hk => absurd hk (by omega))) (by decide) ?_
  refine lv_iload_n hx hb dX8_placeOf_74 rfl (lv_at hl 3 rfl) ?_
  exact W.iret (v := p1) hx hb hr (fun t ht hW => ⟨⟨p1, (), rfl, (show (-1) ≤ p1.toInt ∧ p1.toInt ≤ 39 from by (first | exact om_51af92a0e09d rg_p1.1 rg_p1.2 | omega)), by rw [ht]; exact hP, va_K.moved hW.alike hK, hD⟩, hS.F ht⟩) hS.2.2 dX8_placeOf_75
abbrev r_x_isSpoiled : Room := { frames := 0, cells := 0, slots := 0, locals := 0 }
abbrev q_x_isSpoiled (D : va_G) (ks : KS) (ad : Nat → Nat) (kk : Nat → ClassId) (V : Vf) (L : Lf) (Z : XZ) (p0 : Int32) (p1 : Int32) (A : Nat → Prop) : Array Value → State → Outcome → State → Prop := va_Qi (fun (r : Int32) (_ : Unit) => (0 ≤ r.toInt ∧ r.toInt ≤ 1)) (fun _ t => gq D A (xw ad kk V L Z) (xty kk Z) t) A
set_option maxHeartbeats 4000000 in
set_option maxRecDepth 100000 in
theorem x_isSpoiled (l : Launch) (D : va_G) (ks : KS) (sz : Nat) (ad : Nat → Nat) (kk : Nat → ClassId) (V : Vf) (L : Lf) (Z : XZ) (p0 : Int32) (p1 : Int32) (hMV : rgd bX V) (rg_p0 : 0 ≤ p0.toInt ∧ p0.toInt ≤ 39)  : Met l yX8_isSpoiled (Cond.code yX8_isSpoiled cX8_isSpoiled 3 (some .boolean) :: GW) r_x_isSpoiled (va_Pc [.ref (ad 3), .int p0, .int p1] (gp D ks (xw ad kk V L Z) (xty kk Z) sz)) (q_x_isSpoiled D ks ad kk V L Z p0 p1 (va_A (xw ad kk V L Z) sz)) 0 0 (va_A (xw ad kk V L Z) sz) := by
  refine g_met (q_x_isSpoiled D ks ad kk V L Z p0 p1) (by decide) (Nat.le_of_ble_eq_true rfl) ?_
  intro p e s m below meth c A ls H locs hx hb hr hml hown hg hlocks hin hnw hgk hP hK hD hS hA hl
  have hown : s.vm.findClass RX8 = some m.cls := hown
  have hl : lv_has ls 3 [(0, .ref (ad 3)), (1, .int p0), (2, .int p1)] := hl
  have hP : va_P D vwCl (xw ad kk V L Z) H := hP
  have hD : va_D A (xw ad kk V L Z) := hD
  have hK : va_K D vwCl (xty kk Z) s := hK
  refine lv_aload_n hx hb dX8_isSpoiled_0 rfl (lv_at hl 0 rfl) ?_
  refine va_get (D := D) (ci := 8) (v := .ref (ad 21)) (fs := (xfStock ad V L Z)) (C := RX8) (T := TX8) (N := 16) hx hb hg inX8 hown hK hP 3 xgStock rfl 3 (by decide) (hg _ w377) (fun _ h9 => h9) rfl dX8_isSpoiled_1 ?_
  refine lv_iload_n hx hb dX8_isSpoiled_4 rfl (lv_at hl 1 rfl) ?_
  refine va_iald (D := D) (i := p0) hx hb hK hP 21 14 rfl rfl (i_in (a := p0.toInt) rfl (by (first | exact om_fc4b7ceebace rg_p0.1 rg_p0.2 | omega))) dX8_isSpoiled_5 ?_
  refine lv_iload_n hx hb dX8_isSpoiled_6 rfl (lv_at hl 2 rfl) ?_
  refine lv_ishr hx hb dX8_isSpoiled_7 ?_
  refine lv_topi (fun z1 ez1 => ?_)
  refine lv_iconst (v := 1) hx hb dX8_isSpoiled_8 (by decide) ?_
  refine lv_iand hx hb dX8_isSpoiled_9 ?_
  refine lv_topi (fun z2 ez2 => ?_)
  have hz2 : 0 ≤ z2.toInt ∧ z2.toInt ≤ 1 := and_m ez2 (by decide)
  refine lv_if_eq (tgt := 17) hx hb dX8_isSpoiled_10 (by decide) (fun c3 => ?_) (fun c3 => ?_)
  · skip
    have f4 : z2.toInt = 0 := b_eq rfl (by decide) c3
    refine lv_iconst (v := 0) hx hb dX8_isSpoiled_17 (by decide) ?_
    exact W.zret (v := 0) hx hb hr rfl (fun t ht hW => ⟨⟨0, (), rfl, (by decide), by rw [ht]; exact hP, va_K.moved hW.alike hK, hD⟩, hS.F ht⟩) hS.2.2 dX8_isSpoiled_18
  · skip
    have f5 : z2.toInt ≠ 0 := b_neq rfl (by decide) c3
    refine lv_iconst (v := 1) hx hb dX8_isSpoiled_13 (by decide) ?_
    refine lv_goto (tgt := 18) hx hb dX8_isSpoiled_14 (by decide) ?_
    exact W.zret (v := 1) hx hb hr rfl (fun t ht hW => ⟨⟨1, (), rfl, (by decide), by rw [ht]; exact hP, va_K.moved hW.alike hK, hD⟩, hS.F ht⟩) hS.2.2 dX8_isSpoiled_18
abbrev r_x_spoil : Room := { frames := 0, cells := 0, slots := 0, locals := 0 }
abbrev q_x_spoil (D : va_G) (ks : KS) (ad : Nat → Nat) (kk : Nat → ClassId) (V : Vf) (L : Lf) (Z : XZ) (p0 : Int32) (p1 : Int32) (A : Nat → Prop) : Array Value → State → Outcome → State → Prop := va_Qv (fun (u : Vf × Lf) => rgd bX u.1 ∧ agr [] [24] V u.1 ∧ u.2 = L) (fun u t => gq D A (xw ad kk u.1 u.2 Z) (xty kk Z) t) A
set_option maxHeartbeats 4000000 in
set_option maxRecDepth 100000 in
theorem x_spoil (l : Launch) (D : va_G) (ks : KS) (sz : Nat) (ad : Nat → Nat) (kk : Nat → ClassId) (V : Vf) (L : Lf) (Z : XZ) (p0 : Int32) (p1 : Int32) (hMV : rgd bX V) (rg_p0 : 0 ≤ p0.toInt ∧ p0.toInt ≤ 39)  : Met l yX8_spoil (Cond.code yX8_spoil cX8_spoil 3 none :: GW) r_x_spoil (va_Pc [.ref (ad 3), .int p0, .int p1] (gp D ks (xw ad kk V L Z) (xty kk Z) sz)) (q_x_spoil D ks ad kk V L Z p0 p1 (va_A (xw ad kk V L Z) sz)) 0 0 (va_A (xw ad kk V L Z) sz) := by
  refine g_met (q_x_spoil D ks ad kk V L Z p0 p1) (by decide) (Nat.le_of_ble_eq_true rfl) ?_
  intro p e s m below meth c A ls H locs hx hb hr hml hown hg hlocks hin hnw hgk hP hK hD hS hA hl
  have hown : s.vm.findClass RX8 = some m.cls := hown
  have hl : lv_has ls 3 [(0, .ref (ad 3)), (1, .int p0), (2, .int p1)] := hl
  have hP : va_P D vwCl (xw ad kk V L Z) H := hP
  have hD : va_D A (xw ad kk V L Z) := hD
  have hK : va_K D vwCl (xty kk Z) s := hK
  have agV : agr [] [24] V V := agr.rf
  refine lv_aload_n hx hb dX8_spoil_0 rfl (lv_at hl 0 rfl) ?_
  refine va_get (D := D) (ci := 8) (v := .ref (ad 21)) (fs := (xfStock ad V L Z)) (C := RX8) (T := TX8) (N := 16) hx hb hg inX8 hown hK hP 3 xgStock rfl 3 (by decide) (hg _ w377) (fun _ h9 => h9) rfl dX8_spoil_1 ?_
  refine lv_iload_n hx hb dX8_spoil_4 rfl (lv_at hl 1 rfl) ?_
  refine lv_dup2_11 hx hb dX8_spoil_5 rfl rfl ?_
  refine va_iald (D := D) (i := p0) hx hb hK hP 21 14 rfl rfl (i_in (a := p0.toInt) rfl (by (first | exact om_fc4b7ceebace rg_p0.1 rg_p0.2 | omega))) dX8_spoil_6 ?_
  refine lv_iconst (v := 1) hx hb dX8_spoil_7 (by decide) ?_
  refine lv_iload_n hx hb dX8_spoil_8 rfl (lv_at hl 2 rfl) ?_
  refine lv_ishl hx hb dX8_spoil_9 ?_
  refine lv_topi (fun z1 ez1 => ?_)
  refine lv_ior hx hb dX8_spoil_10 ?_
  refine lv_topi (fun z2 ez2 => ?_)
  refine va_iast (D := D) (i := p0) (x := z2) hx hb hK hP hD hS 21 14 rfl rfl (i_in (a := p0.toInt) rfl (by (first | exact om_fc4b7ceebace rg_p0.1 rg_p0.2 | omega))) dX8_spoil_11 (fun H locs hP hD hS => ?_)
  obtain ⟨V3, hV3⟩ : ∃ z, z = up2 V 24 (Int32.toNatClampNeg p0) z2 := ⟨_, rfl⟩
  have ew4 : (xw ad kk V L Z).set 21 ((ad 21), .inl ((kk 21), 40, .inl (upd (V 24) (Int32.toNatClampNeg p0) z2))) = xw ad kk V3 L Z := by rw [hV3]; exact xw_ss (by decide) rfl (xb_si (by decide))
  have hP : va_P D vwCl (xw ad kk V3 L Z) H := by rw [← ew4]; exact hP
  have hD : va_D A (xw ad kk V3 L Z) := by rw [← ew4]; exact hD
  have hMV3 : rgd bX V3 := hMV.put hV3 (i_full _)
  have agV3 : agr [] [24] V V3 := agV.up hV3 rfl
  exact W.vret hx hb hr (fun t ht hW => ⟨⟨(V3, L), rfl, ⟨hMV3, agV3, rfl⟩, by rw [ht]; exact hP, va_K.moved hW.alike hK, hD⟩, hS.F ht⟩) hS.2.2 dX8_spoil_12
abbrev r_x_isMade : Room := { frames := 1, cells := 0, slots := 0, locals := 21 }
abbrev q_x_isMade (D : va_G) (ks : KS) (ad : Nat → Nat) (kk : Nat → ClassId) (V : Vf) (L : Lf) (Z : XZ) (p0 : Int32) (A : Nat → Prop) : Array Value → State → Outcome → State → Prop := va_Qi (fun (r : Int32) (_ : Unit) => (0 ≤ r.toInt ∧ r.toInt ≤ 1) ∧ (Imp (r.toInt = 1) (0 ≤ p0.toInt ∧ p0.toInt < (V 3 13).toInt))) (fun _ t => gq D A (xw ad kk V L Z) (xty kk Z) t) A
set_option maxHeartbeats 4000000 in
set_option maxRecDepth 100000 in
theorem x_isMade (l : Launch) (D : va_G) (ks : KS) (sz : Nat) (ad : Nat → Nat) (kk : Nat → ClassId) (V : Vf) (L : Lf) (Z : XZ) (p0 : Int32) (hMV : rgd bX V)  : Met l yX8_isMade (Cond.code yX8_isMade cX8_isMade 2 (some .boolean) :: GW) r_x_isMade (va_Pc [.ref (ad 3), .int p0] (gp D ks (xw ad kk V L Z) (xty kk Z) sz)) (q_x_isMade D ks ad kk V L Z p0 (va_A (xw ad kk V L Z) sz)) 0 0 (va_A (xw ad kk V L Z) sz) := by
  refine g_met (q_x_isMade D ks ad kk V L Z p0) (by decide) (Nat.le_of_ble_eq_true rfl) ?_
  intro p e s m below meth c A ls H locs hx hb hr hml hown hg hlocks hin hnw hgk hP hK hD hS hA hl
  have hown : s.vm.findClass RX8 = some m.cls := hown
  have hl : lv_has ls 2 [(0, .ref (ad 3)), (1, .int p0)] := hl
  have hP : va_P D vwCl (xw ad kk V L Z) H := hP
  have hD : va_D A (xw ad kk V L Z) := hD
  have hK : va_K D vwCl (xty kk Z) s := hK
  refine lv_aload_n hx hb dX8_isMade_0 rfl (lv_at hl 0 rfl) ?_
  refine lv_iload_n hx hb dX8_isMade_1 rfl (lv_at hl 1 rfl) ?_
  refine gA_int (gA_runV (As := [.int p0]) (rest := []) (ci := 8) (q0 := 3) hx hb hml hown hg hP hD hK hS hA hnw hgk (x_has l D ks H.size ad kk V L Z p0 hMV ) w1300 w1301 w1302 w164 w1303 rfl xgStock hdV_yX8_has ⟨Nat.le_of_ble_eq_true rfl, Nat.le_of_ble_eq_true rfl⟩ rfl hl.1 rfl (Nat.le_of_ble_eq_true rfl) dX8_isMade_2 ⟨Nat.le_of_ble_eq_true rfl, Nat.le_of_ble_eq_true rfl⟩) hP hD hK hS hA (fun z1 u2 H locs w3 hP hD hK hS => ?_)
  obtain ⟨rgz1, t4⟩ := w3
  have rgz1 : 0 ≤ z1.toInt ∧ z1.toInt ≤ 1 := rgz1
  have t4 : Imp (z1.toInt = 1) (0 ≤ p0.toInt ∧ p0.toInt < (V 3 13).toInt) := t4
  have r5 : 0 ≤ ((V 3 13)).toInt ∧ ((V 3 13)).toInt ≤ 300 := hMV 3 13
  refine lv_if_eq (tgt := 22) hx hb dX8_isMade_5 (by decide) (fun c6 => ?_) (fun c6 => ?_)
  · skip
    have f7 : z1.toInt = 0 := b_eq rfl (by decide) c6
    refine lv_iconst (v := 0) hx hb dX8_isMade_22 (by decide) ?_
    exact W.zret (v := 0) hx hb hr rfl (fun t ht hW => ⟨⟨0, (), rfl, ⟨(by decide), (Imp.mk (fun hp => absurd hp (by decide)))⟩, by rw [ht]; exact hP, va_K.moved hW.alike hK, hD⟩, hS.F ht⟩) hS.2.2 dX8_isMade_23
  · skip
    have f8 : z1.toInt ≠ 0 := b_neq rfl (by decide) c6
    refine lv_aload_n hx hb dX8_isMade_8 rfl (lv_at hl 0 rfl) ?_
    refine va_get (D := D) (ci := 8) (v := .ref (ad 25)) (fs := (xfStock ad V L Z)) (C := RX8) (T := TX8) (N := 16) hx hb hg inX8 hown hK hP 3 xgStock rfl 7 (by decide) (hg _ w384) (fun _ h9 => h9) rfl dX8_isMade_9 ?_
    refine lv_iload_n hx hb dX8_isMade_12 rfl (lv_at hl 1 rfl) ?_
    refine va_iald (D := D) (i := p0) hx hb hK hP 25 18 rfl rfl (i_in (a := p0.toInt) rfl (by first | exact om_e23680f16df4 r5.2 ((Imp.go t4 (imp_a (rgz1.1) (rgz1.2) (f8))).1) ((Imp.go t4 (imp_a (rgz1.1) (rgz1.2) (f8))).2) | first | omega | ((try (have i_t4 := Imp.go t4 (by omega))); omega))) dX8_isMade_13 ?_
    refine lv_iconst (v := 1) hx hb dX8_isMade_14 (by decide) ?_
    refine lv_icmp_ne (tgt := 22) hx hb dX8_isMade_15 (by decide) (fun c9 => ?_) (fun c9 => ?_)
    · skip
      have f10 : ((V 28 (Int32.toNatClampNeg p0))).toInt ≠ 1 := b_neq rfl (by decide) c9
      refine lv_iconst (v := 0) hx hb dX8_isMade_22 (by decide) ?_
      exact W.zret (v := 0) hx hb hr rfl (fun t ht hW => ⟨⟨0, (), rfl, ⟨(by decide), (Imp.mk (fun hp => absurd hp (by decide)))⟩, by rw [ht]; exact hP, va_K.moved hW.alike hK, hD⟩, hS.F ht⟩) hS.2.2 dX8_isMade_23
    · skip
      have f11 : ((V 28 (Int32.toNatClampNeg p0))).toInt = 1 := b_eq rfl (by decide) c9
      refine lv_iconst (v := 1) hx hb dX8_isMade_18 (by decide) ?_
      refine lv_goto (tgt := 23) hx hb dX8_isMade_19 (by decide) ?_
      exact W.zret (v := 1) hx hb hr rfl (fun t ht hW => ⟨⟨1, (), rfl, ⟨(by decide), (Imp.mk (fun _ => (show 0 ≤ p0.toInt ∧ p0.toInt < (V 3 13).toInt from by first | exact om_a1ce77cc111f ((Imp.go t4 (imp_a (rgz1.1) (rgz1.2) (f8))).1) ((Imp.go t4 (imp_a (rgz1.1) (rgz1.2) (f8))).2) | first | omega | ((try (have i_t4 := Imp.go t4 (by omega))); omega))))⟩, by rw [ht]; exact hP, va_K.moved hW.alike hK, hD⟩, hS.F ht⟩) hS.2.2 dX8_isMade_23
abbrev r_x_componentOf : Room := { frames := 1, cells := 0, slots := 0, locals := 21 }
abbrev q_x_componentOf (D : va_G) (ks : KS) (ad : Nat → Nat) (kk : Nat → ClassId) (V : Vf) (L : Lf) (Z : XZ) (p0 : Int32) (A : Nat → Prop) : Array Value → State → Outcome → State → Prop := va_Qi (fun (r : Int32) (_ : Unit) => (0 ≤ r.toInt ∧ r.toInt ≤ 23)) (fun _ t => gq D A (xw ad kk V L Z) (xty kk Z) t) A
abbrev r_x_objectAt : Room := { frames := 0, cells := 0, slots := 0, locals := 0 }
abbrev q_x_objectAt (D : va_G) (ks : KS) (ad : Nat → Nat) (kk : Nat → ClassId) (V : Vf) (L : Lf) (Z : XZ) (p0 : Int32) (p1 : Int32) (A : Nat → Prop) : Array Value → State → Outcome → State → Prop := va_Qi (fun (r : Int32) (_ : Unit) => ((-1) ≤ r.toInt ∧ r.toInt ≤ 299)) (fun _ t => gq D A (xw ad kk V L Z) (xty kk Z) t) A
abbrev r_x_finishObject : Room := { frames := 0, cells := 0, slots := 0, locals := 0 }
abbrev q_x_finishObject (D : va_G) (ks : KS) (ad : Nat → Nat) (kk : Nat → ClassId) (V : Vf) (L : Lf) (Z : XZ) (p0 : Int32) (A : Nat → Prop) : Array Value → State → Outcome → State → Prop := va_Qv (fun (u : Vf × Lf) => rgd bX u.1 ∧ agr [(3, 14)] [28, 29] V u.1 ∧ u.2 = L) (fun u t => gq D A (xw ad kk u.1 u.2 Z) (xty kk Z) t) A
set_option maxHeartbeats 4000000 in
set_option maxRecDepth 100000 in
theorem x_finishObject (l : Launch) (D : va_G) (ks : KS) (sz : Nat) (ad : Nat → Nat) (kk : Nat → ClassId) (V : Vf) (L : Lf) (Z : XZ) (p0 : Int32) (hMV : rgd bX V) (rg_p0 : 0 ≤ p0.toInt ∧ p0.toInt ≤ 299)  : Met l yX8_finishObject (Cond.code yX8_finishObject cX8_finishObject 2 none :: GW) r_x_finishObject (va_Pc [.ref (ad 3), .int p0] (gp D ks (xw ad kk V L Z) (xty kk Z) sz)) (q_x_finishObject D ks ad kk V L Z p0 (va_A (xw ad kk V L Z) sz)) 0 0 (va_A (xw ad kk V L Z) sz) := by
  refine g_met (q_x_finishObject D ks ad kk V L Z p0) (by decide) (Nat.le_of_ble_eq_true rfl) ?_
  intro p e s m below meth c A ls H locs hx hb hr hml hown hg hlocks hin hnw hgk hP hK hD hS hA hl
  have hown : s.vm.findClass RX8 = some m.cls := hown
  have hl : lv_has ls 2 [(0, .ref (ad 3)), (1, .int p0)] := hl
  have hP : va_P D vwCl (xw ad kk V L Z) H := hP
  have hD : va_D A (xw ad kk V L Z) := hD
  have hK : va_K D vwCl (xty kk Z) s := hK
  have agV : agr [(3, 14)] [28, 29] V V := agr.rf
  refine lv_aload_n hx hb dX8_finishObject_0 rfl (lv_at hl 0 rfl) ?_
  refine va_get (D := D) (ci := 8) (v := .ref (ad 25)) (fs := (xfStock ad V L Z)) (C := RX8) (T := TX8) (N := 16) hx hb hg inX8 hown hK hP 3 xgStock rfl 7 (by decide) (hg _ w384) (fun _ h9 => h9) rfl dX8_finishObject_1 ?_
  refine lv_iload_n hx hb dX8_finishObject_4 rfl (lv_at hl 1 rfl) ?_
  refine lv_iconst (v := 1) hx hb dX8_finishObject_5 (by decide) ?_
  refine va_iast (D := D) (i := p0) (x := 1) hx hb hK hP hD hS 25 18 rfl rfl (i_in (a := p0.toInt) rfl (by (first | exact om_375eda9ff8f1 rg_p0.1 rg_p0.2 | omega))) dX8_finishObject_6 (fun H locs hP hD hS => ?_)
  obtain ⟨V1, hV1⟩ : ∃ z, z = up2 V 28 (Int32.toNatClampNeg p0) 1 := ⟨_, rfl⟩
  have ew2 : (xw ad kk V L Z).set 25 ((ad 25), .inl ((kk 25), 300, .inl (upd (V 28) (Int32.toNatClampNeg p0) 1))) = xw ad kk V1 L Z := by rw [hV1]; exact xw_ss (by decide) rfl (xb_si (by decide))
  have hP : va_P D vwCl (xw ad kk V1 L Z) H := by rw [← ew2]; exact hP
  have hD : va_D A (xw ad kk V1 L Z) := by rw [← ew2]; exact hD
  have hMV1 : rgd bX V1 := hMV.put hV1 (i_full _)
  have agV1 : agr [(3, 14)] [28, 29] V V1 := agV.up hV1 rfl
  refine lv_aload_n hx hb dX8_finishObject_7 rfl (lv_at hl 0 rfl) ?_
  refine va_get (D := D) (ci := 8) (v := .ref (ad 26)) (fs := (xfStock ad V1 L Z)) (C := RX8) (T := TX8) (N := 16) hx hb hg inX8 hown hK hP 3 xgStock rfl 8 (by decide) (hg _ w386) (fun _ h9 => h9) rfl dX8_finishObject_8 ?_
  refine lv_iload_n hx hb dX8_finishObject_11 rfl (lv_at hl 1 rfl) ?_
  refine lv_aload_n hx hb dX8_finishObject_12 rfl (lv_at hl 0 rfl) ?_
  refine lv_dup hx hb dX8_finishObject_13 rfl ?_
  refine va_get (D := D) (ci := 8) (v := .int (V1 3 14)) (fs := (xfStock ad V1 L Z)) (C := RX8) (T := TX8) (N := 16) hx hb hg inX8 hown hK hP 3 xgStock rfl 14 (by decide) (hg _ w393) (fun _ h9 => h9) rfl dX8_finishObject_14 ?_
  refine g_top (v := (V 3 14)) (up2_o hV1 (by decide)) ?_
  refine lv_dup_x1 hx hb dX8_finishObject_17 rfl rfl ?_
  refine lv_iconst (v := 1) hx hb dX8_finishObject_18 (by decide) ?_
  refine lv_iadd hx hb dX8_finishObject_19 ?_
  have r3 := i_full (V 3 14)
  refine lv_topi (fun z4 ez4 => ?_)
  have hz4 : Imp (-2147483648 ≤ ((V 3 14)).toInt + 1 ∧ ((V 3 14)).toInt + 1 ≤ 2147483647) (z4.toInt = ((V 3 14)).toInt + 1) := Imp.mk (fun hp => i_add ez4 rfl (by decide) hp)
  refine va_put (D := D) (ci := 8) (v := .int z4) (ty := tyX8 14) (fs := (xfStock ad V1 L Z)) (C := RX8) (T := TX8) (N := 16) hx hb hg inX8 tyX8 tyX8_ok nmX8 hown hK hP hD hS 3 xgStock rfl 14 (by decide) (hg _ w393) (fun _ h9 => h9) rfl (tyX8_ok 14 (by decide)) rfl rfl (Nat.le_of_ble_eq_true rfl) dX8_finishObject_20 (fun H locs hP hD hS => ?_)
  obtain ⟨V5, hV5⟩ : ∃ z, z = up2 V1 3 14 z4 := ⟨_, rfl⟩
  have ew6 : (xw ad kk V1 L Z).set 3 ((ad 3), .inr (8, (xfStock ad V1 L Z).set 14 (.int z4))) = xw ad kk V5 L Z := by rw [hV5]; exact xw_ss (by decide) rfl (xb_si (by decide))
  have hP : va_P D vwCl (xw ad kk V5 L Z) H := by rw [← ew6]; exact hP
  have hD : va_D A (xw ad kk V5 L Z) := by rw [← ew6]; exact hD
  have hMV5 : rgd bX V5 := hMV1.put hV5 (i_full _)
  have agV5 : agr [(3, 14)] [28, 29] V V5 := agV1.up hV5 rfl
  refine va_iast (D := D) (i := p0) (x := (V 3 14)) hx hb hK hP hD hS 26 19 rfl rfl (i_in (a := p0.toInt) rfl (by first | exact om_375eda9ff8f1 rg_p0.1 rg_p0.2 | first | omega | ((try (have i_hz4 := Imp.go hz4 (by omega))); omega))) dX8_finishObject_23 (fun H locs hP hD hS => ?_)
  obtain ⟨V7, hV7⟩ : ∃ z, z = up2 V5 29 (Int32.toNatClampNeg p0) (V 3 14) := ⟨_, rfl⟩
  have ew8 : (xw ad kk V5 L Z).set 26 ((ad 26), .inl ((kk 26), 300, .inl (upd (V5 29) (Int32.toNatClampNeg p0) (V 3 14)))) = xw ad kk V7 L Z := by rw [hV7]; exact xw_ss (by decide) rfl (xb_si (by decide))
  have hP : va_P D vwCl (xw ad kk V7 L Z) H := by rw [← ew8]; exact hP
  have hD : va_D A (xw ad kk V7 L Z) := by rw [← ew8]; exact hD
  have hMV7 : rgd bX V7 := hMV5.put hV7 (i_full _)
  have agV7 : agr [(3, 14)] [28, 29] V V7 := agV5.up hV7 rfl
  exact W.vret hx hb hr (fun t ht hW => ⟨⟨(V7, L), rfl, ⟨hMV7, agV7, rfl⟩, by rw [ht]; exact hP, va_K.moved hW.alike hK, hD⟩, hS.F ht⟩) hS.2.2 dX8_finishObject_24
abbrev r_x_dropObject : Room := { frames := 0, cells := 0, slots := 0, locals := 0 }
abbrev q_x_dropObject (D : va_G) (ks : KS) (ad : Nat → Nat) (kk : Nat → ClassId) (V : Vf) (L : Lf) (Z : XZ) (p0 : Int32) (A : Nat → Prop) : Array Value → State → Outcome → State → Prop := va_Qv (fun (u : Vf × Lf) => rgd bX u.1 ∧ agr [] [25, 28] V u.1 ∧ u.2 = L) (fun u t => gq D A (xw ad kk u.1 u.2 Z) (xty kk Z) t) A
abbrev r_x_madeObjects : Room := { frames := 0, cells := 0, slots := 0, locals := 0 }
abbrev q_x_madeObjects (D : va_G) (ks : KS) (ad : Nat → Nat) (kk : Nat → ClassId) (V : Vf) (L : Lf) (Z : XZ) (A : Nat → Prop) : Array Value → State → Outcome → State → Prop := va_Qi (fun (r : Int32) (_ : Unit) => True) (fun _ t => gq D A (xw ad kk V L Z) (xty kk Z) t) A
abbrev r_x_latestMade : Room := { frames := 0, cells := 0, slots := 0, locals := 0 }
abbrev q_x_latestMade (D : va_G) (ks : KS) (ad : Nat → Nat) (kk : Nat → ClassId) (V : Vf) (L : Lf) (Z : XZ) (p0 : Int32) (A : Nat → Prop) : Array Value → State → Outcome → State → Prop := va_Qi (fun (r : Int32) (_ : Unit) => ((-1) ≤ r.toInt ∧ r.toInt ≤ 299) ∧ (r.toInt < (V 3 13).toInt)) (fun _ t => gq D A (xw ad kk V L Z) (xty kk Z) t) A
set_option maxHeartbeats 4000000 in
set_option maxRecDepth 100000 in
theorem x_latestMade (l : Launch) (D : va_G) (ks : KS) (sz : Nat) (ad : Nat → Nat) (kk : Nat → ClassId) (V : Vf) (L : Lf) (Z : XZ) (p0 : Int32) (hMV : rgd bX V)  : Met l yX8_latestMade (Cond.code yX8_latestMade cX8_latestMade 5 (some .int) :: GW) r_x_latestMade (va_Pc [.ref (ad 3), .int p0] (gp D ks (xw ad kk V L Z) (xty kk Z) sz)) (q_x_latestMade D ks ad kk V L Z p0 (va_A (xw ad kk V L Z) sz)) 0 0 (va_A (xw ad kk V L Z) sz) := by
  refine g_met (q_x_latestMade D ks ad kk V L Z p0) (by decide) (Nat.le_of_ble_eq_true rfl) ?_
  intro p e s m below meth c A ls H locs hx hb hr hml hown hg hlocks hin hnw hgk hP hK hD hS hA hl
  have hown : s.vm.findClass RX8 = some m.cls := hown
  have hl : lv_has ls 5 [(0, .ref (ad 3)), (1, .int p0)] := hl
  have hP : va_P D vwCl (xw ad kk V L Z) H := hP
  have hD : va_D A (xw ad kk V L Z) := hD
  have hK : va_K D vwCl (xty kk Z) s := hK
  refine lv_iconst (v := (-1)) hx hb dX8_latestMade_0 (by decide) ?_
  refine lv_istore_n (lv' := [(2, .int (-1)), (0, .ref (ad 3)), (1, .int p0)]) hx hb dX8_latestMade_1 rfl hl (by decide) rfl (fun ls hl => ?_)
  refine lv_iconst (v := 0) hx hb dX8_latestMade_2 (by decide) ?_
  refine lv_istore_n (lv' := [(3, .int 0), (2, .int (-1)), (0, .ref (ad 3)), (1, .int p0)]) hx hb dX8_latestMade_3 rfl hl (by decide) rfl (fun ls hl => ?_)
  have lp3 : ∀ (fulp3 : Nat) (y1 : Int32) (y2 : Int32) (H : Heap) (locs : List Loc) (ls : Array Slot), 0 ≤ y1.toInt ∧ y1.toInt ≤ 300 → (-1) ≤ y2.toInt ∧ y2.toInt ≤ 299 → y2.toInt < (V 3 13).toInt → y1.toInt ≤ (V 3 13).toInt → 300 - y1.toInt < (fulp3 : Int) → va_P D vwCl (xw ad kk V L Z) H → va_D A (xw ad kk V L Z) → va_S A s.heap H locs → lv_has ls 5 [(3, .int y1), (2, .int y2), (0, .ref (ad 3)), (1, .int p0)] → W p l e r_x_latestMade s m ([.ref (ad 3), .int p0] : List Value).toArray below meth c H locs 0 0 (MQ below (q_x_latestMade D ks ad kk V L Z p0 A) ([.ref (ad 3), .int p0] : List Value).toArray s 0 0 A) (F0 m 4 ls []) := by
    intro fulp3
    induction fulp3 with
    | zero =>
      intro y1 y2 H locs ls klp3_0 klp3_1 xlp3_0 xlp3_1 hn  hP hD hS hl
      exfalso; (first | exact om_056f4b864e7b klp3_0.2 hn | omega)
    | succ fulp3 ihlp3 =>
      intro y1 y2 H locs ls klp3_0 klp3_1 xlp3_0 xlp3_1 hn  hP hD hS hl
      have r4 : 0 ≤ ((V 3 13)).toInt ∧ ((V 3 13)).toInt ≤ 300 := hMV 3 13
      refine lv_iload_n hx hb dX8_latestMade_4 rfl (lv_at hl 0 rfl) ?_
      refine lv_aload_n hx hb dX8_latestMade_5 rfl (lv_at hl 2 rfl) ?_
      refine va_get (D := D) (ci := 8) (v := .int (V 3 13)) (fs := (xfStock ad V L Z)) (C := RX8) (T := TX8) (N := 16) hx hb hg inX8 hown hK hP 3 xgStock rfl 13 (by decide) (hg _ w391) (fun _ h9 => h9) rfl dX8_latestMade_6 ?_
      refine lv_icmp_ge (tgt := 72) hx hb dX8_latestMade_9 (by decide) (fun c5 => ?_) (fun c5 => ?_)
      · skip
        have f6 : ((V 3 13)).toInt ≤ y1.toInt := b_le rfl rfl c5
        refine lv_iload_n hx hb dX8_latestMade_72 rfl (lv_at hl 1 rfl) ?_
        exact W.iret (v := y2) hx hb hr (fun t ht hW => ⟨⟨y2, (), rfl, ⟨(show (-1) ≤ y2.toInt ∧ y2.toInt ≤ 299 from by (first | exact om_f7b0f39b6fa3 klp3_0.2 klp3_1.1 xlp3_0 f6 | omega)), (show y2.toInt < (V 3 13).toInt from by (first | exact om_0e9116797efb xlp3_0 | omega))⟩, by rw [ht]; exact hP, va_K.moved hW.alike hK, hD⟩, hS.F ht⟩) hS.2.2 dX8_latestMade_73
      · skip
        have f7 : y1.toInt < ((V 3 13)).toInt := b_nle rfl rfl c5
        refine lv_aload_n hx hb dX8_latestMade_12 rfl (lv_at hl 2 rfl) ?_
        refine va_get (D := D) (ci := 8) (v := .ref (ad 25)) (fs := (xfStock ad V L Z)) (C := RX8) (T := TX8) (N := 16) hx hb hg inX8 hown hK hP 3 xgStock rfl 7 (by decide) (hg _ w384) (fun _ h9 => h9) rfl dX8_latestMade_13 ?_
        refine lv_iload_n hx hb dX8_latestMade_16 rfl (lv_at hl 0 rfl) ?_
        refine va_iald (D := D) (i := y1) hx hb hK hP 25 18 rfl rfl (i_in (a := y1.toInt) rfl (by (first | exact om_cd73be67f278 klp3_0.1 r4.2 f7 | omega))) dX8_latestMade_17 ?_
        refine lv_iconst (v := 1) hx hb dX8_latestMade_18 (by decide) ?_
        refine lv_icmp_ne (tgt := 36) hx hb dX8_latestMade_19 (by decide) (fun c8 => ?_) (fun c8 => ?_)
        · skip
          have f9 : ((V 28 (Int32.toNatClampNeg y1))).toInt ≠ 1 := b_neq rfl (by decide) c8
          refine lv_iconst (v := 0) hx hb dX8_latestMade_36 (by decide) ?_
          refine lv_istore (lv' := [(4, .int 0), (3, .int y1), (2, .int y2), (0, .ref (ad 3)), (1, .int p0)]) hx hb dX8_latestMade_37 hl (by decide) rfl (fun ls hl => ?_)
          refine lv_iload hx hb dX8_latestMade_39 (lv_at hl 0 rfl) ?_
          refine lv_if_eq (tgt := 66) hx hb dX8_latestMade_41 (by decide) (fun _ => ?_) (fun q => absurd (by decide) q)
          obtain ⟨z10, ez10⟩ : ∃ y : Int32, y = y1 + 1 := ⟨_, rfl⟩
          have hz10 : z10.toInt = y1.toInt + 1 := i_add ez10 rfl (by decide) (by (first | exact om_c09ff01990d3 klp3_0.1 r4.2 f7 | omega))
          refine lv_iinc (v := z10) (lv' := [(3, .int z10), (4, .int 0), (2, .int y2), (0, .ref (ad 3)), (1, .int p0)]) hx hb dX8_latestMade_66 hl (k := 1) rfl (by rw [ez10]; rfl) (by decide) rfl (fun ls hl => ?_)
          refine lv_goto (tgt := 4) hx hb dX8_latestMade_69 (by decide) ?_
          have r11 : Int32.toInt 0 = 0 := by decide
          exact ihlp3 z10 y2 H locs ls (by (first | exact om_0d23cfa2d5c1 klp3_0.1 r4.2 f7 hz10 | omega)) (by (first | exact om_0fcd3dacd231 klp3_1.1 klp3_1.2 | omega)) (show y2.toInt < (V 3 13).toInt from by (first | exact om_0e9116797efb xlp3_0 | omega)) (show z10.toInt ≤ (V 3 13).toInt from by (first | exact om_7fe9249fc074 f7 hz10 | omega)) (by (first | exact om_323338d8a62d hn hz10 | omega)) hP hD hS (lv_sub hl [0, 2, 3, 4] rfl)
        · skip
          have f12 : ((V 28 (Int32.toNatClampNeg y1))).toInt = 1 := b_eq rfl (by decide) c8
          refine lv_aload_n hx hb dX8_latestMade_22 rfl (lv_at hl 2 rfl) ?_
          refine va_get (D := D) (ci := 8) (v := .ref (ad 24)) (fs := (xfStock ad V L Z)) (C := RX8) (T := TX8) (N := 16) hx hb hg inX8 hown hK hP 3 xgStock rfl 6 (by decide) (hg _ w381) (fun _ h9 => h9) rfl dX8_latestMade_23 ?_
          refine lv_iload_n hx hb dX8_latestMade_26 rfl (lv_at hl 0 rfl) ?_
          refine va_iald (D := D) (i := y1) hx hb hK hP 24 17 rfl rfl (i_in (a := y1.toInt) rfl (by (first | exact om_cd73be67f278 klp3_0.1 r4.2 f7 | omega))) dX8_latestMade_27 ?_
          have r13 : 0 ≤ ((V 27 (Int32.toNatClampNeg y1))).toInt ∧ ((V 27 (Int32.toNatClampNeg y1))).toInt ≤ 39 := hMV 27 (Int32.toNatClampNeg y1)
          refine lv_iload_n hx hb dX8_latestMade_28 rfl (lv_at hl 3 rfl) ?_
          refine lv_icmp_ne (tgt := 36) hx hb dX8_latestMade_29 (by decide) (fun c14 => ?_) (fun c14 => ?_)
          · skip
            have f15 : ((V 27 (Int32.toNatClampNeg y1))).toInt ≠ p0.toInt := b_neq rfl rfl c14
            refine lv_iconst (v := 0) hx hb dX8_latestMade_36 (by decide) ?_
            refine lv_istore (lv' := [(4, .int 0), (3, .int y1), (2, .int y2), (0, .ref (ad 3)), (1, .int p0)]) hx hb dX8_latestMade_37 hl (by decide) rfl (fun ls hl => ?_)
            refine lv_iload hx hb dX8_latestMade_39 (lv_at hl 0 rfl) ?_
            refine lv_if_eq (tgt := 66) hx hb dX8_latestMade_41 (by decide) (fun _ => ?_) (fun q => absurd (by decide) q)
            obtain ⟨z16, ez16⟩ : ∃ y : Int32, y = y1 + 1 := ⟨_, rfl⟩
            have hz16 : z16.toInt = y1.toInt + 1 := i_add ez16 rfl (by decide) (by (first | exact om_c09ff01990d3 klp3_0.1 r4.2 f7 | omega))
            refine lv_iinc (v := z16) (lv' := [(3, .int z16), (4, .int 0), (2, .int y2), (0, .ref (ad 3)), (1, .int p0)]) hx hb dX8_latestMade_66 hl (k := 1) rfl (by rw [ez16]; rfl) (by decide) rfl (fun ls hl => ?_)
            refine lv_goto (tgt := 4) hx hb dX8_latestMade_69 (by decide) ?_
            have r17 : Int32.toInt 0 = 0 := by decide
            exact ihlp3 z16 y2 H locs ls (by (first | exact om_0d23cfa2d5c1 klp3_0.1 r4.2 f7 hz16 | omega)) (by (first | exact om_0fcd3dacd231 klp3_1.1 klp3_1.2 | omega)) (show y2.toInt < (V 3 13).toInt from by (first | exact om_0e9116797efb xlp3_0 | omega)) (show z16.toInt ≤ (V 3 13).toInt from by (first | exact om_7fe9249fc074 f7 hz16 | omega)) (by (first | exact om_323338d8a62d hn hz16 | omega)) hP hD hS (lv_sub hl [0, 2, 3, 4] rfl)
          · skip
            have f18 : ((V 27 (Int32.toNatClampNeg y1))).toInt = p0.toInt := b_eq rfl rfl c14
            refine lv_iconst (v := 1) hx hb dX8_latestMade_32 (by decide) ?_
            refine lv_goto (tgt := 37) hx hb dX8_latestMade_33 (by decide) ?_
            refine lv_istore (lv' := [(4, .int 1), (3, .int y1), (2, .int y2), (0, .ref (ad 3)), (1, .int p0)]) hx hb dX8_latestMade_37 hl (by decide) rfl (fun ls hl => ?_)
            refine lv_iload hx hb dX8_latestMade_39 (lv_at hl 0 rfl) ?_
            refine lv_if_eq (tgt := 66) hx hb dX8_latestMade_41 (by decide) (fun q => absurd q (by decide)) (fun _ => ?_)
            refine lv_iload_n hx hb dX8_latestMade_44 rfl (lv_at hl 2 rfl) ?_
            refine lv_iconst (v := (-1)) hx hb dX8_latestMade_45 (by decide) ?_
            refine lv_icmp_eq (tgt := 64) hx hb dX8_latestMade_46 (by decide) (fun c19 => ?_) (fun c19 => ?_)
            · skip
              have f20 : y2.toInt = (-1) := b_eq rfl (by decide) c19
              refine lv_iload_n hx hb dX8_latestMade_64 rfl (lv_at hl 1 rfl) ?_
              refine lv_istore_n (lv' := [(2, .int y1), (4, .int 1), (3, .int y1), (0, .ref (ad 3)), (1, .int p0)]) hx hb dX8_latestMade_65 rfl hl (by decide) rfl (fun ls hl => ?_)
              obtain ⟨z21, ez21⟩ : ∃ y : Int32, y = y1 + 1 := ⟨_, rfl⟩
              have hz21 : z21.toInt = y1.toInt + 1 := i_add ez21 rfl (by decide) (by (first | exact om_c09ff01990d3 klp3_0.1 r4.2 f7 | omega))
              refine lv_iinc (v := z21) (lv' := [(3, .int z21), (2, .int y1), (4, .int 1), (0, .ref (ad 3)), (1, .int p0)]) hx hb dX8_latestMade_66 hl (k := 2) rfl (by rw [ez21]; rfl) (by decide) rfl (fun ls hl => ?_)
              refine lv_goto (tgt := 4) hx hb dX8_latestMade_69 (by decide) ?_
              have r22 : Int32.toInt 1 = 1 := by decide
              exact ihlp3 z21 y1 H locs ls (by (first | exact om_0d23cfa2d5c1 klp3_0.1 r4.2 f7 hz21 | omega)) (by (first | exact om_38757deacf4c klp3_0.1 r4.2 f7 | omega)) (show y1.toInt < (V 3 13).toInt from by (first | exact om_0e9116797efb f7 | omega)) (show z21.toInt ≤ (V 3 13).toInt from by (first | exact om_7fe9249fc074 f7 hz21 | omega)) (by (first | exact om_323338d8a62d hn hz21 | omega)) hP hD hS (lv_sub hl [0, 1, 3, 4] rfl)
            · skip
              have f23 : y2.toInt ≠ (-1) := b_neq rfl (by decide) c19
              refine lv_aload_n hx hb dX8_latestMade_49 rfl (lv_at hl 3 rfl) ?_
              refine va_get (D := D) (ci := 8) (v := .ref (ad 26)) (fs := (xfStock ad V L Z)) (C := RX8) (T := TX8) (N := 16) hx hb hg inX8 hown hK hP 3 xgStock rfl 8 (by decide) (hg _ w386) (fun _ h9 => h9) rfl dX8_latestMade_50 ?_
              refine lv_iload_n hx hb dX8_latestMade_53 rfl (lv_at hl 1 rfl) ?_
              refine va_iald (D := D) (i := y1) hx hb hK hP 26 19 rfl rfl (i_in (a := y1.toInt) rfl (by (first | exact om_cd73be67f278 klp3_0.1 r4.2 f7 | omega))) dX8_latestMade_54 ?_
              refine lv_aload_n hx hb dX8_latestMade_55 rfl (lv_at hl 3 rfl) ?_
              refine va_get (D := D) (ci := 8) (v := .ref (ad 26)) (fs := (xfStock ad V L Z)) (C := RX8) (T := TX8) (N := 16) hx hb hg inX8 hown hK hP 3 xgStock rfl 8 (by decide) (hg _ w386) (fun _ h9 => h9) rfl dX8_latestMade_56 ?_
              refine lv_iload_n hx hb dX8_latestMade_59 rfl (lv_at hl 2 rfl) ?_
              refine va_iald (D := D) (i := y2) hx hb hK hP 26 19 rfl rfl (i_in (a := y2.toInt) rfl (by (first | exact om_3e088b37c336 klp3_1.1 klp3_1.2 f23 | omega))) dX8_latestMade_60 ?_
              refine lv_icmp_le (tgt := 66) hx hb dX8_latestMade_61 (by decide) (fun c24 => ?_) (fun c24 => ?_)
              · skip
                have f25 : ((V 29 (Int32.toNatClampNeg y1))).toInt ≤ ((V 29 (Int32.toNatClampNeg y2))).toInt := b_le rfl rfl c24
                obtain ⟨z26, ez26⟩ : ∃ y : Int32, y = y1 + 1 := ⟨_, rfl⟩
                have hz26 : z26.toInt = y1.toInt + 1 := i_add ez26 rfl (by decide) (by (first | exact om_c09ff01990d3 klp3_0.1 r4.2 f7 | omega))
                refine lv_iinc (v := z26) (lv' := [(3, .int z26), (4, .int 1), (2, .int y2), (0, .ref (ad 3)), (1, .int p0)]) hx hb dX8_latestMade_66 hl (k := 1) rfl (by rw [ez26]; rfl) (by decide) rfl (fun ls hl => ?_)
                refine lv_goto (tgt := 4) hx hb dX8_latestMade_69 (by decide) ?_
                have r27 : Int32.toInt 1 = 1 := by decide
                exact ihlp3 z26 y2 H locs ls (by (first | exact om_0d23cfa2d5c1 klp3_0.1 r4.2 f7 hz26 | omega)) (by (first | exact om_0a9f674b9c43 klp3_1.1 klp3_1.2 f23 | omega)) (show y2.toInt < (V 3 13).toInt from by (first | exact om_0e9116797efb xlp3_0 | omega)) (show z26.toInt ≤ (V 3 13).toInt from by (first | exact om_7fe9249fc074 f7 hz26 | omega)) (by (first | exact om_323338d8a62d hn hz26 | omega)) hP hD hS (lv_sub hl [0, 2, 3, 4] rfl)
              · skip
                have f28 : ((V 29 (Int32.toNatClampNeg y2))).toInt < ((V 29 (Int32.toNatClampNeg y1))).toInt := b_nle rfl rfl c24
                refine lv_iload_n hx hb dX8_latestMade_64 rfl (lv_at hl 1 rfl) ?_
                refine lv_istore_n (lv' := [(2, .int y1), (4, .int 1), (3, .int y1), (0, .ref (ad 3)), (1, .int p0)]) hx hb dX8_latestMade_65 rfl hl (by decide) rfl (fun ls hl => ?_)
                obtain ⟨z29, ez29⟩ : ∃ y : Int32, y = y1 + 1 := ⟨_, rfl⟩
                have hz29 : z29.toInt = y1.toInt + 1 := i_add ez29 rfl (by decide) (by (first | exact om_c09ff01990d3 klp3_0.1 r4.2 f7 | omega))
                refine lv_iinc (v := z29) (lv' := [(3, .int z29), (2, .int y1), (4, .int 1), (0, .ref (ad 3)), (1, .int p0)]) hx hb dX8_latestMade_66 hl (k := 2) rfl (by rw [ez29]; rfl) (by decide) rfl (fun ls hl => ?_)
                refine lv_goto (tgt := 4) hx hb dX8_latestMade_69 (by decide) ?_
                have r30 : Int32.toInt 1 = 1 := by decide
                exact ihlp3 z29 y1 H locs ls (by (first | exact om_0d23cfa2d5c1 klp3_0.1 r4.2 f7 hz29 | omega)) (by (first | exact om_38757deacf4c klp3_0.1 r4.2 f7 | omega)) (show y1.toInt < (V 3 13).toInt from by (first | exact om_0e9116797efb f7 | omega)) (show z29.toInt ≤ (V 3 13).toInt from by (first | exact om_7fe9249fc074 f7 hz29 | omega)) (by (first | exact om_323338d8a62d hn hz29 | omega)) hP hD hS (lv_sub hl [0, 1, 3, 4] rfl)
  have r31 : Int32.toInt 0 = 0 := by decide
  have r32 : Int32.toInt (-1) = (-1) := by decide
  have r33 : 0 ≤ ((V 3 13)).toInt ∧ ((V 3 13)).toInt ≤ 300 := hMV 3 13
  exact lp3 ((300 - (Int32.toInt 0) + 1 : Int).toNat) 0 (-1) H locs ls (by decide) (by decide) (show (Int32.toInt (-1)) < (V 3 13).toInt from by (first | exact om_3e9fea077503 r32 r33.1 | omega)) (show (Int32.toInt 0) ≤ (V 3 13).toInt from by (first | exact om_a51dc5ad8918 r31 r33.1 | omega)) (by (first | exact om_38ac640f4f8c | omega)) hP hD hS (lv_sub hl [0, 1, 2, 3] rfl)
abbrev r_x_joinedTo : Room := { frames := 1, cells := 0, slots := 0, locals := 21 }
abbrev q_x_joinedTo (D : va_G) (ks : KS) (ad : Nat → Nat) (kk : Nat → ClassId) (V : Vf) (L : Lf) (Z : XZ) (p0 : Int32) (p1 : Int32) (p2 : Int32) (A : Nat → Prop) : Array Value → State → Outcome → State → Prop := va_Qi (fun (r : Int32) (_ : Unit) => True) (fun _ t => gq D A (xw ad kk V L Z) (xty kk Z) t) A
set_option maxHeartbeats 4000000 in
set_option maxRecDepth 100000 in
theorem x_joinedTo (l : Launch) (D : va_G) (ks : KS) (sz : Nat) (ad : Nat → Nat) (kk : Nat → ClassId) (V : Vf) (L : Lf) (Z : XZ) (p0 : Int32) (p1 : Int32) (p2 : Int32) (hMV : rgd bX V) (sl : SL V Z)  : Met l yX8_joinedTo (Cond.code yX8_joinedTo cX8_joinedTo 6 (some .int) :: GW) r_x_joinedTo (va_Pc [.ref (ad 3), .int p0, .int p1, .int p2] (gp D ks (xw ad kk V L Z) (xty kk Z) sz)) (q_x_joinedTo D ks ad kk V L Z p0 p1 p2 (va_A (xw ad kk V L Z) sz)) 0 0 (va_A (xw ad kk V L Z) sz) := by
  refine g_met (q_x_joinedTo D ks ad kk V L Z p0 p1 p2) (by decide) (Nat.le_of_ble_eq_true rfl) ?_
  intro p e s m below meth c A ls H locs hx hb hr hml hown hg hlocks hin hnw hgk hP hK hD hS hA hl
  have hown : s.vm.findClass RX8 = some m.cls := hown
  have hl : lv_has ls 6 [(0, .ref (ad 3)), (1, .int p0), (2, .int p1), (3, .int p2)] := hl
  have hP : va_P D vwCl (xw ad kk V L Z) H := hP
  have hD : va_D A (xw ad kk V L Z) := hD
  have hK : va_K D vwCl (xty kk Z) s := hK
  have hf2 := i_full p2
  refine lv_aload_n hx hb dX8_joinedTo_0 rfl (lv_at hl 0 rfl) ?_
  refine lv_iload_n hx hb dX8_joinedTo_1 rfl (lv_at hl 1 rfl) ?_
  refine gA_int (gA_runV (As := [.int p0]) (rest := []) (ci := 8) (q0 := 3) hx hb hml hown hg hP hD hK hS hA hnw hgk (x_has l D ks H.size ad kk V L Z p0 hMV ) w1300 w1301 w1302 w164 w1303 rfl xgStock hdV_yX8_has ⟨Nat.le_of_ble_eq_true rfl, Nat.le_of_ble_eq_true rfl⟩ rfl hl.1 rfl (Nat.le_of_ble_eq_true rfl) dX8_joinedTo_2 ⟨Nat.le_of_ble_eq_true rfl, Nat.le_of_ble_eq_true rfl⟩) hP hD hK hS hA (fun z1 u2 H locs w3 hP hD hK hS => ?_)
  obtain ⟨rgz1, t4⟩ := w3
  have rgz1 : 0 ≤ z1.toInt ∧ z1.toInt ≤ 1 := rgz1
  have t4 : Imp (z1.toInt = 1) (0 ≤ p0.toInt ∧ p0.toInt < (V 3 13).toInt) := t4
  have r5 : 0 ≤ ((V 3 13)).toInt ∧ ((V 3 13)).toInt ≤ 300 := hMV 3 13
  refine lv_if_eq (tgt := 22) hx hb dX8_joinedTo_5 (by decide) (fun c6 => ?_) (fun c6 => ?_)
  · skip
    have f7 : z1.toInt = 0 := b_eq rfl (by decide) c6
    refine lv_iconst (v := (-1)) hx hb dX8_joinedTo_22 (by decide) ?_
    exact W.iret (v := (-1)) hx hb hr (fun t ht hW => ⟨⟨(-1), (), rfl, trivial, by rw [ht]; exact hP, va_K.moved hW.alike hK, hD⟩, hS.F ht⟩) hS.2.2 dX8_joinedTo_23
  · skip
    have f8 : z1.toInt ≠ 0 := b_neq rfl (by decide) c6
    have rh9 := Imp.go t4 (by (first | exact om_2ebe32d50835 rgz1.1 rgz1.2 f8 | omega))
    refine lv_iload_n hx hb dX8_joinedTo_8 rfl (lv_at hl 2 rfl) ?_
    refine lv_if_lt (tgt := 22) hx hb dX8_joinedTo_9 (by decide) (fun c10 => ?_) (fun c10 => ?_)
    · skip
      have f11 : p1.toInt < 0 := b_lt rfl (by decide) c10
      refine lv_iconst (v := (-1)) hx hb dX8_joinedTo_22 (by decide) ?_
      exact W.iret (v := (-1)) hx hb hr (fun t ht hW => ⟨⟨(-1), (), rfl, trivial, by rw [ht]; exact hP, va_K.moved hW.alike hK, hD⟩, hS.F ht⟩) hS.2.2 dX8_joinedTo_23
    · skip
      have f12 : 0 ≤ p1.toInt := b_nlt rfl (by decide) c10
      refine lv_iload_n hx hb dX8_joinedTo_12 rfl (lv_at hl 2 rfl) ?_
      refine lv_bipush (v := 8) hx hb dX8_joinedTo_13 (by decide) ?_
      refine lv_icmp_ge (tgt := 22) hx hb dX8_joinedTo_15 (by decide) (fun c13 => ?_) (fun c13 => ?_)
      · skip
        have f14 : 8 ≤ p1.toInt := b_le (by decide) rfl c13
        refine lv_iconst (v := (-1)) hx hb dX8_joinedTo_22 (by decide) ?_
        exact W.iret (v := (-1)) hx hb hr (fun t ht hW => ⟨⟨(-1), (), rfl, trivial, by rw [ht]; exact hP, va_K.moved hW.alike hK, hD⟩, hS.F ht⟩) hS.2.2 dX8_joinedTo_23
      · skip
        have f15 : p1.toInt < 8 := b_nle (by decide) rfl c13
        refine lv_iload_n hx hb dX8_joinedTo_18 rfl (lv_at hl 3 rfl) ?_
        refine lv_if_ge (tgt := 24) hx hb dX8_joinedTo_19 (by decide) (fun c16 => ?_) (fun c16 => ?_)
        · skip
          have f17 : 0 ≤ p2.toInt := b_le (by decide) rfl c16
          refine lv_aload_n hx hb dX8_joinedTo_24 rfl (lv_at hl 0 rfl) ?_
          refine va_get (D := D) (ci := 8) (v := .ref (ad 27)) (fs := (xfStock ad V L Z)) (C := RX8) (T := TX8) (N := 16) hx hb hg inX8 hown hK hP 3 xgStock rfl 9 (by decide) (hg _ w387) (fun _ h9 => h9) rfl dX8_joinedTo_25 ?_
          refine lv_iload_n hx hb dX8_joinedTo_28 rfl (lv_at hl 1 rfl) ?_
          refine lv_bipush (v := 8) hx hb dX8_joinedTo_29 (by decide) ?_
          refine lv_imul hx hb dX8_joinedTo_31 ?_
          refine lv_topi (fun z18 ez18 => ?_)
          have hz18 : z18.toInt = p0.toInt * 8 := i_mul ez18 rfl (by decide) (by (first | exact om_7d954d6c3b24 r5.2 rh9.1 rh9.2 | omega))
          refine lv_iload_n hx hb dX8_joinedTo_32 rfl (lv_at hl 2 rfl) ?_
          refine lv_iadd hx hb dX8_joinedTo_33 ?_
          refine lv_topi (fun z19 ez19 => ?_)
          have hz19 : z19.toInt = z18.toInt + p1.toInt := i_add ez19 rfl rfl (by (first | exact om_90b32962a99a r5.2 rh9.1 rh9.2 f12 f15 hz18 | omega))
          have kp0 := i_clamp (x := p0) rfl (by (first | exact om_eafa9039069c rh9.1 | omega))
          have kp1 := i_clamp (x := p1) rfl (by (first | exact om_eafa9039069c f12 | omega))
          have kz : Int32.toNatClampNeg z19 = 8 * Int32.toNatClampNeg p0 + Int32.toNatClampNeg p1 := by have h9 := i_clamp (x := z19) rfl (by (first | exact om_87330102a30f f12 hz18 hz19 kp0 | omega)); (first | exact om_d0bf4b743eaa hz18 hz19 kp0 kp1 h9 | omega)
          have ch : (V 30 (Int32.toNatClampNeg z19)).toInt < (V 3 15).toInt := by rw [kz]; exact sl.2.2.1 _ _ (by omega) (by omega)
          have lc := sl.1
          refine va_iald (D := D) (i := z19) hx hb hK hP 27 20 rfl rfl (i_in (a := z19.toInt) rfl (by first | exact om_dcedd6947527 r5.2 rh9.1 f12 f15 hz18 hz19 ((Imp.go t4 (imp_a (rgz1.1) (rgz1.2) (f8))).2) | first | omega | ((try (have i_t4 := Imp.go t4 (by omega))); (try (have i_sl := Imp.go sl (by omega))); (try (have i_sl := Imp.go sl (by omega))); (try (have i_t4 := Imp.go t4 (by omega))); omega))) dX8_joinedTo_34 ?_
          have r20 : (-1) ≤ ((V 30 (Int32.toNatClampNeg z19))).toInt ∧ ((V 30 (Int32.toNatClampNeg z19))).toInt ≤ 262143 := hMV 30 (Int32.toNatClampNeg z19)
          refine lv_istore (lv' := [(4, .int (V 30 (Int32.toNatClampNeg z19))), (0, .ref (ad 3)), (1, .int p0), (2, .int p1), (3, .int p2)]) hx hb dX8_joinedTo_35 hl (by decide) rfl (fun ls hl => ?_)
          refine lv_iconst (v := 0) hx hb dX8_joinedTo_37 (by decide) ?_
          refine lv_istore (lv' := [(5, .int 0), (4, .int (V 30 (Int32.toNatClampNeg z19))), (0, .ref (ad 3)), (1, .int p0), (2, .int p1), (3, .int p2)]) hx hb dX8_joinedTo_38 hl (by decide) rfl (fun ls hl => ?_)
          have lp23 : ∀ (fulp23 : Nat) (y21 : Int32) (y22 : Int32) (H : Heap) (locs : List Loc) (ls : Array Slot), 0 ≤ y21.toInt ∧ y21.toInt ≤ 2147483647 → (-1) ≤ y22.toInt ∧ y22.toInt ≤ 262143 → y22.toInt < (V 3 15).toInt → y21.toInt ≤ p2.toInt → p2.toInt - y21.toInt < (fulp23 : Int) → va_P D vwCl (xw ad kk V L Z) H → va_D A (xw ad kk V L Z) → va_S A s.heap H locs → lv_has ls 6 [(5, .int y21), (4, .int y22), (0, .ref (ad 3)), (1, .int p0), (2, .int p1), (3, .int p2)] → W p l e r_x_joinedTo s m ([.ref (ad 3), .int p0, .int p1, .int p2] : List Value).toArray below meth c H locs 0 0 (MQ below (q_x_joinedTo D ks ad kk V L Z p0 p1 p2 A) ([.ref (ad 3), .int p0, .int p1, .int p2] : List Value).toArray s 0 0 A) (F0 m 40 ls []) := by
            intro fulp23
            induction fulp23 with
            | zero =>
              intro y21 y22 H locs ls klp23_0 klp23_1 xlp23_0 xlp23_1 hn  hP hD hS hl
              exfalso; (first | exact om_4634b1278845 xlp23_1 hn | omega)
            | succ fulp23 ihlp23 =>
              intro y21 y22 H locs ls klp23_0 klp23_1 xlp23_0 xlp23_1 hn  hP hD hS hl
              have r24 : 0 ≤ ((V 3 15)).toInt ∧ ((V 3 15)).toInt ≤ 262144 := hMV 3 15
              refine lv_iload hx hb dX8_joinedTo_40 (lv_at hl 0 rfl) ?_
              refine lv_iload_n hx hb dX8_joinedTo_42 rfl (lv_at hl 5 rfl) ?_
              refine lv_icmp_ge (tgt := 67) hx hb dX8_joinedTo_43 (by decide) (fun c25 => ?_) (fun c25 => ?_)
              · skip
                have f26 : p2.toInt ≤ y21.toInt := b_le rfl rfl c25
                refine lv_iload hx hb dX8_joinedTo_67 (lv_at hl 1 rfl) ?_
                refine lv_iconst (v := (-1)) hx hb dX8_joinedTo_69 (by decide) ?_
                refine lv_icmp_ne (tgt := 77) hx hb dX8_joinedTo_70 (by decide) (fun c27 => ?_) (fun c27 => ?_)
                · skip
                  have f28 : y22.toInt ≠ (-1) := b_neq rfl (by decide) c27
                  refine lv_aload_n hx hb dX8_joinedTo_77 rfl (lv_at hl 2 rfl) ?_
                  refine va_get (D := D) (ci := 8) (v := .ref Z.l1) (fs := (xfStock ad V L Z)) (C := RX8) (T := TX8) (N := 16) hx hb hg inX8 hown hK hP 3 xgStock rfl 10 (by decide) (hg _ w388) (fun _ h9 => h9) rfl dX8_joinedTo_78 ?_
                  refine lv_iload hx hb dX8_joinedTo_81 (lv_at hl 1 rfl) ?_
                  refine va_iald (D := D) (i := y22) hx hb hK hP 28 21 rfl rfl (i_in (a := y22.toInt) rfl (by first | omega | ((try (have i_t4 := Imp.go t4 (by omega))); (try (have i_sl := Imp.go sl (by omega))); (try (have i_sl := Imp.go sl (by omega))); (try (have i_t4 := Imp.go t4 (by omega))); omega))) dX8_joinedTo_83 ?_
                  exact W.iret (v := (V 31 (Int32.toNatClampNeg y22))) hx hb hr (fun t ht hW => ⟨⟨(V 31 (Int32.toNatClampNeg y22)), (), rfl, trivial, by rw [ht]; exact hP, va_K.moved hW.alike hK, hD⟩, hS.F ht⟩) hS.2.2 dX8_joinedTo_84
                · skip
                  have f29 : y22.toInt = (-1) := b_eq rfl (by decide) c27
                  refine lv_iconst (v := (-1)) hx hb dX8_joinedTo_73 (by decide) ?_
                  refine lv_goto (tgt := 84) hx hb dX8_joinedTo_74 (by decide) ?_
                  exact W.iret (v := (-1)) hx hb hr (fun t ht hW => ⟨⟨(-1), (), rfl, trivial, by rw [ht]; exact hP, va_K.moved hW.alike hK, hD⟩, hS.F ht⟩) hS.2.2 dX8_joinedTo_84
              · skip
                have f30 : y21.toInt < p2.toInt := b_nle rfl rfl c25
                refine lv_iload hx hb dX8_joinedTo_46 (lv_at hl 1 rfl) ?_
                refine lv_iconst (v := (-1)) hx hb dX8_joinedTo_48 (by decide) ?_
                refine lv_icmp_eq (tgt := 67) hx hb dX8_joinedTo_49 (by decide) (fun c31 => ?_) (fun c31 => ?_)
                · skip
                  have f32 : y22.toInt = (-1) := b_eq rfl (by decide) c31
                  refine lv_iload hx hb dX8_joinedTo_67 (lv_at hl 1 rfl) ?_
                  refine lv_iconst (v := (-1)) hx hb dX8_joinedTo_69 (by decide) ?_
                  refine lv_icmp_ne (tgt := 77) hx hb dX8_joinedTo_70 (by decide) (fun c33 => ?_) (fun c33 => ?_)
                  · skip
                    have f34 : y22.toInt ≠ (-1) := b_neq rfl (by decide) c33
                    exfalso; first | exact om_e12999c70aea klp23_1.1 f32 f34 | first | omega | ((try (have i_t4 := Imp.go t4 (by omega))); (try (have i_sl := Imp.go sl (by omega))); (try (have i_sl := Imp.go sl (by omega))); (try (have i_t4 := Imp.go t4 (by omega))); omega)
                  · skip
                    have f35 : y22.toInt = (-1) := b_eq rfl (by decide) c33
                    refine lv_iconst (v := (-1)) hx hb dX8_joinedTo_73 (by decide) ?_
                    refine lv_goto (tgt := 84) hx hb dX8_joinedTo_74 (by decide) ?_
                    exact W.iret (v := (-1)) hx hb hr (fun t ht hW => ⟨⟨(-1), (), rfl, trivial, by rw [ht]; exact hP, va_K.moved hW.alike hK, hD⟩, hS.F ht⟩) hS.2.2 dX8_joinedTo_84
                · skip
                  have f36 : y22.toInt ≠ (-1) := b_neq rfl (by decide) c31
                  refine lv_aload_n hx hb dX8_joinedTo_52 rfl (lv_at hl 2 rfl) ?_
                  refine va_get (D := D) (ci := 8) (v := .ref Z.l2) (fs := (xfStock ad V L Z)) (C := RX8) (T := TX8) (N := 16) hx hb hg inX8 hown hK hP 3 xgStock rfl 11 (by decide) (hg _ w389) (fun _ h9 => h9) rfl dX8_joinedTo_53 ?_
                  refine lv_iload hx hb dX8_joinedTo_56 (lv_at hl 1 rfl) ?_
                  have kl := i_clamp (x := y22) rfl (by (first | exact om_e3b1d6ac9ce8 klp23_1.1 f36 | omega))
                  have nl : (V 32 (Int32.toNatClampNeg y22)).toInt < (V 3 15).toInt := sl.2.2.2 _ (by omega)
                  refine va_iald (D := D) (i := y22) hx hb hK hP 29 22 rfl rfl (i_in (a := y22.toInt) rfl (by first | omega | ((try (have i_t4 := Imp.go t4 (by omega))); (try (have i_sl := Imp.go sl (by omega))); (try (have i_sl := Imp.go sl (by omega))); (try (have i_t4 := Imp.go t4 (by omega))); omega))) dX8_joinedTo_58 ?_
                  have r37 : (-1) ≤ ((V 32 (Int32.toNatClampNeg y22))).toInt ∧ ((V 32 (Int32.toNatClampNeg y22))).toInt ≤ 262143 := hMV 32 (Int32.toNatClampNeg y22)
                  refine lv_istore (lv' := [(4, .int (V 32 (Int32.toNatClampNeg y22))), (5, .int y21), (0, .ref (ad 3)), (1, .int p0), (2, .int p1), (3, .int p2)]) hx hb dX8_joinedTo_59 hl (by decide) rfl (fun ls hl => ?_)
                  obtain ⟨z38, ez38⟩ : ∃ y : Int32, y = y21 + 1 := ⟨_, rfl⟩
                  have hz38 : z38.toInt = y21.toInt + 1 := i_add ez38 rfl (by decide) (by (first | exact om_88bd6a12a5d9 hf2.2 klp23_0.1 f30 | omega))
                  refine lv_iinc (v := z38) (lv' := [(5, .int z38), (4, .int (V 32 (Int32.toNatClampNeg y22))), (0, .ref (ad 3)), (1, .int p0), (2, .int p1), (3, .int p2)]) hx hb dX8_joinedTo_61 hl (k := 1) rfl (by rw [ez38]; rfl) (by decide) rfl (fun ls hl => ?_)
                  refine lv_goto (tgt := 40) hx hb dX8_joinedTo_64 (by decide) ?_
                  exact ihlp23 z38 (V 32 (Int32.toNatClampNeg y22)) H locs ls (by first | exact om_3a58d8ac03eb hf2.2 klp23_0.1 f30 hz38 | first | omega | ((try (have i_t4 := Imp.go t4 (by omega))); (try (have i_sl := Imp.go sl (by omega))); (try (have i_sl := Imp.go sl (by omega))); (try (have i_t4 := Imp.go t4 (by omega))); omega)) (by first | exact om_1fc4a2de535e r37.1 r37.2 | first | omega | ((try (have i_t4 := Imp.go t4 (by omega))); (try (have i_sl := Imp.go sl (by omega))); (try (have i_sl := Imp.go sl (by omega))); (try (have i_t4 := Imp.go t4 (by omega))); omega)) (show ((V 32 (Int32.toNatClampNeg y22))).toInt < (V 3 15).toInt from by first | exact om_0e9116797efb nl | first | omega | ((try (have i_t4 := Imp.go t4 (by omega))); (try (have i_sl := Imp.go sl (by omega))); (try (have i_sl := Imp.go sl (by omega))); (try (have i_t4 := Imp.go t4 (by omega))); omega)) (show z38.toInt ≤ p2.toInt from by first | exact om_7fe9249fc074 f30 hz38 | first | omega | ((try (have i_t4 := Imp.go t4 (by omega))); (try (have i_sl := Imp.go sl (by omega))); (try (have i_sl := Imp.go sl (by omega))); (try (have i_t4 := Imp.go t4 (by omega))); omega)) (by first | exact om_9e7d2b874257 hn hz38 | first | omega | ((try (have i_t4 := Imp.go t4 (by omega))); (try (have i_sl := Imp.go sl (by omega))); (try (have i_sl := Imp.go sl (by omega))); (try (have i_t4 := Imp.go t4 (by omega))); omega)) hP hD hS (lv_sub hl [0, 1, 2, 3, 4, 5] rfl)
          have r39 : Int32.toInt 0 = 0 := by decide
          have r40 : 0 ≤ ((V 3 15)).toInt ∧ ((V 3 15)).toInt ≤ 262144 := hMV 3 15
          exact lp23 ((p2.toInt - (Int32.toInt 0) + 1 : Int).toNat) 0 (V 30 (Int32.toNatClampNeg z19)) H locs ls (by decide) (by first | exact om_1fc4a2de535e r20.1 r20.2 | first | omega | ((try (have i_t4 := Imp.go t4 (by omega))); (try (have i_sl := Imp.go sl (by omega))); (try (have i_sl := Imp.go sl (by omega))); (try (have i_t4 := Imp.go t4 (by omega))); omega)) (show ((V 30 (Int32.toNatClampNeg z19))).toInt < (V 3 15).toInt from by first | exact om_0e9116797efb ch | first | omega | ((try (have i_t4 := Imp.go t4 (by omega))); (try (have i_sl := Imp.go sl (by omega))); (try (have i_sl := Imp.go sl (by omega))); (try (have i_t4 := Imp.go t4 (by omega))); omega)) (show (Int32.toInt 0) ≤ p2.toInt from by first | exact om_6f9bb8cf3bec f17 r39 | first | omega | ((try (have i_t4 := Imp.go t4 (by omega))); (try (have i_sl := Imp.go sl (by omega))); (try (have i_sl := Imp.go sl (by omega))); (try (have i_t4 := Imp.go t4 (by omega))); omega)) (by first | exact om_7441a7786481 | first | omega | ((try (have i_t4 := Imp.go t4 (by omega))); (try (have i_sl := Imp.go sl (by omega))); (try (have i_sl := Imp.go sl (by omega))); (try (have i_t4 := Imp.go t4 (by omega))); omega)) hP hD hS (lv_sub hl [0, 1, 2, 3, 4, 5] rfl)
        · skip
          have f41 : p2.toInt < 0 := b_nle (by decide) rfl c16
          refine lv_iconst (v := (-1)) hx hb dX8_joinedTo_22 (by decide) ?_
          exact W.iret (v := (-1)) hx hb hr (fun t ht hW => ⟨⟨(-1), (), rfl, trivial, by rw [ht]; exact hP, va_K.moved hW.alike hK, hD⟩, hS.F ht⟩) hS.2.2 dX8_joinedTo_23
abbrev r_x_bhas : Room := { frames := 0, cells := 0, slots := 0, locals := 0 }
abbrev q_x_bhas (D : va_G) (ks : KS) (ad : Nat → Nat) (kk : Nat → ClassId) (V : Vf) (L : Lf) (Z : XZ) (p0 : Int32) (b : Nat) (A : Nat → Prop) : Array Value → State → Outcome → State → Prop := va_Qi (fun (r : Int32) (_ : Unit) => (0 ≤ r.toInt ∧ r.toInt ≤ 1) ∧ (Imp (r.toInt = 1) (0 ≤ p0.toInt ∧ p0.toInt < (V 43 (5 * b + 2)).toInt))) (fun _ t => gq D A (xw ad kk V L Z) (xty kk Z) t) A
set_option maxHeartbeats 4000000 in
set_option maxRecDepth 100000 in
theorem x_bhas (l : Launch) (D : va_G) (ks : KS) (sz : Nat) (ad : Nat → Nat) (kk : Nat → ClassId) (V : Vf) (L : Lf) (Z : XZ) (p0 : Int32) (b : Nat) (hMV : rgd bX V) (hb2 : b < 2)  : Met l yX0_has (Cond.code yX0_has cX0_has 2 (some .boolean) :: GW) r_x_bhas (va_Pc [.ref (ad (38 + b)), .int p0] (gp D ks (xw ad kk V L Z) (xty kk Z) sz)) (q_x_bhas D ks ad kk V L Z p0 b (va_A (xw ad kk V L Z) sz)) 0 0 (va_A (xw ad kk V L Z) sz) := by
  refine g_met (q_x_bhas D ks ad kk V L Z p0 b) (by decide) (Nat.le_of_ble_eq_true rfl) ?_
  intro p e s m below meth c A ls H locs hx hb hr hml hown hg hlocks hin hnw hgk hP hK hD hS hA hl
  have hown : s.vm.findClass RX0 = some m.cls := hown
  have hl : lv_has ls 2 [(0, .ref (ad (38 + b))), (1, .int p0)] := hl
  have hP : va_P D vwCl (xw ad kk V L Z) H := hP
  have hD : va_D A (xw ad kk V L Z) := hD
  have hK : va_K D vwCl (xty kk Z) s := hK
  refine lv_iload_n hx hb dX0_has_0 rfl (lv_at hl 1 rfl) ?_
  refine lv_if_lt (tgt := 19) hx hb dX0_has_1 (by decide) (fun c1 => ?_) (fun c1 => ?_)
  · skip
    have f2 : p0.toInt < 0 := b_lt rfl (by decide) c1
    refine lv_iconst (v := 0) hx hb dX0_has_19 (by decide) ?_
    have r3 : 0 ≤ ((V 43 (5 * b + 2))).toInt ∧ ((V 43 (5 * b + 2))).toInt ≤ ((xcap (5 * b + 2) : Nat) : Int) := hMV 43 (5 * b + 2)
    have r4 : xcap (5 * b + 2) = 24 := xcap_2
    exact W.zret (v := 0) hx hb hr rfl (fun t ht hW => ⟨⟨0, (), rfl, ⟨(by decide), (Imp.mk (fun hp => absurd hp (by decide)))⟩, by rw [ht]; exact hP, va_K.moved hW.alike hK, hD⟩, hS.F ht⟩) hS.2.2 dX0_has_20
  · skip
    have f5 : 0 ≤ p0.toInt := b_nlt rfl (by decide) c1
    refine lv_iload_n hx hb dX0_has_4 rfl (lv_at hl 1 rfl) ?_
    refine lv_aload_n hx hb dX0_has_5 rfl (lv_at hl 0 rfl) ?_
    refine va_get (D := D) (ci := 0) (v := .ref (ad (40 + (5 * b + 2)))) (fs := (xfBook ad V b)) (C := RX0) (T := TX0) (N := 13) hx hb hg inX0 hown hK hP (38 + b) (xgBook hb2) rfl 2 (by decide) (hg _ w599) (fun _ h9 => h9) rfl dX0_has_6 ?_
    have il6 : (5 * b + 2) < 10 := by (first | exact om_1478e52fbf50 hb2 | omega)
    refine va_getN (D := D) (ci := 6) (v := .int (V 43 (5 * b + 2))) (fs := (xfNames ad V (5 * b + 2))) (C := RX6) (T := TX6) (N := 2) hx hb hg inX6 hown hK hP (40 + (5 * b + 2)) (xgNames il6) rfl 1 (by decide) (hnw.use 481 n481 rfl) (fun _ h9 => h9) rfl dX0_has_9 ?_
    have r7 : 0 ≤ ((V 43 (5 * b + 2))).toInt ∧ ((V 43 (5 * b + 2))).toInt ≤ ((xcap (5 * b + 2) : Nat) : Int) := hMV 43 (5 * b + 2)
    have r8 : xcap (5 * b + 2) = 24 := xcap_2
    refine lv_icmp_ge (tgt := 19) hx hb dX0_has_12 (by decide) (fun c9 => ?_) (fun c9 => ?_)
    · skip
      have f10 : ((V 43 (5 * b + 2))).toInt ≤ p0.toInt := b_le rfl rfl c9
      refine lv_iconst (v := 0) hx hb dX0_has_19 (by decide) ?_
      exact W.zret (v := 0) hx hb hr rfl (fun t ht hW => ⟨⟨0, (), rfl, ⟨(by decide), (Imp.mk (fun hp => absurd hp (by decide)))⟩, by rw [ht]; exact hP, va_K.moved hW.alike hK, hD⟩, hS.F ht⟩) hS.2.2 dX0_has_20
    · skip
      have f11 : p0.toInt < ((V 43 (5 * b + 2))).toInt := b_nle rfl rfl c9
      refine lv_iconst (v := 1) hx hb dX0_has_15 (by decide) ?_
      refine lv_goto (tgt := 20) hx hb dX0_has_16 (by decide) ?_
      exact W.zret (v := 1) hx hb hr rfl (fun t ht hW => ⟨⟨1, (), rfl, ⟨(by decide), (Imp.mk (fun _ => (show 0 ≤ p0.toInt ∧ p0.toInt < (V 43 (5 * b + 2)).toInt from by (first | exact om_a1ce77cc111f f5 f11 | omega))))⟩, by rw [ht]; exact hP, va_K.moved hW.alike hK, hD⟩, hS.F ht⟩) hS.2.2 dX0_has_20
abbrev r_x_isThere : Room := { frames := 0, cells := 0, slots := 0, locals := 0 }
abbrev q_x_isThere (D : va_G) (ks : KS) (ad : Nat → Nat) (kk : Nat → ClassId) (V : Vf) (L : Lf) (Z : XZ) (p0 : Int32) (b : Nat) (A : Nat → Prop) : Array Value → State → Outcome → State → Prop := va_Qi (fun (r : Int32) (_ : Unit) => (0 ≤ r.toInt ∧ r.toInt ≤ 1)) (fun _ t => gq D A (xw ad kk V L Z) (xty kk Z) t) A
set_option maxHeartbeats 4000000 in
set_option maxRecDepth 100000 in
theorem x_isThere (l : Launch) (D : va_G) (ks : KS) (sz : Nat) (ad : Nat → Nat) (kk : Nat → ClassId) (V : Vf) (L : Lf) (Z : XZ) (p0 : Int32) (b : Nat) (hMV : rgd bX V) (rg_p0 : 0 ≤ p0.toInt ∧ p0.toInt ≤ 23) (hb2 : b < 2)  : Met l yX0_isThere (Cond.code yX0_isThere cX0_isThere 3 (some .boolean) :: GW) r_x_isThere (va_Pc [.ref (ad (38 + b)), .int p0] (gp D ks (xw ad kk V L Z) (xty kk Z) sz)) (q_x_isThere D ks ad kk V L Z p0 b (va_A (xw ad kk V L Z) sz)) 0 0 (va_A (xw ad kk V L Z) sz) := by
  refine g_met (q_x_isThere D ks ad kk V L Z p0 b) (by decide) (Nat.le_of_ble_eq_true rfl) ?_
  intro p e s m below meth c A ls H locs hx hb hr hml hown hg hlocks hin hnw hgk hP hK hD hS hA hl
  have hown : s.vm.findClass RX0 = some m.cls := hown
  have hl : lv_has ls 3 [(0, .ref (ad (38 + b))), (1, .int p0)] := hl
  have hP : va_P D vwCl (xw ad kk V L Z) H := hP
  have hD : va_D A (xw ad kk V L Z) := hD
  have hK : va_K D vwCl (xty kk Z) s := hK
  refine lv_aload_n hx hb dX0_isThere_0 rfl (lv_at hl 0 rfl) ?_
  refine va_get (D := D) (ci := 0) (v := .ref (ad (64 + b))) (fs := (xfBook ad V b)) (C := RX0) (T := TX0) (N := 13) hx hb hg inX0 hown hK hP (38 + b) (xgBook hb2) rfl 7 (by decide) (hg _ w614) (fun _ h9 => h9) rfl dX0_isThere_1 ?_
  refine lv_iload_n hx hb dX0_isThere_4 rfl (lv_at hl 1 rfl) ?_
  have il1 : b < 2 := by (first | exact om_f940a4667dd6 hb2 | omega)
  refine va_aldq (D := D) (i := p0) hx hb hK hP (64 + b) (57 + b) (xgcomps il1) (xtcomps il1) (i_in (a := p0.toInt) rfl (by (first | exact om_dbb25e99819b rg_p0.1 rg_p0.2 | omega))) dX0_isThere_5 ?_
  have kc2 := i_clamp (x := p0) rfl (by (first | exact om_eafa9039069c rg_p0.1 | omega))
  refine g_topv (v := .ref (ad (72 + (24 * b + (Int32.toNatClampNeg p0))))) (congrArg va_rf (if_pos (by omega))) ?_
  have il3 : (24 * b + (Int32.toNatClampNeg p0)) < 48 := by (first | exact om_22346e364ab0 rg_p0.2 hb2 kc2 | omega)
  refine lv_astore_n (lv' := [(2, .ref (ad (72 + (24 * b + (Int32.toNatClampNeg p0))))), (0, .ref (ad (38 + b))), (1, .int p0)]) hx hb dX0_isThere_6 rfl hl (by decide) rfl (fun ls hl => ?_)
  refine lv_aload_n hx hb dX0_isThere_7 rfl (lv_at hl 0 rfl) ?_
  refine va_getN (D := D) (ci := 3) (v := .int (V 54 (24 * b + (Int32.toNatClampNeg p0)))) (fs := (xfComp ad V (24 * b + (Int32.toNatClampNeg p0)))) (C := RX3) (T := TX3) (N := 13) hx hb hg inX3 hown hK hP (72 + (24 * b + (Int32.toNatClampNeg p0))) (xgComp il3) rfl 9 (by decide) (hnw.use 532 n532 rfl) (fun _ h9 => h9) rfl dX0_isThere_8 ?_
  have r4 : (-1) ≤ ((V 54 (24 * b + (Int32.toNatClampNeg p0)))).toInt ∧ ((V 54 (24 * b + (Int32.toNatClampNeg p0)))).toInt ≤ 11 := hMV 54 (24 * b + (Int32.toNatClampNeg p0))
  refine lv_iconst (v := (-1)) hx hb dX0_isThere_11 (by decide) ?_
  refine lv_icmp_eq (tgt := 31) hx hb dX0_isThere_12 (by decide) (fun c5 => ?_) (fun c5 => ?_)
  · skip
    have f6 : ((V 54 (24 * b + (Int32.toNatClampNeg p0)))).toInt = (-1) := b_eq rfl (by decide) c5
    refine lv_iconst (v := 1) hx hb dX0_isThere_31 (by decide) ?_
    refine lv_goto (tgt := 36) hx hb dX0_isThere_32 (by decide) ?_
    exact W.zret (v := 1) hx hb hr rfl (fun t ht hW => ⟨⟨1, (), rfl, (by decide), by rw [ht]; exact hP, va_K.moved hW.alike hK, hD⟩, hS.F ht⟩) hS.2.2 dX0_isThere_36
  · skip
    have f7 : ((V 54 (24 * b + (Int32.toNatClampNeg p0)))).toInt ≠ (-1) := b_neq rfl (by decide) c5
    refine lv_aload_n hx hb dX0_isThere_15 rfl (lv_at hl 1 rfl) ?_
    refine va_get (D := D) (ci := 0) (v := .ref (ad (62 + b))) (fs := (xfBook ad V b)) (C := RX0) (T := TX0) (N := 13) hx hb hg inX0 hown hK hP (38 + b) (xgBook hb2) rfl 6 (by decide) (hg _ w610) (fun _ h9 => h9) rfl dX0_isThere_16 ?_
    refine lv_aload_n hx hb dX0_isThere_19 rfl (lv_at hl 0 rfl) ?_
    refine va_getN (D := D) (ci := 3) (v := .int (V 54 (24 * b + (Int32.toNatClampNeg p0)))) (fs := (xfComp ad V (24 * b + (Int32.toNatClampNeg p0)))) (C := RX3) (T := TX3) (N := 13) hx hb hg inX3 hown hK hP (72 + (24 * b + (Int32.toNatClampNeg p0))) (xgComp il3) rfl 9 (by decide) (hnw.use 532 n532 rfl) (fun _ h9 => h9) rfl dX0_isThere_20 ?_
    have il8 : b < 2 := by (first | exact om_f940a4667dd6 hb2 | omega)
    refine va_iald (D := D) (i := (V 54 (24 * b + (Int32.toNatClampNeg p0)))) hx hb hK hP (62 + b) (55 + b) (xgsettingValues il8) (xtsettingValues il8) (i_in (a := ((V 54 (24 * b + (Int32.toNatClampNeg p0)))).toInt) rfl (by (first | exact om_928558d2dcf1 r4.1 r4.2 f7 | omega))) dX0_isThere_23 ?_
    have kc9 := i_clamp (x := (V 54 (24 * b + (Int32.toNatClampNeg p0)))) rfl (by (first | exact om_e3b1d6ac9ce8 r4.1 f7 | omega))
    refine g_top (v := V 46 (12 * b + (Int32.toNatClampNeg (V 54 (24 * b + (Int32.toNatClampNeg p0)))))) (if_pos (by omega)) ?_
    refine lv_aload_n hx hb dX0_isThere_24 rfl (lv_at hl 0 rfl) ?_
    refine va_getN (D := D) (ci := 3) (v := .int (V 55 (24 * b + (Int32.toNatClampNeg p0)))) (fs := (xfComp ad V (24 * b + (Int32.toNatClampNeg p0)))) (C := RX3) (T := TX3) (N := 13) hx hb hg inX3 hown hK hP (72 + (24 * b + (Int32.toNatClampNeg p0))) (xgComp il3) rfl 10 (by decide) (hnw.use 535 n535 rfl) (fun _ h9 => h9) rfl dX0_isThere_25 ?_
    refine lv_icmp_ne (tgt := 35) hx hb dX0_isThere_28 (by decide) (fun c10 => ?_) (fun c10 => ?_)
    · skip
      have f11 : ((V 46 (12 * b + (Int32.toNatClampNeg (V 54 (24 * b + (Int32.toNatClampNeg p0))))))).toInt ≠ ((V 55 (24 * b + (Int32.toNatClampNeg p0)))).toInt := b_neq rfl rfl c10
      refine lv_iconst (v := 0) hx hb dX0_isThere_35 (by decide) ?_
      exact W.zret (v := 0) hx hb hr rfl (fun t ht hW => ⟨⟨0, (), rfl, (by decide), by rw [ht]; exact hP, va_K.moved hW.alike hK, hD⟩, hS.F ht⟩) hS.2.2 dX0_isThere_36
    · skip
      have f12 : ((V 46 (12 * b + (Int32.toNatClampNeg (V 54 (24 * b + (Int32.toNatClampNeg p0))))))).toInt = ((V 55 (24 * b + (Int32.toNatClampNeg p0)))).toInt := b_eq rfl rfl c10
      refine lv_iconst (v := 1) hx hb dX0_isThere_31 (by decide) ?_
      refine lv_goto (tgt := 36) hx hb dX0_isThere_32 (by decide) ?_
      exact W.zret (v := 1) hx hb hr rfl (fun t ht hW => ⟨⟨1, (), rfl, (by decide), by rw [ht]; exact hP, va_K.moved hW.alike hK, hD⟩, hS.F ht⟩) hS.2.2 dX0_isThere_36
abbrev r_x_numberOf : Room := { frames := 1, cells := 0, slots := 0, locals := 23 }
abbrev q_x_numberOf (D : va_G) (ks : KS) (ad : Nat → Nat) (kk : Nat → ClassId) (V : Vf) (L : Lf) (Z : XZ) (p0 : Int64) (p1 : Int32) (b : Nat) (A : Nat → Prop) : Array Value → State → Outcome → State → Prop := va_Qi (fun (r : Int32) (_ : Unit) => True) (fun _ t => gq D A (xw ad kk V L Z) (xty kk Z) t) A
set_option maxHeartbeats 4000000 in
set_option maxRecDepth 100000 in
theorem x_numberOf (l : Launch) (D : va_G) (ks : KS) (sz : Nat) (ad : Nat → Nat) (kk : Nat → ClassId) (V : Vf) (L : Lf) (Z : XZ) (p0 : Int64) (p1 : Int32) (b : Nat) (hMV : rgd bX V) (hb2 : b < 2)  : Met l yX0_numberOf (Cond.code yX0_numberOf cX0_numberOf 4 (some .int) :: GW) r_x_numberOf (va_Pc [.ref (ad (38 + b)), .long p0, .int p1] (gp D ks (xw ad kk V L Z) (xty kk Z) sz)) (q_x_numberOf D ks ad kk V L Z p0 p1 b (va_A (xw ad kk V L Z) sz)) 0 0 (va_A (xw ad kk V L Z) sz) := by
  refine g_met (q_x_numberOf D ks ad kk V L Z p0 p1 b) (by decide) (Nat.le_of_ble_eq_true rfl) ?_
  intro p e s m below meth c A ls H locs hx hb hr hml hown hg hlocks hin hnw hgk hP hK hD hS hA hl
  have hown : s.vm.findClass RX0 = some m.cls := hown
  have hl : lv_has ls 4 [(0, .ref (ad (38 + b))), (1, .long p0), (3, .int p1)] := hl
  have hP : va_P D vwCl (xw ad kk V L Z) H := hP
  have hD : va_D A (xw ad kk V L Z) := hD
  have hK : va_K D vwCl (xty kk Z) s := hK
  refine lv_iload_n hx hb dX0_numberOf_0 rfl (lv_at hl 2 rfl) ?_
  by_cases q1 : p1 = 0
  · refine g_top (v := 0) q1 ?_
    have fq1 : p1.toInt = 0 := b_eq rfl (by decide) q1
    refine lv_tableIn (x := 0) (off := 35) (tgt := 36) hx hb dX0_numberOf_1 (by decide) (by decide) (by decide) (by decide) ?_
    refine lv_aload_n hx hb dX0_numberOf_36 rfl (lv_at hl 0 rfl) ?_
    refine va_get (D := D) (ci := 0) (v := .ref (ad (40 + (5 * b + 0)))) (fs := (xfBook ad V b)) (C := RX0) (T := TX0) (N := 13) hx hb hg inX0 hown hK hP (38 + b) (xgBook hb2) rfl 0 (by decide) (hg _ w593) (fun _ h9 => h9) rfl dX0_numberOf_37 ?_
    refine lv_lload_n hx hb dX0_numberOf_40 rfl (lv_at hl 1 rfl) ?_
    have il2 : (5 * b + 0) < 10 := by (first | exact om_99c4753a5d76 hb2 | omega)
    refine gA_int (gA_runV (As := [.long p0]) (rest := []) (ci := 6) (q0 := (40 + (5 * b + 0))) hx hb hml hown hg hP hD hK hS hA hnw hgk (x_find l D ks H.size ad kk V L Z p0 ((5 * b + 0)) hMV (show (5 * b + 0) < 10 from by (first | exact om_99c4753a5d76 hb2 | omega))) w880 w881 w882 w168 w883 rfl (xgNames il2) hdV_yX6_find ⟨Nat.le_of_ble_eq_true rfl, Nat.le_of_ble_eq_true rfl⟩ rfl hl.1 rfl (Nat.le_of_ble_eq_true rfl) dX0_numberOf_41 ⟨Nat.le_of_ble_eq_true rfl, Nat.le_of_ble_eq_true rfl⟩) hP hD hK hS hA (fun z3 u4 H locs w5 hP hD hK hS => ?_)
    obtain ⟨rgz3, t6⟩ := w5
    have rgz3 : (-1) ≤ z3.toInt ∧ z3.toInt ≤ 23 := rgz3
    have t6 : z3.toInt < (V 43 (5 * b + 0)).toInt := t6
    exact W.iret (v := z3) hx hb hr (fun t ht hW => ⟨⟨z3, (), rfl, trivial, by rw [ht]; exact hP, va_K.moved hW.alike hK, hD⟩, hS.F ht⟩) hS.2.2 dX0_numberOf_44
  by_cases q7 : p1 = 1
  · refine g_top (v := 1) q7 ?_
    have fq7 : p1.toInt = 1 := b_eq rfl (by decide) q7
    refine lv_tableIn (x := 1) (off := 44) (tgt := 45) hx hb dX0_numberOf_1 (by decide) (by decide) (by decide) (by decide) ?_
    refine lv_aload_n hx hb dX0_numberOf_45 rfl (lv_at hl 0 rfl) ?_
    refine va_get (D := D) (ci := 0) (v := .ref (ad (40 + (5 * b + 1)))) (fs := (xfBook ad V b)) (C := RX0) (T := TX0) (N := 13) hx hb hg inX0 hown hK hP (38 + b) (xgBook hb2) rfl 1 (by decide) (hg _ w596) (fun _ h9 => h9) rfl dX0_numberOf_46 ?_
    refine lv_lload_n hx hb dX0_numberOf_49 rfl (lv_at hl 1 rfl) ?_
    have il8 : (5 * b + 1) < 10 := by (first | exact om_3891d7acfde9 hb2 | omega)
    refine gA_int (gA_runV (As := [.long p0]) (rest := []) (ci := 6) (q0 := (40 + (5 * b + 1))) hx hb hml hown hg hP hD hK hS hA hnw hgk (x_find l D ks H.size ad kk V L Z p0 ((5 * b + 1)) hMV (show (5 * b + 1) < 10 from by (first | exact om_3891d7acfde9 hb2 | omega))) w880 w881 w882 w168 w883 rfl (xgNames il8) hdV_yX6_find ⟨Nat.le_of_ble_eq_true rfl, Nat.le_of_ble_eq_true rfl⟩ rfl hl.1 rfl (Nat.le_of_ble_eq_true rfl) dX0_numberOf_50 ⟨Nat.le_of_ble_eq_true rfl, Nat.le_of_ble_eq_true rfl⟩) hP hD hK hS hA (fun z9 u10 H locs w11 hP hD hK hS => ?_)
    obtain ⟨rgz9, t12⟩ := w11
    have rgz9 : (-1) ≤ z9.toInt ∧ z9.toInt ≤ 23 := rgz9
    have t12 : z9.toInt < (V 43 (5 * b + 1)).toInt := t12
    exact W.iret (v := z9) hx hb hr (fun t ht hW => ⟨⟨z9, (), rfl, trivial, by rw [ht]; exact hP, va_K.moved hW.alike hK, hD⟩, hS.F ht⟩) hS.2.2 dX0_numberOf_53
  by_cases q13 : p1 = 2
  · refine g_top (v := 2) q13 ?_
    have fq13 : p1.toInt = 2 := b_eq rfl (by decide) q13
    refine lv_tableIn (x := 2) (off := 53) (tgt := 54) hx hb dX0_numberOf_1 (by decide) (by decide) (by decide) (by decide) ?_
    refine lv_aload_n hx hb dX0_numberOf_54 rfl (lv_at hl 0 rfl) ?_
    refine va_get (D := D) (ci := 0) (v := .ref (ad (40 + (5 * b + 2)))) (fs := (xfBook ad V b)) (C := RX0) (T := TX0) (N := 13) hx hb hg inX0 hown hK hP (38 + b) (xgBook hb2) rfl 2 (by decide) (hg _ w599) (fun _ h9 => h9) rfl dX0_numberOf_55 ?_
    refine lv_lload_n hx hb dX0_numberOf_58 rfl (lv_at hl 1 rfl) ?_
    have il14 : (5 * b + 2) < 10 := by (first | exact om_1478e52fbf50 hb2 | omega)
    refine gA_int (gA_runV (As := [.long p0]) (rest := []) (ci := 6) (q0 := (40 + (5 * b + 2))) hx hb hml hown hg hP hD hK hS hA hnw hgk (x_find l D ks H.size ad kk V L Z p0 ((5 * b + 2)) hMV (show (5 * b + 2) < 10 from by (first | exact om_1478e52fbf50 hb2 | omega))) w880 w881 w882 w168 w883 rfl (xgNames il14) hdV_yX6_find ⟨Nat.le_of_ble_eq_true rfl, Nat.le_of_ble_eq_true rfl⟩ rfl hl.1 rfl (Nat.le_of_ble_eq_true rfl) dX0_numberOf_59 ⟨Nat.le_of_ble_eq_true rfl, Nat.le_of_ble_eq_true rfl⟩) hP hD hK hS hA (fun z15 u16 H locs w17 hP hD hK hS => ?_)
    obtain ⟨rgz15, t18⟩ := w17
    have rgz15 : (-1) ≤ z15.toInt ∧ z15.toInt ≤ 23 := rgz15
    have t18 : z15.toInt < (V 43 (5 * b + 2)).toInt := t18
    exact W.iret (v := z15) hx hb hr (fun t ht hW => ⟨⟨z15, (), rfl, trivial, by rw [ht]; exact hP, va_K.moved hW.alike hK, hD⟩, hS.F ht⟩) hS.2.2 dX0_numberOf_62
  by_cases q19 : p1 = 3
  · refine g_top (v := 3) q19 ?_
    have fq19 : p1.toInt = 3 := b_eq rfl (by decide) q19
    refine lv_tableIn (x := 3) (off := 62) (tgt := 63) hx hb dX0_numberOf_1 (by decide) (by decide) (by decide) (by decide) ?_
    refine lv_aload_n hx hb dX0_numberOf_63 rfl (lv_at hl 0 rfl) ?_
    refine va_get (D := D) (ci := 0) (v := .ref (ad (40 + (5 * b + 3)))) (fs := (xfBook ad V b)) (C := RX0) (T := TX0) (N := 13) hx hb hg inX0 hown hK hP (38 + b) (xgBook hb2) rfl 3 (by decide) (hg _ w603) (fun _ h9 => h9) rfl dX0_numberOf_64 ?_
    refine lv_lload_n hx hb dX0_numberOf_67 rfl (lv_at hl 1 rfl) ?_
    have il20 : (5 * b + 3) < 10 := by (first | exact om_a4f98a710256 hb2 | omega)
    refine gA_int (gA_runV (As := [.long p0]) (rest := []) (ci := 6) (q0 := (40 + (5 * b + 3))) hx hb hml hown hg hP hD hK hS hA hnw hgk (x_find l D ks H.size ad kk V L Z p0 ((5 * b + 3)) hMV (show (5 * b + 3) < 10 from by (first | exact om_a4f98a710256 hb2 | omega))) w880 w881 w882 w168 w883 rfl (xgNames il20) hdV_yX6_find ⟨Nat.le_of_ble_eq_true rfl, Nat.le_of_ble_eq_true rfl⟩ rfl hl.1 rfl (Nat.le_of_ble_eq_true rfl) dX0_numberOf_68 ⟨Nat.le_of_ble_eq_true rfl, Nat.le_of_ble_eq_true rfl⟩) hP hD hK hS hA (fun z21 u22 H locs w23 hP hD hK hS => ?_)
    obtain ⟨rgz21, t24⟩ := w23
    have rgz21 : (-1) ≤ z21.toInt ∧ z21.toInt ≤ 23 := rgz21
    have t24 : z21.toInt < (V 43 (5 * b + 3)).toInt := t24
    exact W.iret (v := z21) hx hb hr (fun t ht hW => ⟨⟨z21, (), rfl, trivial, by rw [ht]; exact hP, va_K.moved hW.alike hK, hD⟩, hS.F ht⟩) hS.2.2 dX0_numberOf_71
  by_cases q25 : p1 = 4
  · refine g_top (v := 4) q25 ?_
    have fq25 : p1.toInt = 4 := b_eq rfl (by decide) q25
    refine lv_tableIn (x := 4) (off := 71) (tgt := 72) hx hb dX0_numberOf_1 (by decide) (by decide) (by decide) (by decide) ?_
    refine lv_aload_n hx hb dX0_numberOf_72 rfl (lv_at hl 0 rfl) ?_
    refine va_get (D := D) (ci := 0) (v := .ref (ad (40 + (5 * b + 4)))) (fs := (xfBook ad V b)) (C := RX0) (T := TX0) (N := 13) hx hb hg inX0 hown hK hP (38 + b) (xgBook hb2) rfl 4 (by decide) (hg _ w606) (fun _ h9 => h9) rfl dX0_numberOf_73 ?_
    refine lv_lload_n hx hb dX0_numberOf_76 rfl (lv_at hl 1 rfl) ?_
    have il26 : (5 * b + 4) < 10 := by (first | exact om_3aaf7229373d hb2 | omega)
    refine gA_int (gA_runV (As := [.long p0]) (rest := []) (ci := 6) (q0 := (40 + (5 * b + 4))) hx hb hml hown hg hP hD hK hS hA hnw hgk (x_find l D ks H.size ad kk V L Z p0 ((5 * b + 4)) hMV (show (5 * b + 4) < 10 from by (first | exact om_3aaf7229373d hb2 | omega))) w880 w881 w882 w168 w883 rfl (xgNames il26) hdV_yX6_find ⟨Nat.le_of_ble_eq_true rfl, Nat.le_of_ble_eq_true rfl⟩ rfl hl.1 rfl (Nat.le_of_ble_eq_true rfl) dX0_numberOf_77 ⟨Nat.le_of_ble_eq_true rfl, Nat.le_of_ble_eq_true rfl⟩) hP hD hK hS hA (fun z27 u28 H locs w29 hP hD hK hS => ?_)
    obtain ⟨rgz27, t30⟩ := w29
    have rgz27 : (-1) ≤ z27.toInt ∧ z27.toInt ≤ 23 := rgz27
    have t30 : z27.toInt < (V 43 (5 * b + 4)).toInt := t30
    exact W.iret (v := z27) hx hb hr (fun t ht hW => ⟨⟨z27, (), rfl, trivial, by rw [ht]; exact hP, va_K.moved hW.alike hK, hD⟩, hS.F ht⟩) hS.2.2 dX0_numberOf_80
  refine lv_tableOut (x := p1) (tgt := 81) hx hb dX0_numberOf_1 (tab_out p1 4 (by decide) (fun k hk => match k, hk with | 0, _ => q1 | 1, _ => q7 | 2, _ => q13 | 3, _ => q19 | 4, _ => q25 | k + 5, hk => absurd hk (by omega))) (by decide) ?_
  refine lv_iconst (v := (-1)) hx hb dX0_numberOf_81 (by decide) ?_
  exact W.iret (v := (-1)) hx hb hr (fun t ht hW => ⟨⟨(-1), (), rfl, trivial, by rw [ht]; exact hP, va_K.moved hW.alike hK, hD⟩, hS.F ht⟩) hS.2.2 dX0_numberOf_82
abbrev r_x_isTold : Room := { frames := 1, cells := 0, slots := 0, locals := 23 }
abbrev q_x_isTold (D : va_G) (ks : KS) (ad : Nat → Nat) (kk : Nat → ClassId) (V : Vf) (L : Lf) (Z : XZ) (p0 : Int64) (b : Nat) (A : Nat → Prop) : Array Value → State → Outcome → State → Prop := va_Qi (fun (r : Int32) (_ : Unit) => (0 ≤ r.toInt ∧ r.toInt ≤ 1)) (fun _ t => gq D A (xw ad kk V L Z) (xty kk Z) t) A
set_option maxHeartbeats 4000000 in
set_option maxRecDepth 100000 in
theorem x_isTold (l : Launch) (D : va_G) (ks : KS) (sz : Nat) (ad : Nat → Nat) (kk : Nat → ClassId) (V : Vf) (L : Lf) (Z : XZ) (p0 : Int64) (b : Nat) (hMV : rgd bX V) (hb2 : b < 2)  : Met l yX0_isTold (Cond.code yX0_isTold cX0_isTold 3 (some .boolean) :: GW) r_x_isTold (va_Pc [.ref (ad (38 + b)), .long p0] (gp D ks (xw ad kk V L Z) (xty kk Z) sz)) (q_x_isTold D ks ad kk V L Z p0 b (va_A (xw ad kk V L Z) sz)) 0 0 (va_A (xw ad kk V L Z) sz) := by
  refine g_met (q_x_isTold D ks ad kk V L Z p0 b) (by decide) (Nat.le_of_ble_eq_true rfl) ?_
  intro p e s m below meth c A ls H locs hx hb hr hml hown hg hlocks hin hnw hgk hP hK hD hS hA hl
  have hown : s.vm.findClass RX0 = some m.cls := hown
  have hl : lv_has ls 3 [(0, .ref (ad (38 + b))), (1, .long p0)] := hl
  have hP : va_P D vwCl (xw ad kk V L Z) H := hP
  have hD : va_D A (xw ad kk V L Z) := hD
  have hK : va_K D vwCl (xty kk Z) s := hK
  refine lv_aload_n hx hb dX0_isTold_0 rfl (lv_at hl 0 rfl) ?_
  refine va_get (D := D) (ci := 0) (v := .ref (ad (40 + (5 * b + 0)))) (fs := (xfBook ad V b)) (C := RX0) (T := TX0) (N := 13) hx hb hg inX0 hown hK hP (38 + b) (xgBook hb2) rfl 0 (by decide) (hg _ w593) (fun _ h9 => h9) rfl dX0_isTold_1 ?_
  refine lv_lload_n hx hb dX0_isTold_4 rfl (lv_at hl 1 rfl) ?_
  have il1 : (5 * b + 0) < 10 := by (first | exact om_99c4753a5d76 hb2 | omega)
  refine gA_int (gA_runV (As := [.long p0]) (rest := []) (ci := 6) (q0 := (40 + (5 * b + 0))) hx hb hml hown hg hP hD hK hS hA hnw hgk (x_find l D ks H.size ad kk V L Z p0 ((5 * b + 0)) hMV (show (5 * b + 0) < 10 from by (first | exact om_99c4753a5d76 hb2 | omega))) w880 w881 w882 w168 w883 rfl (xgNames il1) hdV_yX6_find ⟨Nat.le_of_ble_eq_true rfl, Nat.le_of_ble_eq_true rfl⟩ rfl hl.1 rfl (Nat.le_of_ble_eq_true rfl) dX0_isTold_5 ⟨Nat.le_of_ble_eq_true rfl, Nat.le_of_ble_eq_true rfl⟩) hP hD hK hS hA (fun z2 u3 H locs w4 hP hD hK hS => ?_)
  obtain ⟨rgz2, t5⟩ := w4
  have rgz2 : (-1) ≤ z2.toInt ∧ z2.toInt ≤ 23 := rgz2
  have t5 : z2.toInt < (V 43 (5 * b + 0)).toInt := t5
  refine lv_iconst (v := (-1)) hx hb dX0_isTold_8 (by decide) ?_
  refine lv_icmp_ne (tgt := 36) hx hb dX0_isTold_9 (by decide) (fun c6 => ?_) (fun c6 => ?_)
  · skip
    have f7 : z2.toInt ≠ (-1) := b_neq rfl (by decide) c6
    refine lv_iconst (v := 1) hx hb dX0_isTold_36 (by decide) ?_
    refine lv_goto (tgt := 41) hx hb dX0_isTold_37 (by decide) ?_
    exact W.zret (v := 1) hx hb hr rfl (fun t ht hW => ⟨⟨1, (), rfl, (by decide), by rw [ht]; exact hP, va_K.moved hW.alike hK, hD⟩, hS.F ht⟩) hS.2.2 dX0_isTold_41
  · skip
    have f8 : z2.toInt = (-1) := b_eq rfl (by decide) c6
    refine lv_aload_n hx hb dX0_isTold_12 rfl (lv_at hl 0 rfl) ?_
    refine va_get (D := D) (ci := 0) (v := .ref (ad (40 + (5 * b + 1)))) (fs := (xfBook ad V b)) (C := RX0) (T := TX0) (N := 13) hx hb hg inX0 hown hK hP (38 + b) (xgBook hb2) rfl 1 (by decide) (hg _ w596) (fun _ h9 => h9) rfl dX0_isTold_13 ?_
    refine lv_lload_n hx hb dX0_isTold_16 rfl (lv_at hl 1 rfl) ?_
    have il9 : (5 * b + 1) < 10 := by (first | exact om_3891d7acfde9 hb2 | omega)
    refine gA_int (gA_runV (As := [.long p0]) (rest := []) (ci := 6) (q0 := (40 + (5 * b + 1))) hx hb hml hown hg hP hD hK hS hA hnw hgk (x_find l D ks H.size ad kk V L Z p0 ((5 * b + 1)) hMV (show (5 * b + 1) < 10 from by (first | exact om_3891d7acfde9 hb2 | omega))) w880 w881 w882 w168 w883 rfl (xgNames il9) hdV_yX6_find ⟨Nat.le_of_ble_eq_true rfl, Nat.le_of_ble_eq_true rfl⟩ rfl hl.1 rfl (Nat.le_of_ble_eq_true rfl) dX0_isTold_17 ⟨Nat.le_of_ble_eq_true rfl, Nat.le_of_ble_eq_true rfl⟩) hP hD hK hS hA (fun z10 u11 H locs w12 hP hD hK hS => ?_)
    obtain ⟨rgz10, t13⟩ := w12
    have rgz10 : (-1) ≤ z10.toInt ∧ z10.toInt ≤ 23 := rgz10
    have t13 : z10.toInt < (V 43 (5 * b + 1)).toInt := t13
    refine lv_iconst (v := (-1)) hx hb dX0_isTold_20 (by decide) ?_
    refine lv_icmp_ne (tgt := 36) hx hb dX0_isTold_21 (by decide) (fun c14 => ?_) (fun c14 => ?_)
    · skip
      have f15 : z10.toInt ≠ (-1) := b_neq rfl (by decide) c14
      refine lv_iconst (v := 1) hx hb dX0_isTold_36 (by decide) ?_
      refine lv_goto (tgt := 41) hx hb dX0_isTold_37 (by decide) ?_
      exact W.zret (v := 1) hx hb hr rfl (fun t ht hW => ⟨⟨1, (), rfl, (by decide), by rw [ht]; exact hP, va_K.moved hW.alike hK, hD⟩, hS.F ht⟩) hS.2.2 dX0_isTold_41
    · skip
      have f16 : z10.toInt = (-1) := b_eq rfl (by decide) c14
      refine lv_aload_n hx hb dX0_isTold_24 rfl (lv_at hl 0 rfl) ?_
      refine va_get (D := D) (ci := 0) (v := .ref (ad (40 + (5 * b + 2)))) (fs := (xfBook ad V b)) (C := RX0) (T := TX0) (N := 13) hx hb hg inX0 hown hK hP (38 + b) (xgBook hb2) rfl 2 (by decide) (hg _ w599) (fun _ h9 => h9) rfl dX0_isTold_25 ?_
      refine lv_lload_n hx hb dX0_isTold_28 rfl (lv_at hl 1 rfl) ?_
      have il17 : (5 * b + 2) < 10 := by (first | exact om_1478e52fbf50 hb2 | omega)
      refine gA_int (gA_runV (As := [.long p0]) (rest := []) (ci := 6) (q0 := (40 + (5 * b + 2))) hx hb hml hown hg hP hD hK hS hA hnw hgk (x_find l D ks H.size ad kk V L Z p0 ((5 * b + 2)) hMV (show (5 * b + 2) < 10 from by (first | exact om_1478e52fbf50 hb2 | omega))) w880 w881 w882 w168 w883 rfl (xgNames il17) hdV_yX6_find ⟨Nat.le_of_ble_eq_true rfl, Nat.le_of_ble_eq_true rfl⟩ rfl hl.1 rfl (Nat.le_of_ble_eq_true rfl) dX0_isTold_29 ⟨Nat.le_of_ble_eq_true rfl, Nat.le_of_ble_eq_true rfl⟩) hP hD hK hS hA (fun z18 u19 H locs w20 hP hD hK hS => ?_)
      obtain ⟨rgz18, t21⟩ := w20
      have rgz18 : (-1) ≤ z18.toInt ∧ z18.toInt ≤ 23 := rgz18
      have t21 : z18.toInt < (V 43 (5 * b + 2)).toInt := t21
      refine lv_iconst (v := (-1)) hx hb dX0_isTold_32 (by decide) ?_
      refine lv_icmp_eq (tgt := 40) hx hb dX0_isTold_33 (by decide) (fun c22 => ?_) (fun c22 => ?_)
      · skip
        have f23 : z18.toInt = (-1) := b_eq rfl (by decide) c22
        refine lv_iconst (v := 0) hx hb dX0_isTold_40 (by decide) ?_
        exact W.zret (v := 0) hx hb hr rfl (fun t ht hW => ⟨⟨0, (), rfl, (by decide), by rw [ht]; exact hP, va_K.moved hW.alike hK, hD⟩, hS.F ht⟩) hS.2.2 dX0_isTold_41
      · skip
        have f24 : z18.toInt ≠ (-1) := b_neq rfl (by decide) c22
        refine lv_iconst (v := 1) hx hb dX0_isTold_36 (by decide) ?_
        refine lv_goto (tgt := 41) hx hb dX0_isTold_37 (by decide) ?_
        exact W.zret (v := 1) hx hb hr rfl (fun t ht hW => ⟨⟨1, (), rfl, (by decide), by rw [ht]; exact hP, va_K.moved hW.alike hK, hD⟩, hS.F ht⟩) hS.2.2 dX0_isTold_41
abbrev r_x_candidates : Room := { frames := 1, cells := 0, slots := 0, locals := 22 }
abbrev q_x_candidates (D : va_G) (ks : KS) (ad : Nat → Nat) (kk : Nat → ClassId) (V : Vf) (L : Lf) (Z : XZ) (p0 : Int32) (p1 : Int32) (b : Nat) (A : Nat → Prop) : Array Value → State → Outcome → State → Prop := va_Qi (fun (r : Int32) (_ : Unit) => True) (fun _ t => gq D A (xw ad kk V L Z) (xty kk Z) t) A
abbrev r_x_isFor : Room := { frames := 0, cells := 0, slots := 0, locals := 0 }
abbrev q_x_isFor (D : va_G) (ks : KS) (ad : Nat → Nat) (kk : Nat → ClassId) (V : Vf) (L : Lf) (Z : XZ) (p1 : Int32) (p2 : Int32) (p3 : Int32) (b : Nat) (gw : Nat) (A : Nat → Prop) : Array Value → State → Outcome → State → Prop := va_Qi (fun (r : Int32) (_ : Unit) => (0 ≤ r.toInt ∧ r.toInt ≤ 1)) (fun _ t => gq D A (xw ad kk V L Z) (xty kk Z) t) A
set_option maxHeartbeats 4000000 in
set_option maxRecDepth 100000 in
theorem x_isFor (l : Launch) (D : va_G) (ks : KS) (sz : Nat) (ad : Nat → Nat) (kk : Nat → ClassId) (V : Vf) (L : Lf) (Z : XZ) (p1 : Int32) (p2 : Int32) (p3 : Int32) (b : Nat) (gw : Nat) (hMV : rgd bX V) (rg_p2 : 0 ≤ p2.toInt ∧ p2.toInt ≤ 23) (hb2 : b < 2) (hgw : gw < 24)  : Met l yX0_isFor (Cond.code yX0_isFor cX0_isFor 5 (some .boolean) :: GW) r_x_isFor (va_Pc [.ref (ad (38 + b)), .ref (ad (312 + gw)), .int p1, .int p2, .int p3] (gp D ks (xw ad kk V L Z) (xty kk Z) sz)) (q_x_isFor D ks ad kk V L Z p1 p2 p3 b gw (va_A (xw ad kk V L Z) sz)) 0 0 (va_A (xw ad kk V L Z) sz) := by
  refine g_met (q_x_isFor D ks ad kk V L Z p1 p2 p3 b gw) (by decide) (Nat.le_of_ble_eq_true rfl) ?_
  intro p e s m below meth c A ls H locs hx hb hr hml hown hg hlocks hin hnw hgk hP hK hD hS hA hl
  have hown : s.vm.findClass RX0 = some m.cls := hown
  have hl : lv_has ls 5 [(0, .ref (ad (38 + b))), (1, .ref (ad (312 + gw))), (2, .int p1), (3, .int p2), (4, .int p3)] := hl
  have hP : va_P D vwCl (xw ad kk V L Z) H := hP
  have hD : va_D A (xw ad kk V L Z) := hD
  have hK : va_K D vwCl (xty kk Z) s := hK
  refine lv_aload_n hx hb dX0_isFor_0 rfl (lv_at hl 1 rfl) ?_
  refine va_getN (D := D) (ci := 10) (v := .int (V 65 gw)) (fs := (xfWrap V gw)) (C := RX10) (T := TX10) (N := 5) hx hb hg inX10 hown hK hP (312 + gw) (xgWrap hgw) rfl 3 (by decide) (hnw.use 578 n578 rfl) (fun _ h9 => h9) rfl dX0_isFor_1 ?_
  refine lv_iload_n hx hb dX0_isFor_4 rfl (lv_at hl 2 rfl) ?_
  refine lv_icmp_ne (tgt := 40) hx hb dX0_isFor_5 (by decide) (fun c1 => ?_) (fun c1 => ?_)
  · skip
    have f2 : ((V 65 gw)).toInt ≠ p1.toInt := b_neq rfl rfl c1
    refine lv_iconst (v := 0) hx hb dX0_isFor_40 (by decide) ?_
    exact W.zret (v := 0) hx hb hr rfl (fun t ht hW => ⟨⟨0, (), rfl, (by decide), by rw [ht]; exact hP, va_K.moved hW.alike hK, hD⟩, hS.F ht⟩) hS.2.2 dX0_isFor_41
  · skip
    have f3 : ((V 65 gw)).toInt = p1.toInt := b_eq rfl rfl c1
    refine lv_aload_n hx hb dX0_isFor_8 rfl (lv_at hl 1 rfl) ?_
    refine va_getN (D := D) (ci := 10) (v := .int (V 63 gw)) (fs := (xfWrap V gw)) (C := RX10) (T := TX10) (N := 5) hx hb hg inX10 hown hK hP (312 + gw) (xgWrap hgw) rfl 1 (by decide) (hnw.use 576 n576 rfl) (fun _ h9 => h9) rfl dX0_isFor_9 ?_
    refine lv_iload hx hb dX0_isFor_12 (lv_at hl 4 rfl) ?_
    refine lv_icmp_ne (tgt := 40) hx hb dX0_isFor_14 (by decide) (fun c4 => ?_) (fun c4 => ?_)
    · skip
      have f5 : ((V 63 gw)).toInt ≠ p3.toInt := b_neq rfl rfl c4
      refine lv_iconst (v := 0) hx hb dX0_isFor_40 (by decide) ?_
      exact W.zret (v := 0) hx hb hr rfl (fun t ht hW => ⟨⟨0, (), rfl, (by decide), by rw [ht]; exact hP, va_K.moved hW.alike hK, hD⟩, hS.F ht⟩) hS.2.2 dX0_isFor_41
    · skip
      have f6 : ((V 63 gw)).toInt = p3.toInt := b_eq rfl rfl c4
      refine lv_aload_n hx hb dX0_isFor_17 rfl (lv_at hl 0 rfl) ?_
      refine va_get (D := D) (ci := 0) (v := .ref (ad (64 + b))) (fs := (xfBook ad V b)) (C := RX0) (T := TX0) (N := 13) hx hb hg inX0 hown hK hP (38 + b) (xgBook hb2) rfl 7 (by decide) (hg _ w614) (fun _ h9 => h9) rfl dX0_isFor_18 ?_
      refine lv_iload_n hx hb dX0_isFor_21 rfl (lv_at hl 3 rfl) ?_
      have il7 : b < 2 := by (first | exact om_f940a4667dd6 hb2 | omega)
      refine va_aldq (D := D) (i := p2) hx hb hK hP (64 + b) (57 + b) (xgcomps il7) (xtcomps il7) (i_in (a := p2.toInt) rfl (by (first | exact om_dbb25e99819b rg_p2.1 rg_p2.2 | omega))) dX0_isFor_22 ?_
      have kc8 := i_clamp (x := p2) rfl (by (first | exact om_eafa9039069c rg_p2.1 | omega))
      refine g_topv (v := .ref (ad (72 + (24 * b + (Int32.toNatClampNeg p2))))) (congrArg va_rf (if_pos (by omega))) ?_
      have il9 : (24 * b + (Int32.toNatClampNeg p2)) < 48 := by (first | exact om_22346e364ab0 rg_p2.2 hb2 kc8 | omega)
      refine va_getN (D := D) (ci := 3) (v := .int (V 50 (24 * b + (Int32.toNatClampNeg p2)))) (fs := (xfComp ad V (24 * b + (Int32.toNatClampNeg p2)))) (C := RX3) (T := TX3) (N := 13) hx hb hg inX3 hown hK hP (72 + (24 * b + (Int32.toNatClampNeg p2))) (xgComp il9) rfl 5 (by decide) (hnw.use 517 n517 rfl) (fun _ h9 => h9) rfl dX0_isFor_23 ?_
      refine lv_aload_n hx hb dX0_isFor_26 rfl (lv_at hl 1 rfl) ?_
      refine va_getN (D := D) (ci := 10) (v := .int (V 62 gw)) (fs := (xfWrap V gw)) (C := RX10) (T := TX10) (N := 5) hx hb hg inX10 hown hK hP (312 + gw) (xgWrap hgw) rfl 0 (by decide) (hnw.use 575 n575 rfl) (fun _ h9 => h9) rfl dX0_isFor_27 ?_
      refine lv_ishr hx hb dX0_isFor_30 ?_
      refine lv_topi (fun z10 ez10 => ?_)
      refine lv_iconst (v := 1) hx hb dX0_isFor_31 (by decide) ?_
      refine lv_iand hx hb dX0_isFor_32 ?_
      refine lv_topi (fun z11 ez11 => ?_)
      have hz11 : 0 ≤ z11.toInt ∧ z11.toInt ≤ 1 := and_m ez11 (by decide)
      refine lv_if_eq (tgt := 40) hx hb dX0_isFor_33 (by decide) (fun c12 => ?_) (fun c12 => ?_)
      · skip
        have f13 : z11.toInt = 0 := b_eq rfl (by decide) c12
        refine lv_iconst (v := 0) hx hb dX0_isFor_40 (by decide) ?_
        exact W.zret (v := 0) hx hb hr rfl (fun t ht hW => ⟨⟨0, (), rfl, (by decide), by rw [ht]; exact hP, va_K.moved hW.alike hK, hD⟩, hS.F ht⟩) hS.2.2 dX0_isFor_41
      · skip
        have f14 : z11.toInt ≠ 0 := b_neq rfl (by decide) c12
        refine lv_iconst (v := 1) hx hb dX0_isFor_36 (by decide) ?_
        refine lv_goto (tgt := 41) hx hb dX0_isFor_37 (by decide) ?_
        exact W.zret (v := 1) hx hb hr rfl (fun t ht hW => ⟨⟨1, (), rfl, (by decide), by rw [ht]; exact hP, va_K.moved hW.alike hK, hD⟩, hS.F ht⟩) hS.2.2 dX0_isFor_41
abbrev r_x_aroundsOf : Room := { frames := 0, cells := 0, slots := 0, locals := 0 }
abbrev q_x_aroundsOf (D : va_G) (ks : KS) (ad : Nat → Nat) (kk : Nat → ClassId) (V : Vf) (L : Lf) (Z : XZ) (p0 : Int32) (b : Nat) (A : Nat → Prop) : Array Value → State → Outcome → State → Prop := va_Qi (fun (r : Int32) (_ : Unit) => True) (fun _ t => gq D A (xw ad kk V L Z) (xty kk Z) t) A
set_option maxHeartbeats 4000000 in
set_option maxRecDepth 100000 in
theorem x_aroundsOf (l : Launch) (D : va_G) (ks : KS) (sz : Nat) (ad : Nat → Nat) (kk : Nat → ClassId) (V : Vf) (L : Lf) (Z : XZ) (p0 : Int32) (b : Nat) (hMV : rgd bX V) (hb2 : b < 2)  : Met l yX0_aroundsOf (Cond.code yX0_aroundsOf cX0_aroundsOf 4 (some .int) :: GW) r_x_aroundsOf (va_Pc [.ref (ad (38 + b)), .int p0] (gp D ks (xw ad kk V L Z) (xty kk Z) sz)) (q_x_aroundsOf D ks ad kk V L Z p0 b (va_A (xw ad kk V L Z) sz)) 0 0 (va_A (xw ad kk V L Z) sz) := by
  refine g_met (q_x_aroundsOf D ks ad kk V L Z p0 b) (by decide) (Nat.le_of_ble_eq_true rfl) ?_
  intro p e s m below meth c A ls H locs hx hb hr hml hown hg hlocks hin hnw hgk hP hK hD hS hA hl
  have hown : s.vm.findClass RX0 = some m.cls := hown
  have hl : lv_has ls 4 [(0, .ref (ad (38 + b))), (1, .int p0)] := hl
  have hP : va_P D vwCl (xw ad kk V L Z) H := hP
  have hD : va_D A (xw ad kk V L Z) := hD
  have hK : va_K D vwCl (xty kk Z) s := hK
  refine lv_iconst (v := 0) hx hb dX0_aroundsOf_0 (by decide) ?_
  refine lv_istore_n (lv' := [(2, .int 0), (0, .ref (ad (38 + b))), (1, .int p0)]) hx hb dX0_aroundsOf_1 rfl hl (by decide) rfl (fun ls hl => ?_)
  refine lv_iconst (v := 0) hx hb dX0_aroundsOf_2 (by decide) ?_
  refine lv_istore_n (lv' := [(3, .int 0), (2, .int 0), (0, .ref (ad (38 + b))), (1, .int p0)]) hx hb dX0_aroundsOf_3 rfl hl (by decide) rfl (fun ls hl => ?_)
  have lp3 : ∀ (fulp3 : Nat) (y1 : Int32) (y2 : Int32) (H : Heap) (locs : List Loc) (ls : Array Slot), 0 ≤ y1.toInt ∧ y1.toInt ≤ 12 → 0 ≤ y2.toInt ∧ y2.toInt ≤ 12 → y2.toInt ≤ y1.toInt → 12 - y1.toInt < (fulp3 : Int) → va_P D vwCl (xw ad kk V L Z) H → va_D A (xw ad kk V L Z) → va_S A s.heap H locs → lv_has ls 4 [(3, .int y1), (2, .int y2), (0, .ref (ad (38 + b))), (1, .int p0)] → W p l e r_x_aroundsOf s m ([.ref (ad (38 + b)), .int p0] : List Value).toArray below meth c H locs 0 0 (MQ below (q_x_aroundsOf D ks ad kk V L Z p0 b A) ([.ref (ad (38 + b)), .int p0] : List Value).toArray s 0 0 A) (F0 m 4 ls []) := by
    intro fulp3
    induction fulp3 with
    | zero =>
      intro y1 y2 H locs ls klp3_0 klp3_1 xlp3_0 hn  hP hD hS hl
      exfalso; (first | exact om_b9de4c342026 klp3_0.2 hn | omega)
    | succ fulp3 ihlp3 =>
      intro y1 y2 H locs ls klp3_0 klp3_1 xlp3_0 hn  hP hD hS hl
      refine lv_iload_n hx hb dX0_aroundsOf_4 rfl (lv_at hl 0 rfl) ?_
      refine lv_aload_n hx hb dX0_aroundsOf_5 rfl (lv_at hl 2 rfl) ?_
      refine va_get (D := D) (ci := 0) (v := .int (V 41 b)) (fs := (xfBook ad V b)) (C := RX0) (T := TX0) (N := 13) hx hb hg inX0 hown hK hP (38 + b) (xgBook hb2) rfl 11 (by decide) (hg _ w625) (fun _ h9 => h9) rfl dX0_aroundsOf_6 ?_
      have r4 : 0 ≤ ((V 41 b)).toInt ∧ ((V 41 b)).toInt ≤ 12 := hMV 41 b
      refine lv_icmp_ge (tgt := 47) hx hb dX0_aroundsOf_9 (by decide) (fun c5 => ?_) (fun c5 => ?_)
      · skip
        have f6 : ((V 41 b)).toInt ≤ y1.toInt := b_le rfl rfl c5
        refine lv_iload_n hx hb dX0_aroundsOf_47 rfl (lv_at hl 1 rfl) ?_
        exact W.iret (v := y2) hx hb hr (fun t ht hW => ⟨⟨y2, (), rfl, trivial, by rw [ht]; exact hP, va_K.moved hW.alike hK, hD⟩, hS.F ht⟩) hS.2.2 dX0_aroundsOf_48
      · skip
        have f7 : y1.toInt < ((V 41 b)).toInt := b_nle rfl rfl c5
        refine lv_aload_n hx hb dX0_aroundsOf_12 rfl (lv_at hl 2 rfl) ?_
        refine va_get (D := D) (ci := 0) (v := .ref (ad (66 + b))) (fs := (xfBook ad V b)) (C := RX0) (T := TX0) (N := 13) hx hb hg inX0 hown hK hP (38 + b) (xgBook hb2) rfl 8 (by decide) (hg _ w619) (fun _ h9 => h9) rfl dX0_aroundsOf_13 ?_
        refine lv_iload_n hx hb dX0_aroundsOf_16 rfl (lv_at hl 0 rfl) ?_
        have il8 : b < 2 := by (first | exact om_f940a4667dd6 hb2 | omega)
        refine va_aldq (D := D) (i := y1) hx hb hK hP (66 + b) (59 + b) (xgwrapsA il8) (xtwrapsA il8) (i_in (a := y1.toInt) rfl (by (first | exact om_90c9ae59974b klp3_0.1 r4.2 f7 | omega))) dX0_aroundsOf_17 ?_
        have kc9 := i_clamp (x := y1) rfl (by (first | exact om_eafa9039069c klp3_0.1 | omega))
        refine g_topv (v := .ref (ad (312 + (12 * b + (Int32.toNatClampNeg y1))))) (congrArg va_rf (if_pos (by omega))) ?_
        have il10 : (12 * b + (Int32.toNatClampNeg y1)) < 24 := by (first | exact om_f893fc5824a8 hb2 r4.2 f7 kc9 | omega)
        refine va_getN (D := D) (ci := 10) (v := .int (V 65 (12 * b + (Int32.toNatClampNeg y1)))) (fs := (xfWrap V (12 * b + (Int32.toNatClampNeg y1)))) (C := RX10) (T := TX10) (N := 5) hx hb hg inX10 hown hK hP (312 + (12 * b + (Int32.toNatClampNeg y1))) (xgWrap il10) rfl 3 (by decide) (hnw.use 578 n578 rfl) (fun _ h9 => h9) rfl dX0_aroundsOf_18 ?_
        refine lv_iconst (v := 1) hx hb dX0_aroundsOf_21 (by decide) ?_
        refine lv_icmp_ne (tgt := 41) hx hb dX0_aroundsOf_22 (by decide) (fun c11 => ?_) (fun c11 => ?_)
        · skip
          have f12 : ((V 65 (12 * b + (Int32.toNatClampNeg y1)))).toInt ≠ 1 := b_neq rfl (by decide) c11
          obtain ⟨z13, ez13⟩ : ∃ y : Int32, y = y1 + 1 := ⟨_, rfl⟩
          have hz13 : z13.toInt = y1.toInt + 1 := i_add ez13 rfl (by decide) (by (first | exact om_7992c83b4b8b klp3_0.1 r4.2 f7 | omega))
          refine lv_iinc (v := z13) (lv' := [(3, .int z13), (2, .int y2), (0, .ref (ad (38 + b))), (1, .int p0)]) hx hb dX0_aroundsOf_41 hl (k := 0) rfl (by rw [ez13]; rfl) (by decide) rfl (fun ls hl => ?_)
          refine lv_goto (tgt := 4) hx hb dX0_aroundsOf_44 (by decide) ?_
          exact ihlp3 z13 y2 H locs ls (by (first | exact om_56249b68a5fe klp3_0.1 r4.2 f7 hz13 | omega)) (by (first | exact om_71ce40002410 klp3_1.1 xlp3_0 r4.2 f7 | omega)) (show y2.toInt ≤ z13.toInt from by (first | exact om_f75a30b4c815 xlp3_0 hz13 | omega)) (by (first | exact om_95514e7aa9e9 hn hz13 | omega)) hP hD hS (lv_sub hl [0, 1, 2, 3] rfl)
        · skip
          have f14 : ((V 65 (12 * b + (Int32.toNatClampNeg y1)))).toInt = 1 := b_eq rfl (by decide) c11
          refine lv_aload_n hx hb dX0_aroundsOf_25 rfl (lv_at hl 2 rfl) ?_
          refine va_get (D := D) (ci := 0) (v := .ref (ad (66 + b))) (fs := (xfBook ad V b)) (C := RX0) (T := TX0) (N := 13) hx hb hg inX0 hown hK hP (38 + b) (xgBook hb2) rfl 8 (by decide) (hg _ w619) (fun _ h9 => h9) rfl dX0_aroundsOf_26 ?_
          refine lv_iload_n hx hb dX0_aroundsOf_29 rfl (lv_at hl 0 rfl) ?_
          refine va_aldq (D := D) (i := y1) hx hb hK hP (66 + b) (59 + b) (xgwrapsA il8) (xtwrapsA il8) (i_in (a := y1.toInt) rfl (by (first | exact om_90c9ae59974b klp3_0.1 r4.2 f7 | omega))) dX0_aroundsOf_30 ?_
          refine g_topv (v := .ref (ad (312 + (12 * b + (Int32.toNatClampNeg y1))))) (congrArg va_rf (if_pos (by omega))) ?_
          refine va_getN (D := D) (ci := 10) (v := .int (V 63 (12 * b + (Int32.toNatClampNeg y1)))) (fs := (xfWrap V (12 * b + (Int32.toNatClampNeg y1)))) (C := RX10) (T := TX10) (N := 5) hx hb hg inX10 hown hK hP (312 + (12 * b + (Int32.toNatClampNeg y1))) (xgWrap il10) rfl 1 (by decide) (hnw.use 576 n576 rfl) (fun _ h9 => h9) rfl dX0_aroundsOf_31 ?_
          refine lv_iload_n hx hb dX0_aroundsOf_34 rfl (lv_at hl 3 rfl) ?_
          refine lv_icmp_ne (tgt := 41) hx hb dX0_aroundsOf_35 (by decide) (fun c15 => ?_) (fun c15 => ?_)
          · skip
            have f16 : ((V 63 (12 * b + (Int32.toNatClampNeg y1)))).toInt ≠ p0.toInt := b_neq rfl rfl c15
            obtain ⟨z17, ez17⟩ : ∃ y : Int32, y = y1 + 1 := ⟨_, rfl⟩
            have hz17 : z17.toInt = y1.toInt + 1 := i_add ez17 rfl (by decide) (by (first | exact om_7992c83b4b8b klp3_0.1 r4.2 f7 | omega))
            refine lv_iinc (v := z17) (lv' := [(3, .int z17), (2, .int y2), (0, .ref (ad (38 + b))), (1, .int p0)]) hx hb dX0_aroundsOf_41 hl (k := 0) rfl (by rw [ez17]; rfl) (by decide) rfl (fun ls hl => ?_)
            refine lv_goto (tgt := 4) hx hb dX0_aroundsOf_44 (by decide) ?_
            exact ihlp3 z17 y2 H locs ls (by (first | exact om_56249b68a5fe klp3_0.1 r4.2 f7 hz17 | omega)) (by (first | exact om_71ce40002410 klp3_1.1 xlp3_0 r4.2 f7 | omega)) (show y2.toInt ≤ z17.toInt from by (first | exact om_f75a30b4c815 xlp3_0 hz17 | omega)) (by (first | exact om_95514e7aa9e9 hn hz17 | omega)) hP hD hS (lv_sub hl [0, 1, 2, 3] rfl)
          · skip
            have f18 : ((V 63 (12 * b + (Int32.toNatClampNeg y1)))).toInt = p0.toInt := b_eq rfl rfl c15
            obtain ⟨z19, ez19⟩ : ∃ y : Int32, y = y2 + 1 := ⟨_, rfl⟩
            have hz19 : z19.toInt = y2.toInt + 1 := i_add ez19 rfl (by decide) (by (first | exact om_ba20663fa7a6 klp3_1.1 xlp3_0 r4.2 f7 | omega))
            refine lv_iinc (v := z19) (lv' := [(2, .int z19), (3, .int y1), (0, .ref (ad (38 + b))), (1, .int p0)]) hx hb dX0_aroundsOf_38 hl (k := 1) rfl (by rw [ez19]; rfl) (by decide) rfl (fun ls hl => ?_)
            obtain ⟨z20, ez20⟩ : ∃ y : Int32, y = y1 + 1 := ⟨_, rfl⟩
            have hz20 : z20.toInt = y1.toInt + 1 := i_add ez20 rfl (by decide) (by (first | exact om_7992c83b4b8b klp3_0.1 r4.2 f7 | omega))
            refine lv_iinc (v := z20) (lv' := [(3, .int z20), (2, .int z19), (0, .ref (ad (38 + b))), (1, .int p0)]) hx hb dX0_aroundsOf_41 hl (k := 1) rfl (by rw [ez20]; rfl) (by decide) rfl (fun ls hl => ?_)
            refine lv_goto (tgt := 4) hx hb dX0_aroundsOf_44 (by decide) ?_
            exact ihlp3 z20 z19 H locs ls (by (first | exact om_56249b68a5fe klp3_0.1 r4.2 f7 hz20 | omega)) (by (first | exact om_ebad2ea2b73e klp3_1.1 xlp3_0 r4.2 f7 hz19 | omega)) (show z19.toInt ≤ z20.toInt from by (first | exact om_953ed16b636a xlp3_0 hz19 hz20 | omega)) (by (first | exact om_95514e7aa9e9 hn hz20 | omega)) hP hD hS (lv_sub hl [0, 1, 2, 3] rfl)
  have r21 : Int32.toInt 0 = 0 := by decide
  exact lp3 ((12 - (Int32.toInt 0) + 1 : Int).toNat) 0 0 H locs ls (by decide) (by decide) (show (Int32.toInt 0) ≤ (Int32.toInt 0) from by (first | exact om_5977f3d8a10f | omega)) (by (first | exact om_10cc180fa1f4 | omega)) hP hD hS (lv_sub hl [0, 1, 2, 3] rfl)
abbrev r_x_wrapFrom : Room := { frames := 1, cells := 0, slots := 0, locals := 24 }
abbrev q_x_wrapFrom (D : va_G) (ks : KS) (ad : Nat → Nat) (kk : Nat → ClassId) (V : Vf) (L : Lf) (Z : XZ) (p0 : Int32) (p1 : Int32) (p2 : Int32) (p3 : Int32) (b : Nat) (A : Nat → Prop) : Array Value → State → Outcome → State → Prop := va_Qi (fun (r : Int32) (_ : Unit) => ((-1) ≤ r.toInt ∧ r.toInt ≤ 11)) (fun _ t => gq D A (xw ad kk V L Z) (xty kk Z) t) A
abbrev r_x_wrapBackFrom : Room := { frames := 1, cells := 0, slots := 0, locals := 24 }
abbrev q_x_wrapBackFrom (D : va_G) (ks : KS) (ad : Nat → Nat) (kk : Nat → ClassId) (V : Vf) (L : Lf) (Z : XZ) (p0 : Int32) (p1 : Int32) (p2 : Int32) (p3 : Int32) (b : Nat) (A : Nat → Prop) : Array Value → State → Outcome → State → Prop := va_Qi (fun (r : Int32) (_ : Unit) => ((-1) ≤ r.toInt ∧ r.toInt ≤ 11)) (fun _ t => gq D A (xw ad kk V L Z) (xty kk Z) t) A
abbrev r_x_addWrap : Room := { frames := 0, cells := 0, slots := 0, locals := 0 }
abbrev q_x_addWrap (D : va_G) (ks : KS) (ad : Nat → Nat) (kk : Nat → ClassId) (V : Vf) (L : Lf) (Z : XZ) (p0 : Int32) (p1 : Int32) (p2 : Int32) (p3 : Int32) (p4 : Int32) (b : Nat) (A : Nat → Prop) : Array Value → State → Outcome → State → Prop := va_Qv (fun (u : Vf × Lf) => rgd bX u.1 ∧ agr [] [41, 47, 62, 63, 64, 65, 66] V u.1 ∧ u.2 = L ∧ frX (xR b) V u.1) (fun u t => gq D A (xw ad kk u.1 u.2 Z) (xty kk Z) t) A
abbrev r_x_bclear : Room := { frames := 0, cells := 0, slots := 0, locals := 0 }
abbrev q_x_bclear (D : va_G) (ks : KS) (ad : Nat → Nat) (kk : Nat → ClassId) (V : Vf) (L : Lf) (Z : XZ) (b : Nat) (A : Nat → Prop) : Array Value → State → Outcome → State → Prop := va_Qv (fun (u : Vf × Lf) => rgd bX u.1 ∧ agr [] [41, 42, 43] V u.1 ∧ u.2 = L ∧ frX (xR b) V u.1 ∧ ((u.1 42 b).toInt = 0) ∧ ((u.1 41 b).toInt = 0) ∧ ((u.1 43 (5 * b + 2)).toInt = 0)) (fun u t => gq D A (xw ad kk u.1 u.2 Z) (xty kk Z) t) A
set_option maxHeartbeats 4000000 in
set_option maxRecDepth 100000 in
theorem x_bclear (l : Launch) (D : va_G) (ks : KS) (sz : Nat) (ad : Nat → Nat) (kk : Nat → ClassId) (V : Vf) (L : Lf) (Z : XZ) (b : Nat) (hMV : rgd bX V) (hb2 : b < 2)  : Met l yX0_clear (Cond.code yX0_clear cX0_clear 1 none :: GW) r_x_bclear (va_Pc [.ref (ad (38 + b))] (gp D ks (xw ad kk V L Z) (xty kk Z) sz)) (q_x_bclear D ks ad kk V L Z  b (va_A (xw ad kk V L Z) sz)) 0 0 (va_A (xw ad kk V L Z) sz) := by
  refine g_met (q_x_bclear D ks ad kk V L Z  b) (by decide) (Nat.le_of_ble_eq_true rfl) ?_
  intro p e s m below meth c A ls H locs hx hb hr hml hown hg hlocks hin hnw hgk hP hK hD hS hA hl
  have hown : s.vm.findClass RX0 = some m.cls := hown
  have hl : lv_has ls 1 [(0, .ref (ad (38 + b)))] := hl
  have hP : va_P D vwCl (xw ad kk V L Z) H := hP
  have hD : va_D A (xw ad kk V L Z) := hD
  have hK : va_K D vwCl (xty kk Z) s := hK
  have agV : agr [] [41, 42, 43] V V := agr.rf
  have fwV : frX (xR b) V V := frX.rf
  refine lv_aload_n hx hb dX0_clear_0 rfl (lv_at hl 0 rfl) ?_
  refine va_get (D := D) (ci := 0) (v := .ref (ad (40 + (5 * b + 0)))) (fs := (xfBook ad V b)) (C := RX0) (T := TX0) (N := 13) hx hb hg inX0 hown hK hP (38 + b) (xgBook hb2) rfl 0 (by decide) (hg _ w593) (fun _ h9 => h9) rfl dX0_clear_1 ?_
  refine lv_iconst (v := 0) hx hb dX0_clear_4 (by decide) ?_
  have il1 : (5 * b + 0) < 10 := by (first | exact om_99c4753a5d76 hb2 | omega)
  refine va_putN (D := D) (ci := 6) (v := .int 0) (ty := tyX6 1) (fs := (xfNames ad V (5 * b + 0))) (C := RX6) (T := TX6) (N := 2) hx hb hg inX6 tyX6 tyX6_ok nmX6 hown hK hP hD hS (40 + (5 * b + 0)) (xgNames il1) rfl 1 (by decide) (hnw.use 481 n481 rfl) (fun _ h9 => h9) rfl (tyX6_ok 1 (by decide)) rfl rfl (Nat.le_of_ble_eq_true rfl) dX0_clear_5 (fun H locs hP hD hS => ?_)
  have r2 : xcap (5 * b + 0) = 24 := xcap_0
  obtain ⟨V3, hV3⟩ : ∃ z, z = up2 V 43 (5 * b + 0) 0 := ⟨_, rfl⟩
  have ew4 : (xw ad kk V L Z).set (40 + (5 * b + 0)) ((ad (40 + (5 * b + 0))), .inr (6, (xfNames ad V (5 * b + 0)).set 1 (.int 0))) = xw ad kk V3 L Z := by rw [hV3]; exact xpNames_size il1
  have hP : va_P D vwCl (xw ad kk V3 L Z) H := by rw [← ew4]; exact hP
  have hD : va_D A (xw ad kk V3 L Z) := by rw [← ew4]; exact hD
  have hMV3 : rgd bX V3 := hMV.put hV3 ⟨(show (0 : Int) ≤ Int32.toInt 0 from by decide), by show (Int32.toInt 0) ≤ ((xcap (5 * b + 0) : Nat) : Int); have h9 : Int32.toInt 0 = 0 := (by decide); omega⟩
  have agV3 : agr [] [41, 42, 43] V V3 := agV.up hV3 rfl
  have fwV3 : frX (xR b) V V3 := frX.up fwV hV3 (Or.inr ⟨(by show 5 * b ≤ (5 * b + 0); (first | exact om_7887cb6c2c5c | omega)), (by show (5 * b + 0) < 5 * b + 5; (first | exact om_0dd10b612daf | omega))⟩)
  refine lv_aload_n hx hb dX0_clear_8 rfl (lv_at hl 0 rfl) ?_
  refine va_get (D := D) (ci := 0) (v := .ref (ad (40 + (5 * b + 1)))) (fs := (xfBook ad V3 b)) (C := RX0) (T := TX0) (N := 13) hx hb hg inX0 hown hK hP (38 + b) (xgBook hb2) rfl 1 (by decide) (hg _ w596) (fun _ h9 => h9) rfl dX0_clear_9 ?_
  refine lv_iconst (v := 0) hx hb dX0_clear_12 (by decide) ?_
  have il5 : (5 * b + 1) < 10 := by (first | exact om_3891d7acfde9 hb2 | omega)
  refine va_putN (D := D) (ci := 6) (v := .int 0) (ty := tyX6 1) (fs := (xfNames ad V3 (5 * b + 1))) (C := RX6) (T := TX6) (N := 2) hx hb hg inX6 tyX6 tyX6_ok nmX6 hown hK hP hD hS (40 + (5 * b + 1)) (xgNames il5) rfl 1 (by decide) (hnw.use 481 n481 rfl) (fun _ h9 => h9) rfl (tyX6_ok 1 (by decide)) rfl rfl (Nat.le_of_ble_eq_true rfl) dX0_clear_13 (fun H locs hP hD hS => ?_)
  have r6 : xcap (5 * b + 1) = 12 := xcap_1
  obtain ⟨V7, hV7⟩ : ∃ z, z = up2 V3 43 (5 * b + 1) 0 := ⟨_, rfl⟩
  have ew8 : (xw ad kk V3 L Z).set (40 + (5 * b + 1)) ((ad (40 + (5 * b + 1))), .inr (6, (xfNames ad V3 (5 * b + 1)).set 1 (.int 0))) = xw ad kk V7 L Z := by rw [hV7]; exact xpNames_size il5
  have hP : va_P D vwCl (xw ad kk V7 L Z) H := by rw [← ew8]; exact hP
  have hD : va_D A (xw ad kk V7 L Z) := by rw [← ew8]; exact hD
  have hMV7 : rgd bX V7 := hMV3.put hV7 ⟨(show (0 : Int) ≤ Int32.toInt 0 from by decide), by show (Int32.toInt 0) ≤ ((xcap (5 * b + 1) : Nat) : Int); have h9 : Int32.toInt 0 = 0 := (by decide); omega⟩
  have agV7 : agr [] [41, 42, 43] V V7 := agV3.up hV7 rfl
  have fwV7 : frX (xR b) V V7 := frX.up fwV3 hV7 (Or.inr ⟨(by show 5 * b ≤ (5 * b + 1); (first | exact om_89c5b457a3f5 | omega)), (by show (5 * b + 1) < 5 * b + 5; (first | exact om_09be712450e1 | omega))⟩)
  refine lv_aload_n hx hb dX0_clear_16 rfl (lv_at hl 0 rfl) ?_
  refine va_get (D := D) (ci := 0) (v := .ref (ad (40 + (5 * b + 2)))) (fs := (xfBook ad V7 b)) (C := RX0) (T := TX0) (N := 13) hx hb hg inX0 hown hK hP (38 + b) (xgBook hb2) rfl 2 (by decide) (hg _ w599) (fun _ h9 => h9) rfl dX0_clear_17 ?_
  refine lv_iconst (v := 0) hx hb dX0_clear_20 (by decide) ?_
  have il9 : (5 * b + 2) < 10 := by (first | exact om_1478e52fbf50 hb2 | omega)
  refine va_putN (D := D) (ci := 6) (v := .int 0) (ty := tyX6 1) (fs := (xfNames ad V7 (5 * b + 2))) (C := RX6) (T := TX6) (N := 2) hx hb hg inX6 tyX6 tyX6_ok nmX6 hown hK hP hD hS (40 + (5 * b + 2)) (xgNames il9) rfl 1 (by decide) (hnw.use 481 n481 rfl) (fun _ h9 => h9) rfl (tyX6_ok 1 (by decide)) rfl rfl (Nat.le_of_ble_eq_true rfl) dX0_clear_21 (fun H locs hP hD hS => ?_)
  have r10 : xcap (5 * b + 2) = 24 := xcap_2
  obtain ⟨V11, hV11⟩ : ∃ z, z = up2 V7 43 (5 * b + 2) 0 := ⟨_, rfl⟩
  have ew12 : (xw ad kk V7 L Z).set (40 + (5 * b + 2)) ((ad (40 + (5 * b + 2))), .inr (6, (xfNames ad V7 (5 * b + 2)).set 1 (.int 0))) = xw ad kk V11 L Z := by rw [hV11]; exact xpNames_size il9
  have hP : va_P D vwCl (xw ad kk V11 L Z) H := by rw [← ew12]; exact hP
  have hD : va_D A (xw ad kk V11 L Z) := by rw [← ew12]; exact hD
  have hMV11 : rgd bX V11 := hMV7.put hV11 ⟨(show (0 : Int) ≤ Int32.toInt 0 from by decide), by show (Int32.toInt 0) ≤ ((xcap (5 * b + 2) : Nat) : Int); have h9 : Int32.toInt 0 = 0 := (by decide); omega⟩
  have agV11 : agr [] [41, 42, 43] V V11 := agV7.up hV11 rfl
  have fwV11 : frX (xR b) V V11 := frX.up fwV7 hV11 (Or.inr ⟨(by show 5 * b ≤ (5 * b + 2); (first | exact om_70e074217485 | omega)), (by show (5 * b + 2) < 5 * b + 5; (first | exact om_ee8ac00373b7 | omega))⟩)
  refine lv_aload_n hx hb dX0_clear_24 rfl (lv_at hl 0 rfl) ?_
  refine va_get (D := D) (ci := 0) (v := .ref (ad (40 + (5 * b + 3)))) (fs := (xfBook ad V11 b)) (C := RX0) (T := TX0) (N := 13) hx hb hg inX0 hown hK hP (38 + b) (xgBook hb2) rfl 3 (by decide) (hg _ w603) (fun _ h9 => h9) rfl dX0_clear_25 ?_
  refine lv_iconst (v := 0) hx hb dX0_clear_28 (by decide) ?_
  have il13 : (5 * b + 3) < 10 := by (first | exact om_a4f98a710256 hb2 | omega)
  refine va_putN (D := D) (ci := 6) (v := .int 0) (ty := tyX6 1) (fs := (xfNames ad V11 (5 * b + 3))) (C := RX6) (T := TX6) (N := 2) hx hb hg inX6 tyX6 tyX6_ok nmX6 hown hK hP hD hS (40 + (5 * b + 3)) (xgNames il13) rfl 1 (by decide) (hnw.use 481 n481 rfl) (fun _ h9 => h9) rfl (tyX6_ok 1 (by decide)) rfl rfl (Nat.le_of_ble_eq_true rfl) dX0_clear_29 (fun H locs hP hD hS => ?_)
  have r14 : xcap (5 * b + 3) = 20 := xcap_3
  obtain ⟨V15, hV15⟩ : ∃ z, z = up2 V11 43 (5 * b + 3) 0 := ⟨_, rfl⟩
  have ew16 : (xw ad kk V11 L Z).set (40 + (5 * b + 3)) ((ad (40 + (5 * b + 3))), .inr (6, (xfNames ad V11 (5 * b + 3)).set 1 (.int 0))) = xw ad kk V15 L Z := by rw [hV15]; exact xpNames_size il13
  have hP : va_P D vwCl (xw ad kk V15 L Z) H := by rw [← ew16]; exact hP
  have hD : va_D A (xw ad kk V15 L Z) := by rw [← ew16]; exact hD
  have hMV15 : rgd bX V15 := hMV11.put hV15 ⟨(show (0 : Int) ≤ Int32.toInt 0 from by decide), by show (Int32.toInt 0) ≤ ((xcap (5 * b + 3) : Nat) : Int); have h9 : Int32.toInt 0 = 0 := (by decide); omega⟩
  have agV15 : agr [] [41, 42, 43] V V15 := agV11.up hV15 rfl
  have fwV15 : frX (xR b) V V15 := frX.up fwV11 hV15 (Or.inr ⟨(by show 5 * b ≤ (5 * b + 3); (first | exact om_a1f6e94f2bf9 | omega)), (by show (5 * b + 3) < 5 * b + 5; (first | exact om_d7320fabe3ed | omega))⟩)
  refine lv_aload_n hx hb dX0_clear_32 rfl (lv_at hl 0 rfl) ?_
  refine va_get (D := D) (ci := 0) (v := .ref (ad (40 + (5 * b + 4)))) (fs := (xfBook ad V15 b)) (C := RX0) (T := TX0) (N := 13) hx hb hg inX0 hown hK hP (38 + b) (xgBook hb2) rfl 4 (by decide) (hg _ w606) (fun _ h9 => h9) rfl dX0_clear_33 ?_
  refine lv_iconst (v := 0) hx hb dX0_clear_36 (by decide) ?_
  have il17 : (5 * b + 4) < 10 := by (first | exact om_3aaf7229373d hb2 | omega)
  refine va_putN (D := D) (ci := 6) (v := .int 0) (ty := tyX6 1) (fs := (xfNames ad V15 (5 * b + 4))) (C := RX6) (T := TX6) (N := 2) hx hb hg inX6 tyX6 tyX6_ok nmX6 hown hK hP hD hS (40 + (5 * b + 4)) (xgNames il17) rfl 1 (by decide) (hnw.use 481 n481 rfl) (fun _ h9 => h9) rfl (tyX6_ok 1 (by decide)) rfl rfl (Nat.le_of_ble_eq_true rfl) dX0_clear_37 (fun H locs hP hD hS => ?_)
  have r18 : xcap (5 * b + 4) = 20 := xcap_4
  obtain ⟨V19, hV19⟩ : ∃ z, z = up2 V15 43 (5 * b + 4) 0 := ⟨_, rfl⟩
  have ew20 : (xw ad kk V15 L Z).set (40 + (5 * b + 4)) ((ad (40 + (5 * b + 4))), .inr (6, (xfNames ad V15 (5 * b + 4)).set 1 (.int 0))) = xw ad kk V19 L Z := by rw [hV19]; exact xpNames_size il17
  have hP : va_P D vwCl (xw ad kk V19 L Z) H := by rw [← ew20]; exact hP
  have hD : va_D A (xw ad kk V19 L Z) := by rw [← ew20]; exact hD
  have hMV19 : rgd bX V19 := hMV15.put hV19 ⟨(show (0 : Int) ≤ Int32.toInt 0 from by decide), by show (Int32.toInt 0) ≤ ((xcap (5 * b + 4) : Nat) : Int); have h9 : Int32.toInt 0 = 0 := (by decide); omega⟩
  have agV19 : agr [] [41, 42, 43] V V19 := agV15.up hV19 rfl
  have fwV19 : frX (xR b) V V19 := frX.up fwV15 hV19 (Or.inr ⟨(by show 5 * b ≤ (5 * b + 4); (first | exact om_190a80a4be0e | omega)), (by show (5 * b + 4) < 5 * b + 5; (first | exact om_adad3af0d0f9 | omega))⟩)
  refine lv_aload_n hx hb dX0_clear_40 rfl (lv_at hl 0 rfl) ?_
  refine lv_iconst (v := 0) hx hb dX0_clear_41 (by decide) ?_
  refine va_put (D := D) (ci := 0) (v := .int 0) (ty := tyX0 11) (fs := (xfBook ad V19 b)) (C := RX0) (T := TX0) (N := 13) hx hb hg inX0 tyX0 tyX0_ok nmX0 hown hK hP hD hS (38 + b) (xgBook hb2) rfl 11 (by decide) (hg _ w625) (fun _ h9 => h9) rfl (tyX0_ok 11 (by decide)) rfl rfl (Nat.le_of_ble_eq_true rfl) dX0_clear_42 (fun H locs hP hD hS => ?_)
  obtain ⟨V21, hV21⟩ : ∃ z, z = up2 V19 41 b 0 := ⟨_, rfl⟩
  have ew22 : (xw ad kk V19 L Z).set (38 + b) ((ad (38 + b)), .inr (0, (xfBook ad V19 b).set 11 (.int 0))) = xw ad kk V21 L Z := by rw [hV21]; exact xpBook_wrapCount hb2
  have hP : va_P D vwCl (xw ad kk V21 L Z) H := by rw [← ew22]; exact hP
  have hD : va_D A (xw ad kk V21 L Z) := by rw [← ew22]; exact hD
  have hMV21 : rgd bX V21 := hMV19.put hV21 (show 0 ≤ Int32.toInt 0 ∧ Int32.toInt 0 ≤ 12 from by decide)
  have agV21 : agr [] [41, 42, 43] V V21 := agV19.up hV21 rfl
  have fwV21 : frX (xR b) V V21 := frX.up fwV19 hV21 (Or.inr ⟨(by show b ≤ b; (first | exact om_36cf446a3c95 | omega)), (by show b < b + 1; (first | exact om_0bb971ab4ffe | omega))⟩)
  refine lv_aload_n hx hb dX0_clear_45 rfl (lv_at hl 0 rfl) ?_
  refine lv_iconst (v := 0) hx hb dX0_clear_46 (by decide) ?_
  refine va_put (D := D) (ci := 0) (v := .int 0) (ty := tyX0 12) (fs := (xfBook ad V21 b)) (C := RX0) (T := TX0) (N := 13) hx hb hg inX0 tyX0 tyX0_ok nmX0 hown hK hP hD hS (38 + b) (xgBook hb2) rfl 12 (by decide) (hg _ w629) (fun _ h9 => h9) rfl (tyX0_ok 12 (by decide)) rfl rfl (Nat.le_of_ble_eq_true rfl) dX0_clear_47 (fun H locs hP hD hS => ?_)
  obtain ⟨V23, hV23⟩ : ∃ z, z = up2 V21 42 b 0 := ⟨_, rfl⟩
  have ew24 : (xw ad kk V21 L Z).set (38 + b) ((ad (38 + b)), .inr (0, (xfBook ad V21 b).set 12 (.int 0))) = xw ad kk V23 L Z := by rw [hV23]; exact xpBook_codeLength hb2
  have hP : va_P D vwCl (xw ad kk V23 L Z) H := by rw [← ew24]; exact hP
  have hD : va_D A (xw ad kk V23 L Z) := by rw [← ew24]; exact hD
  have hMV23 : rgd bX V23 := hMV21.put hV23 (show 0 ≤ Int32.toInt 0 ∧ Int32.toInt 0 ≤ 8200 from by decide)
  have agV23 : agr [] [41, 42, 43] V V23 := agV21.up hV23 rfl
  have fwV23 : frX (xR b) V V23 := frX.up fwV21 hV23 (Or.inr ⟨(by show b ≤ b; (first | exact om_36cf446a3c95 | omega)), (by show b < b + 1; (first | exact om_0bb971ab4ffe | omega))⟩)
  have pq25 : (V23 42 b).toInt = 0 := (congrArg Int32.toInt (up2_s hV23)).trans (by decide)
  have pq26 : (V23 41 b).toInt = 0 := (congrArg Int32.toInt ((up2_o hV23 (by decide)).trans (up2_s hV21))).trans (by decide)
  have pq27 : (V23 43 (5 * b + 2)).toInt = 0 := (congrArg Int32.toInt ((up2_o hV23 (by decide)).trans ((up2_o hV21 (by decide)).trans ((up2_k hV19 (by omega)).trans ((up2_k hV15 (by omega)).trans (up2_s hV11)))))).trans (by decide)
  exact W.vret hx hb hr (fun t ht hW => ⟨⟨(V23, L), rfl, ⟨hMV23, agV23, rfl, fwV23, (show (V23 42 b).toInt = 0 from by (first | exact om_b66ba74381d5 pq25 | omega)), (show (V23 41 b).toInt = 0 from by (first | exact om_b66ba74381d5 pq26 | omega)), (show (V23 43 (5 * b + 2)).toInt = 0 from by (first | exact om_b66ba74381d5 pq27 | omega))⟩, by rw [ht]; exact hP, va_K.moved hW.alike hK, hD⟩, hS.F ht⟩) hS.2.2 dX0_clear_50
abbrev r_x_addNeed : Room := { frames := 0, cells := 0, slots := 0, locals := 0 }
abbrev q_x_addNeed (D : va_G) (ks : KS) (ad : Nat → Nat) (kk : Nat → ClassId) (V : Vf) (L : Lf) (Z : XZ) (p0 : Int32) (p1 : Int32) (p2 : Int32) (gi : Nat) (A : Nat → Prop) : Array Value → State → Outcome → State → Prop := va_Qv (fun (u : Vf × Lf) => rgd bX u.1 ∧ agr [] [49, 58, 59, 60] V u.1 ∧ u.2 = L ∧ frX (xI gi) V u.1) (fun u t => gq D A (xw ad kk u.1 u.2 Z) (xty kk Z) t) A
set_option maxHeartbeats 4000000 in
set_option maxRecDepth 100000 in
theorem x_addNeed (l : Launch) (D : va_G) (ks : KS) (sz : Nat) (ad : Nat → Nat) (kk : Nat → ClassId) (V : Vf) (L : Lf) (Z : XZ) (p0 : Int32) (p1 : Int32) (p2 : Int32) (gi : Nat) (hMV : rgd bX V) (hgi : gi < 48)  : Met l yX3_addNeed (Cond.code yX3_addNeed cX3_addNeed 4 none :: GW) r_x_addNeed (va_Pc [.ref (ad (72 + gi)), .int p0, .int p1, .int p2] (gp D ks (xw ad kk V L Z) (xty kk Z) sz)) (q_x_addNeed D ks ad kk V L Z p0 p1 p2 gi (va_A (xw ad kk V L Z) sz)) 0 0 (va_A (xw ad kk V L Z) sz) := by
  refine g_met (q_x_addNeed D ks ad kk V L Z p0 p1 p2 gi) (by decide) (Nat.le_of_ble_eq_true rfl) ?_
  intro p e s m below meth c A ls H locs hx hb hr hml hown hg hlocks hin hnw hgk hP hK hD hS hA hl
  have hown : s.vm.findClass RX3 = some m.cls := hown
  have hl : lv_has ls 4 [(0, .ref (ad (72 + gi))), (1, .int p0), (2, .int p1), (3, .int p2)] := hl
  have hP : va_P D vwCl (xw ad kk V L Z) H := hP
  have hD : va_D A (xw ad kk V L Z) := hD
  have hK : va_K D vwCl (xty kk Z) s := hK
  have agV : agr [] [49, 58, 59, 60] V V := agr.rf
  have fwV : frX (xI gi) V V := frX.rf
  refine lv_aload_n hx hb dX3_addNeed_0 rfl (lv_at hl 0 rfl) ?_
  refine va_get (D := D) (ci := 3) (v := .int (V 49 gi)) (fs := (xfComp ad V gi)) (C := RX3) (T := TX3) (N := 13) hx hb hg inX3 hown hK hP (72 + gi) (xgComp hgi) rfl 4 (by decide) (hg _ w510) (fun _ h9 => h9) rfl dX3_addNeed_1 ?_
  have r1 : 0 ≤ ((V 49 gi)).toInt ∧ ((V 49 gi)).toInt ≤ 8 := hMV 49 gi
  refine lv_bipush (v := 8) hx hb dX3_addNeed_4 (by decide) ?_
  refine lv_icmp_ge (tgt := 49) hx hb dX3_addNeed_6 (by decide) (fun c2 => ?_) (fun c2 => ?_)
  · skip
    have f3 : 8 ≤ ((V 49 gi)).toInt := b_le (by decide) rfl c2
    exact W.vret hx hb hr (fun t ht hW => ⟨⟨(V, L), rfl, ⟨hMV, agV, rfl, fwV⟩, by rw [ht]; exact hP, va_K.moved hW.alike hK, hD⟩, hS.F ht⟩) hS.2.2 dX3_addNeed_49
  · skip
    have f4 : ((V 49 gi)).toInt < 8 := b_nle (by decide) rfl c2
    refine lv_aload_n hx hb dX3_addNeed_9 rfl (lv_at hl 0 rfl) ?_
    refine va_get (D := D) (ci := 3) (v := .ref (ad (216 + gi))) (fs := (xfComp ad V gi)) (C := RX3) (T := TX3) (N := 13) hx hb hg inX3 hown hK hP (72 + gi) (xgComp hgi) rfl 2 (by decide) (hg _ w503) (fun _ h9 => h9) rfl dX3_addNeed_10 ?_
    refine lv_aload_n hx hb dX3_addNeed_13 rfl (lv_at hl 0 rfl) ?_
    refine va_get (D := D) (ci := 3) (v := .int (V 49 gi)) (fs := (xfComp ad V gi)) (C := RX3) (T := TX3) (N := 13) hx hb hg inX3 hown hK hP (72 + gi) (xgComp hgi) rfl 4 (by decide) (hg _ w510) (fun _ h9 => h9) rfl dX3_addNeed_14 ?_
    refine lv_iload_n hx hb dX3_addNeed_17 rfl (lv_at hl 1 rfl) ?_
    refine va_iast (D := D) (i := (V 49 gi)) (x := p0) hx hb hK hP hD hS (216 + gi) (209 + gi) (xgneedKinds hgi) (xtneedKinds hgi) (i_in (a := ((V 49 gi)).toInt) rfl (by (first | exact om_988d96bba7b1 r1.1 f4 | omega))) dX3_addNeed_18 (fun H locs hP hD hS => ?_)
    have kc5 := i_clamp (x := (V 49 gi)) rfl (by (first | exact om_eafa9039069c r1.1 | omega))
    have kl6 : (Int32.toNatClampNeg (V 49 gi)) < 8 := by (first | exact om_1ae9279ea60d f4 kc5 | omega)
    obtain ⟨V7, hV7⟩ : ∃ z, z = up2 V 60 (8 * gi + (Int32.toNatClampNeg (V 49 gi))) p0 := ⟨_, rfl⟩
    have ew8 : (xw ad kk V L Z).set (216 + gi) ((ad (216 + gi)), .inl ((kk (216 + gi)), 8, .inl (upd (fun q => if q < 8 then V 60 (8 * gi + q) else 0) (Int32.toNatClampNeg (V 49 gi)) p0))) = xw ad kk V7 L Z := by rw [hV7]; exact xpneedKinds hgi kl6
    have hP : va_P D vwCl (xw ad kk V7 L Z) H := by rw [← ew8]; exact hP
    have hD : va_D A (xw ad kk V7 L Z) := by rw [← ew8]; exact hD
    have hMV7 : rgd bX V7 := hMV.put hV7 (i_full _)
    have agV7 : agr [] [49, 58, 59, 60] V V7 := agV.up hV7 rfl
    have fwV7 : frX (xI gi) V V7 := frX.up fwV hV7 (Or.inr ⟨(by show 8 * gi ≤ (8 * gi + (Int32.toNatClampNeg (V 49 gi))); (first | exact om_d739a63bef4d r1.1 kc5 | omega)), (by show (8 * gi + (Int32.toNatClampNeg (V 49 gi))) < 8 * gi + 8; (first | exact om_639467a33f9a f4 kc5 | omega))⟩)
    refine lv_aload_n hx hb dX3_addNeed_19 rfl (lv_at hl 0 rfl) ?_
    refine va_get (D := D) (ci := 3) (v := .ref (ad (120 + gi))) (fs := (xfComp ad V7 gi)) (C := RX3) (T := TX3) (N := 13) hx hb hg inX3 hown hK hP (72 + gi) (xgComp hgi) rfl 0 (by decide) (hg _ w499) (fun _ h9 => h9) rfl dX3_addNeed_20 ?_
    refine lv_aload_n hx hb dX3_addNeed_23 rfl (lv_at hl 0 rfl) ?_
    refine va_get (D := D) (ci := 3) (v := .int (V7 49 gi)) (fs := (xfComp ad V7 gi)) (C := RX3) (T := TX3) (N := 13) hx hb hg inX3 hown hK hP (72 + gi) (xgComp hgi) rfl 4 (by decide) (hg _ w510) (fun _ h9 => h9) rfl dX3_addNeed_24 ?_
    refine g_top (v := (V 49 gi)) (up2_o hV7 (by decide)) ?_
    refine lv_iload_n hx hb dX3_addNeed_27 rfl (lv_at hl 2 rfl) ?_
    refine va_iast (D := D) (i := (V 49 gi)) (x := p1) hx hb hK hP hD hS (120 + gi) (113 + gi) (xgneedTypes hgi) (xtneedTypes hgi) (i_in (a := ((V 49 gi)).toInt) rfl (by (first | exact om_988d96bba7b1 r1.1 f4 | omega))) dX3_addNeed_28 (fun H locs hP hD hS => ?_)
    have kl9 : (Int32.toNatClampNeg (V 49 gi)) < 8 := by (first | exact om_1ae9279ea60d f4 kc5 | omega)
    obtain ⟨V10, hV10⟩ : ∃ z, z = up2 V7 58 (8 * gi + (Int32.toNatClampNeg (V 49 gi))) p1 := ⟨_, rfl⟩
    have ew11 : (xw ad kk V7 L Z).set (120 + gi) ((ad (120 + gi)), .inl ((kk (120 + gi)), 8, .inl (upd (fun q => if q < 8 then V7 58 (8 * gi + q) else 0) (Int32.toNatClampNeg (V 49 gi)) p1))) = xw ad kk V10 L Z := by rw [hV10]; exact xpneedTypes hgi kl9
    have hP : va_P D vwCl (xw ad kk V10 L Z) H := by rw [← ew11]; exact hP
    have hD : va_D A (xw ad kk V10 L Z) := by rw [← ew11]; exact hD
    have hMV10 : rgd bX V10 := hMV7.put hV10 (i_full _)
    have agV10 : agr [] [49, 58, 59, 60] V V10 := agV7.up hV10 rfl
    have fwV10 : frX (xI gi) V V10 := frX.up fwV7 hV10 (Or.inr ⟨(by show 8 * gi ≤ (8 * gi + (Int32.toNatClampNeg (V 49 gi))); (first | exact om_d739a63bef4d r1.1 kc5 | omega)), (by show (8 * gi + (Int32.toNatClampNeg (V 49 gi))) < 8 * gi + 8; (first | exact om_639467a33f9a f4 kc5 | omega))⟩)
    refine lv_aload_n hx hb dX3_addNeed_29 rfl (lv_at hl 0 rfl) ?_
    refine va_get (D := D) (ci := 3) (v := .ref (ad (168 + gi))) (fs := (xfComp ad V10 gi)) (C := RX3) (T := TX3) (N := 13) hx hb hg inX3 hown hK hP (72 + gi) (xgComp hgi) rfl 1 (by decide) (hg _ w501) (fun _ h9 => h9) rfl dX3_addNeed_30 ?_
    refine lv_aload_n hx hb dX3_addNeed_33 rfl (lv_at hl 0 rfl) ?_
    refine va_get (D := D) (ci := 3) (v := .int (V10 49 gi)) (fs := (xfComp ad V10 gi)) (C := RX3) (T := TX3) (N := 13) hx hb hg inX3 hown hK hP (72 + gi) (xgComp hgi) rfl 4 (by decide) (hg _ w510) (fun _ h9 => h9) rfl dX3_addNeed_34 ?_
    refine g_top (v := (V 49 gi)) ((up2_o hV10 (by decide)).trans (up2_o hV7 (by decide))) ?_
    refine lv_iload_n hx hb dX3_addNeed_37 rfl (lv_at hl 3 rfl) ?_
    refine va_iast (D := D) (i := (V 49 gi)) (x := p2) hx hb hK hP hD hS (168 + gi) (161 + gi) (xgneedWords hgi) (xtneedWords hgi) (i_in (a := ((V 49 gi)).toInt) rfl (by (first | exact om_988d96bba7b1 r1.1 f4 | omega))) dX3_addNeed_38 (fun H locs hP hD hS => ?_)
    have kl12 : (Int32.toNatClampNeg (V 49 gi)) < 8 := by (first | exact om_1ae9279ea60d f4 kc5 | omega)
    obtain ⟨V13, hV13⟩ : ∃ z, z = up2 V10 59 (8 * gi + (Int32.toNatClampNeg (V 49 gi))) p2 := ⟨_, rfl⟩
    have ew14 : (xw ad kk V10 L Z).set (168 + gi) ((ad (168 + gi)), .inl ((kk (168 + gi)), 8, .inl (upd (fun q => if q < 8 then V10 59 (8 * gi + q) else 0) (Int32.toNatClampNeg (V 49 gi)) p2))) = xw ad kk V13 L Z := by rw [hV13]; exact xpneedWords hgi kl12
    have hP : va_P D vwCl (xw ad kk V13 L Z) H := by rw [← ew14]; exact hP
    have hD : va_D A (xw ad kk V13 L Z) := by rw [← ew14]; exact hD
    have hMV13 : rgd bX V13 := hMV10.put hV13 (i_full _)
    have agV13 : agr [] [49, 58, 59, 60] V V13 := agV10.up hV13 rfl
    have fwV13 : frX (xI gi) V V13 := frX.up fwV10 hV13 (Or.inr ⟨(by show 8 * gi ≤ (8 * gi + (Int32.toNatClampNeg (V 49 gi))); (first | exact om_d739a63bef4d r1.1 kc5 | omega)), (by show (8 * gi + (Int32.toNatClampNeg (V 49 gi))) < 8 * gi + 8; (first | exact om_639467a33f9a f4 kc5 | omega))⟩)
    refine lv_aload_n hx hb dX3_addNeed_39 rfl (lv_at hl 0 rfl) ?_
    refine lv_dup hx hb dX3_addNeed_40 rfl ?_
    refine va_get (D := D) (ci := 3) (v := .int (V13 49 gi)) (fs := (xfComp ad V13 gi)) (C := RX3) (T := TX3) (N := 13) hx hb hg inX3 hown hK hP (72 + gi) (xgComp hgi) rfl 4 (by decide) (hg _ w510) (fun _ h9 => h9) rfl dX3_addNeed_41 ?_
    refine g_top (v := (V 49 gi)) ((up2_o hV13 (by decide)).trans ((up2_o hV10 (by decide)).trans (up2_o hV7 (by decide)))) ?_
    refine lv_iconst (v := 1) hx hb dX3_addNeed_44 (by decide) ?_
    refine lv_iadd hx hb dX3_addNeed_45 ?_
    refine lv_topi (fun z15 ez15 => ?_)
    have hz15 : z15.toInt = ((V 49 gi)).toInt + 1 := i_add ez15 rfl (by decide) (by (first | exact om_5ea63ae345c9 r1.1 f4 | omega))
    refine va_put (D := D) (ci := 3) (v := .int z15) (ty := tyX3 4) (fs := (xfComp ad V13 gi)) (C := RX3) (T := TX3) (N := 13) hx hb hg inX3 tyX3 tyX3_ok nmX3 hown hK hP hD hS (72 + gi) (xgComp hgi) rfl 4 (by decide) (hg _ w510) (fun _ h9 => h9) rfl (tyX3_ok 4 (by decide)) rfl rfl (Nat.le_of_ble_eq_true rfl) dX3_addNeed_46 (fun H locs hP hD hS => ?_)
    obtain ⟨V16, hV16⟩ : ∃ z, z = up2 V13 49 gi z15 := ⟨_, rfl⟩
    have ew17 : (xw ad kk V13 L Z).set (72 + gi) ((ad (72 + gi)), .inr (3, (xfComp ad V13 gi).set 4 (.int z15))) = xw ad kk V16 L Z := by rw [hV16]; exact xpComp_needs hgi
    have hP : va_P D vwCl (xw ad kk V16 L Z) H := by rw [← ew17]; exact hP
    have hD : va_D A (xw ad kk V16 L Z) := by rw [← ew17]; exact hD
    have hMV16 : rgd bX V16 := hMV13.put hV16 (show 0 ≤ z15.toInt ∧ z15.toInt ≤ 8 from by (first | exact om_3ea392a2a386 kc5 kl6 hz15 | omega))
    have agV16 : agr [] [49, 58, 59, 60] V V16 := agV13.up hV16 rfl
    have fwV16 : frX (xI gi) V V16 := frX.up fwV13 hV16 (Or.inr ⟨(by show gi ≤ gi; (first | exact om_36cf446a3c95 | omega)), (by show gi < gi + 1; (first | exact om_0bb971ab4ffe | omega))⟩)
    exact W.vret hx hb hr (fun t ht hW => ⟨⟨(V16, L), rfl, ⟨hMV16, agV16, rfl, fwV16⟩, by rw [ht]; exact hP, va_K.moved hW.alike hK, hD⟩, hS.F ht⟩) hS.2.2 dX3_addNeed_49
end
section
section GEV
variable {p : Program} {l : Launch} {e : Env} {R : Room} {s : State} {m : MethodId} {args : Array Value} {below : List Frame} {meth : Method} {c : Code} {H : Heap} {locs : List Loc} {cells slots : Nat} {Q : State → Prop}
variable {pc : Nat} {ls : Array Slot} {st0 rest : List Value} {D : va_G} {A : Nat → Prop} {tys : List (ClassId × FieldType)} {ws : va_W}
theorem gE_void {S : Type} {post : S → Prop} {mc ms : Nat} {av : Array Value} (hr : va_Run p l e R s m args below meth c H locs cells slots mc ms (F0 m pc ls st0) rest (va_Qv post (fun _ t => gq D (va_A [] H.size) [] [] t) (va_A [] H.size) av) (va_A [] H.size))
    (hP : va_P D vwCl ws H) (hD : va_D A ws) (hK : va_K D vwCl tys s) (hS : va_S A s.heap H locs) (hA : ∀ q, s.heap.size ≤ q → A q)
    (kk : ∀ (u : S) (H1 : Heap) (locs1 : List Loc), post u → va_P D vwCl ws H1 → va_D A ws → va_K D vwCl tys s → va_S A s.heap H1 locs1 → W p l e R s m args below meth c H1 locs1 (cells + mc) (slots + ms) Q (F0 m (pc + 3) ls rest)) : W p l e R s m args below meth c H locs cells slots Q (F0 m pc ls st0) := by
  have hF : ∀ q, va_A [] H.size q → A q := fun q z => z.elim (fun ⟨_, _, w⟩ => by simp at w) (fun w => hA q (Nat.le_trans hS.1 w))
  refine va_callv hr hS (fun q _ h => hF q h) hF (fun u t H1 locs ht hvm hw hB hz1 hk1 hS => ?_)
  exact kk u H1 locs hw (gE_keep hP hk1) hD hK hS
end GEV

theorem w1295 : Cond.code yJ7_rangeCheck_23922 cJ7_rangeCheck_23922 3 none ∈ GW := gw_k tk9_5 180 (rfl) rfl
theorem w1293 : Cond.methodLink RJ7 13 yJ7_rangeCheck_23922 ∈ GW := gw_k tk9_5 178 (by decide +kernel) rfl
theorem w165 : Cond.initialized RJ7 ∈ GW := gw_k tk9_1 10 (by decide +kernel) rfl
theorem w1294 : Cond.static yJ7_rangeCheck_23922 ∈ GW := gw_k tk9_5 179 (by decide +kernel) rfl
theorem hdS_yJ7_rangeCheck_23922 : yJ7_rangeCheck_23922.cls ≠ "java/lang/invoke/MethodHandle" ∧ yJ7_rangeCheck_23922.cls ≠ "java/lang/invoke/VarHandle" ∧ (parseMethodDescriptor yJ7_rangeCheck_23922.desc).map (fun d => d.parameters.length) = some 3 := by decide +kernel
theorem w1089 : Cond.constant RJ6 265 1431655765 ∈ GW := gw_k tk9_4 214 (by decide +kernel) rfl
theorem w1090 : Cond.constant RJ6 266 858993459 ∈ GW := gw_k tk9_4 215 (by decide +kernel) rfl
theorem w1091 : Cond.constant RJ6 267 252645135 ∈ GW := gw_k tk9_4 216 (by decide +kernel) rfl
theorem dk9_dJ7_fill_53178_0_0 : dOk cJ7_fill_53178 [(0, .iconst 0, 1), (1, .istore_n 2, 1), (2, .aload_n 0, 1), (3, .arraylength, 1), (4, .istore_n 3, 1), (5, .iload_n 2, 1), (6, .iload_n 3, 1), (7, .if_icmp .ge 13, 3), (20, .return_, 1), (10, .aload_n 0, 1), (11, .iload_n 2, 1), (12, .iload_n 1, 1), (13, .iastore, 1), (14, .iinc 2 1, 3), (17, .goto (-12), 3)] = true := by decide +kernel
theorem dJ7_fill_53178_0 : decode cJ7_fill_53178 0 = .ok (.iconst 0, 1) := dr9 dk9_dJ7_fill_53178_0_0 0 (0, .iconst 0, 1) rfl
theorem dJ7_fill_53178_1 : decode cJ7_fill_53178 1 = .ok (.istore_n 2, 1) := dr9 dk9_dJ7_fill_53178_0_0 1 (1, .istore_n 2, 1) rfl
theorem dJ7_fill_53178_2 : decode cJ7_fill_53178 2 = .ok (.aload_n 0, 1) := dr9 dk9_dJ7_fill_53178_0_0 2 (2, .aload_n 0, 1) rfl
theorem dJ7_fill_53178_3 : decode cJ7_fill_53178 3 = .ok (.arraylength, 1) := dr9 dk9_dJ7_fill_53178_0_0 3 (3, .arraylength, 1) rfl
theorem dJ7_fill_53178_4 : decode cJ7_fill_53178 4 = .ok (.istore_n 3, 1) := dr9 dk9_dJ7_fill_53178_0_0 4 (4, .istore_n 3, 1) rfl
theorem dJ7_fill_53178_5 : decode cJ7_fill_53178 5 = .ok (.iload_n 2, 1) := dr9 dk9_dJ7_fill_53178_0_0 5 (5, .iload_n 2, 1) rfl
theorem dJ7_fill_53178_6 : decode cJ7_fill_53178 6 = .ok (.iload_n 3, 1) := dr9 dk9_dJ7_fill_53178_0_0 6 (6, .iload_n 3, 1) rfl
theorem dJ7_fill_53178_7 : decode cJ7_fill_53178 7 = .ok (.if_icmp .ge 13, 3) := dr9 dk9_dJ7_fill_53178_0_0 7 (7, .if_icmp .ge 13, 3) rfl
theorem dJ7_fill_53178_20 : decode cJ7_fill_53178 20 = .ok (.return_, 1) := dr9 dk9_dJ7_fill_53178_0_0 8 (20, .return_, 1) rfl
theorem dJ7_fill_53178_10 : decode cJ7_fill_53178 10 = .ok (.aload_n 0, 1) := dr9 dk9_dJ7_fill_53178_0_0 9 (10, .aload_n 0, 1) rfl
theorem dJ7_fill_53178_11 : decode cJ7_fill_53178 11 = .ok (.iload_n 2, 1) := dr9 dk9_dJ7_fill_53178_0_0 10 (11, .iload_n 2, 1) rfl
theorem dJ7_fill_53178_12 : decode cJ7_fill_53178 12 = .ok (.iload_n 1, 1) := dr9 dk9_dJ7_fill_53178_0_0 11 (12, .iload_n 1, 1) rfl
theorem dJ7_fill_53178_13 : decode cJ7_fill_53178 13 = .ok (.iastore, 1) := dr9 dk9_dJ7_fill_53178_0_0 12 (13, .iastore, 1) rfl
theorem dJ7_fill_53178_14 : decode cJ7_fill_53178 14 = .ok (.iinc 2 1, 3) := dr9 dk9_dJ7_fill_53178_0_0 13 (14, .iinc 2 1, 3) rfl
theorem dJ7_fill_53178_17 : decode cJ7_fill_53178 17 = .ok (.goto (-12), 3) := dr9 dk9_dJ7_fill_53178_0_0 14 (17, .goto (-12), 3) rfl
theorem dk9_dJ7_rangeCheck_23922_0_0 : dOk cJ7_rangeCheck_23922 [(0, .iload_n 1, 1), (1, .iload_n 2, 1), (2, .if_icmp .le 44, 3), (46, .iload_n 1, 1), (47, .ifCond .ge 12, 3), (59, .iload_n 2, 1), (60, .iload_n 0, 1), (61, .if_icmp .le 12, 3), (73, .return_, 1)] = true := by decide +kernel
theorem dJ7_rangeCheck_23922_0 : decode cJ7_rangeCheck_23922 0 = .ok (.iload_n 1, 1) := dr9 dk9_dJ7_rangeCheck_23922_0_0 0 (0, .iload_n 1, 1) rfl
theorem dJ7_rangeCheck_23922_1 : decode cJ7_rangeCheck_23922 1 = .ok (.iload_n 2, 1) := dr9 dk9_dJ7_rangeCheck_23922_0_0 1 (1, .iload_n 2, 1) rfl
theorem dJ7_rangeCheck_23922_2 : decode cJ7_rangeCheck_23922 2 = .ok (.if_icmp .le 44, 3) := dr9 dk9_dJ7_rangeCheck_23922_0_0 2 (2, .if_icmp .le 44, 3) rfl
theorem dJ7_rangeCheck_23922_46 : decode cJ7_rangeCheck_23922 46 = .ok (.iload_n 1, 1) := dr9 dk9_dJ7_rangeCheck_23922_0_0 3 (46, .iload_n 1, 1) rfl
theorem dJ7_rangeCheck_23922_47 : decode cJ7_rangeCheck_23922 47 = .ok (.ifCond .ge 12, 3) := dr9 dk9_dJ7_rangeCheck_23922_0_0 4 (47, .ifCond .ge 12, 3) rfl
theorem dJ7_rangeCheck_23922_59 : decode cJ7_rangeCheck_23922 59 = .ok (.iload_n 2, 1) := dr9 dk9_dJ7_rangeCheck_23922_0_0 5 (59, .iload_n 2, 1) rfl
theorem dJ7_rangeCheck_23922_60 : decode cJ7_rangeCheck_23922 60 = .ok (.iload_n 0, 1) := dr9 dk9_dJ7_rangeCheck_23922_0_0 6 (60, .iload_n 0, 1) rfl
theorem dJ7_rangeCheck_23922_61 : decode cJ7_rangeCheck_23922 61 = .ok (.if_icmp .le 12, 3) := dr9 dk9_dJ7_rangeCheck_23922_0_0 7 (61, .if_icmp .le 12, 3) rfl
theorem dJ7_rangeCheck_23922_73 : decode cJ7_rangeCheck_23922 73 = .ok (.return_, 1) := dr9 dk9_dJ7_rangeCheck_23922_0_0 8 (73, .return_, 1) rfl
theorem dk9_dJ7_fill_fda19_0_0 : dOk cJ7_fill_fda19 [(0, .aload_n 0, 1), (1, .arraylength, 1), (2, .iload_n 1, 1), (3, .iload_n 2, 1), (4, .invokestatic 13, 3), (7, .iload_n 1, 1), (8, .istore 4, 2), (10, .iload 4, 2), (12, .iload_n 2, 1), (13, .if_icmp .ge 14, 3), (27, .return_, 1), (16, .aload_n 0, 1), (17, .iload 4, 2), (19, .iload_n 3, 1), (20, .iastore, 1), (21, .iinc 4 1, 3), (24, .goto (-14), 3)] = true := by decide +kernel
theorem dJ7_fill_fda19_0 : decode cJ7_fill_fda19 0 = .ok (.aload_n 0, 1) := dr9 dk9_dJ7_fill_fda19_0_0 0 (0, .aload_n 0, 1) rfl
theorem dJ7_fill_fda19_1 : decode cJ7_fill_fda19 1 = .ok (.arraylength, 1) := dr9 dk9_dJ7_fill_fda19_0_0 1 (1, .arraylength, 1) rfl
theorem dJ7_fill_fda19_2 : decode cJ7_fill_fda19 2 = .ok (.iload_n 1, 1) := dr9 dk9_dJ7_fill_fda19_0_0 2 (2, .iload_n 1, 1) rfl
theorem dJ7_fill_fda19_3 : decode cJ7_fill_fda19 3 = .ok (.iload_n 2, 1) := dr9 dk9_dJ7_fill_fda19_0_0 3 (3, .iload_n 2, 1) rfl
theorem dJ7_fill_fda19_4 : decode cJ7_fill_fda19 4 = .ok (.invokestatic 13, 3) := dr9 dk9_dJ7_fill_fda19_0_0 4 (4, .invokestatic 13, 3) rfl
theorem dJ7_fill_fda19_7 : decode cJ7_fill_fda19 7 = .ok (.iload_n 1, 1) := dr9 dk9_dJ7_fill_fda19_0_0 5 (7, .iload_n 1, 1) rfl
theorem dJ7_fill_fda19_8 : decode cJ7_fill_fda19 8 = .ok (.istore 4, 2) := dr9 dk9_dJ7_fill_fda19_0_0 6 (8, .istore 4, 2) rfl
theorem dJ7_fill_fda19_10 : decode cJ7_fill_fda19 10 = .ok (.iload 4, 2) := dr9 dk9_dJ7_fill_fda19_0_0 7 (10, .iload 4, 2) rfl
theorem dJ7_fill_fda19_12 : decode cJ7_fill_fda19 12 = .ok (.iload_n 2, 1) := dr9 dk9_dJ7_fill_fda19_0_0 8 (12, .iload_n 2, 1) rfl
theorem dJ7_fill_fda19_13 : decode cJ7_fill_fda19 13 = .ok (.if_icmp .ge 14, 3) := dr9 dk9_dJ7_fill_fda19_0_0 9 (13, .if_icmp .ge 14, 3) rfl
theorem dJ7_fill_fda19_27 : decode cJ7_fill_fda19 27 = .ok (.return_, 1) := dr9 dk9_dJ7_fill_fda19_0_0 10 (27, .return_, 1) rfl
theorem dJ7_fill_fda19_16 : decode cJ7_fill_fda19 16 = .ok (.aload_n 0, 1) := dr9 dk9_dJ7_fill_fda19_0_0 11 (16, .aload_n 0, 1) rfl
theorem dJ7_fill_fda19_17 : decode cJ7_fill_fda19 17 = .ok (.iload 4, 2) := dr9 dk9_dJ7_fill_fda19_0_0 12 (17, .iload 4, 2) rfl
theorem dJ7_fill_fda19_19 : decode cJ7_fill_fda19 19 = .ok (.iload_n 3, 1) := dr9 dk9_dJ7_fill_fda19_0_0 13 (19, .iload_n 3, 1) rfl
theorem dJ7_fill_fda19_20 : decode cJ7_fill_fda19 20 = .ok (.iastore, 1) := dr9 dk9_dJ7_fill_fda19_0_0 14 (20, .iastore, 1) rfl
theorem dJ7_fill_fda19_21 : decode cJ7_fill_fda19 21 = .ok (.iinc 4 1, 3) := dr9 dk9_dJ7_fill_fda19_0_0 15 (21, .iinc 4 1, 3) rfl
theorem dJ7_fill_fda19_24 : decode cJ7_fill_fda19 24 = .ok (.goto (-14), 3) := dr9 dk9_dJ7_fill_fda19_0_0 16 (24, .goto (-14), 3) rfl
theorem dk9_dJ6_bitCount_0f7a4_0_0 : dOk cJ6_bitCount_0f7a4 [(0, .iload_n 0, 1), (1, .iload_n 0, 1), (2, .iconst 1, 1), (3, .iushr, 1), (4, .ldc_w 265, 3), (7, .iand, 1), (8, .isub, 1), (9, .istore_n 0, 1), (10, .iload_n 0, 1), (11, .ldc_w 266, 3), (14, .iand, 1), (15, .iload_n 0, 1), (16, .iconst 2, 1), (17, .iushr, 1), (18, .ldc_w 266, 3), (21, .iand, 1), (22, .iadd, 1), (23, .istore_n 0, 1), (24, .iload_n 0, 1), (25, .iload_n 0, 1), (26, .iconst 4, 1), (27, .iushr, 1), (28, .iadd, 1), (29, .ldc_w 267, 3)] = true ∧ dOk cJ6_bitCount_0f7a4 [(32, .iand, 1), (33, .istore_n 0, 1), (34, .iload_n 0, 1), (35, .iload_n 0, 1), (36, .bipush 8, 2), (38, .iushr, 1), (39, .iadd, 1), (40, .istore_n 0, 1), (41, .iload_n 0, 1), (42, .iload_n 0, 1), (43, .bipush 16, 2), (45, .iushr, 1), (46, .iadd, 1), (47, .istore_n 0, 1), (48, .iload_n 0, 1), (49, .bipush 63, 2), (51, .iand, 1), (52, .ireturn, 1)] = true := by decide +kernel
theorem dJ6_bitCount_0f7a4_0 : decode cJ6_bitCount_0f7a4 0 = .ok (.iload_n 0, 1) := dr9 dk9_dJ6_bitCount_0f7a4_0_0.1 0 (0, .iload_n 0, 1) rfl
theorem dJ6_bitCount_0f7a4_1 : decode cJ6_bitCount_0f7a4 1 = .ok (.iload_n 0, 1) := dr9 dk9_dJ6_bitCount_0f7a4_0_0.1 1 (1, .iload_n 0, 1) rfl
theorem dJ6_bitCount_0f7a4_2 : decode cJ6_bitCount_0f7a4 2 = .ok (.iconst 1, 1) := dr9 dk9_dJ6_bitCount_0f7a4_0_0.1 2 (2, .iconst 1, 1) rfl
theorem dJ6_bitCount_0f7a4_3 : decode cJ6_bitCount_0f7a4 3 = .ok (.iushr, 1) := dr9 dk9_dJ6_bitCount_0f7a4_0_0.1 3 (3, .iushr, 1) rfl
theorem dJ6_bitCount_0f7a4_4 : decode cJ6_bitCount_0f7a4 4 = .ok (.ldc_w 265, 3) := dr9 dk9_dJ6_bitCount_0f7a4_0_0.1 4 (4, .ldc_w 265, 3) rfl
theorem dJ6_bitCount_0f7a4_7 : decode cJ6_bitCount_0f7a4 7 = .ok (.iand, 1) := dr9 dk9_dJ6_bitCount_0f7a4_0_0.1 5 (7, .iand, 1) rfl
theorem dJ6_bitCount_0f7a4_8 : decode cJ6_bitCount_0f7a4 8 = .ok (.isub, 1) := dr9 dk9_dJ6_bitCount_0f7a4_0_0.1 6 (8, .isub, 1) rfl
theorem dJ6_bitCount_0f7a4_9 : decode cJ6_bitCount_0f7a4 9 = .ok (.istore_n 0, 1) := dr9 dk9_dJ6_bitCount_0f7a4_0_0.1 7 (9, .istore_n 0, 1) rfl
theorem dJ6_bitCount_0f7a4_10 : decode cJ6_bitCount_0f7a4 10 = .ok (.iload_n 0, 1) := dr9 dk9_dJ6_bitCount_0f7a4_0_0.1 8 (10, .iload_n 0, 1) rfl
theorem dJ6_bitCount_0f7a4_11 : decode cJ6_bitCount_0f7a4 11 = .ok (.ldc_w 266, 3) := dr9 dk9_dJ6_bitCount_0f7a4_0_0.1 9 (11, .ldc_w 266, 3) rfl
theorem dJ6_bitCount_0f7a4_14 : decode cJ6_bitCount_0f7a4 14 = .ok (.iand, 1) := dr9 dk9_dJ6_bitCount_0f7a4_0_0.1 10 (14, .iand, 1) rfl
theorem dJ6_bitCount_0f7a4_15 : decode cJ6_bitCount_0f7a4 15 = .ok (.iload_n 0, 1) := dr9 dk9_dJ6_bitCount_0f7a4_0_0.1 11 (15, .iload_n 0, 1) rfl
theorem dJ6_bitCount_0f7a4_16 : decode cJ6_bitCount_0f7a4 16 = .ok (.iconst 2, 1) := dr9 dk9_dJ6_bitCount_0f7a4_0_0.1 12 (16, .iconst 2, 1) rfl
theorem dJ6_bitCount_0f7a4_17 : decode cJ6_bitCount_0f7a4 17 = .ok (.iushr, 1) := dr9 dk9_dJ6_bitCount_0f7a4_0_0.1 13 (17, .iushr, 1) rfl
theorem dJ6_bitCount_0f7a4_18 : decode cJ6_bitCount_0f7a4 18 = .ok (.ldc_w 266, 3) := dr9 dk9_dJ6_bitCount_0f7a4_0_0.1 14 (18, .ldc_w 266, 3) rfl
theorem dJ6_bitCount_0f7a4_21 : decode cJ6_bitCount_0f7a4 21 = .ok (.iand, 1) := dr9 dk9_dJ6_bitCount_0f7a4_0_0.1 15 (21, .iand, 1) rfl
theorem dJ6_bitCount_0f7a4_22 : decode cJ6_bitCount_0f7a4 22 = .ok (.iadd, 1) := dr9 dk9_dJ6_bitCount_0f7a4_0_0.1 16 (22, .iadd, 1) rfl
theorem dJ6_bitCount_0f7a4_23 : decode cJ6_bitCount_0f7a4 23 = .ok (.istore_n 0, 1) := dr9 dk9_dJ6_bitCount_0f7a4_0_0.1 17 (23, .istore_n 0, 1) rfl
theorem dJ6_bitCount_0f7a4_24 : decode cJ6_bitCount_0f7a4 24 = .ok (.iload_n 0, 1) := dr9 dk9_dJ6_bitCount_0f7a4_0_0.1 18 (24, .iload_n 0, 1) rfl
theorem dJ6_bitCount_0f7a4_25 : decode cJ6_bitCount_0f7a4 25 = .ok (.iload_n 0, 1) := dr9 dk9_dJ6_bitCount_0f7a4_0_0.1 19 (25, .iload_n 0, 1) rfl
theorem dJ6_bitCount_0f7a4_26 : decode cJ6_bitCount_0f7a4 26 = .ok (.iconst 4, 1) := dr9 dk9_dJ6_bitCount_0f7a4_0_0.1 20 (26, .iconst 4, 1) rfl
theorem dJ6_bitCount_0f7a4_27 : decode cJ6_bitCount_0f7a4 27 = .ok (.iushr, 1) := dr9 dk9_dJ6_bitCount_0f7a4_0_0.1 21 (27, .iushr, 1) rfl
theorem dJ6_bitCount_0f7a4_28 : decode cJ6_bitCount_0f7a4 28 = .ok (.iadd, 1) := dr9 dk9_dJ6_bitCount_0f7a4_0_0.1 22 (28, .iadd, 1) rfl
theorem dJ6_bitCount_0f7a4_29 : decode cJ6_bitCount_0f7a4 29 = .ok (.ldc_w 267, 3) := dr9 dk9_dJ6_bitCount_0f7a4_0_0.1 23 (29, .ldc_w 267, 3) rfl
theorem dJ6_bitCount_0f7a4_32 : decode cJ6_bitCount_0f7a4 32 = .ok (.iand, 1) := dr9 dk9_dJ6_bitCount_0f7a4_0_0.2 0 (32, .iand, 1) rfl
theorem dJ6_bitCount_0f7a4_33 : decode cJ6_bitCount_0f7a4 33 = .ok (.istore_n 0, 1) := dr9 dk9_dJ6_bitCount_0f7a4_0_0.2 1 (33, .istore_n 0, 1) rfl
theorem dJ6_bitCount_0f7a4_34 : decode cJ6_bitCount_0f7a4 34 = .ok (.iload_n 0, 1) := dr9 dk9_dJ6_bitCount_0f7a4_0_0.2 2 (34, .iload_n 0, 1) rfl
theorem dJ6_bitCount_0f7a4_35 : decode cJ6_bitCount_0f7a4 35 = .ok (.iload_n 0, 1) := dr9 dk9_dJ6_bitCount_0f7a4_0_0.2 3 (35, .iload_n 0, 1) rfl
theorem dJ6_bitCount_0f7a4_36 : decode cJ6_bitCount_0f7a4 36 = .ok (.bipush 8, 2) := dr9 dk9_dJ6_bitCount_0f7a4_0_0.2 4 (36, .bipush 8, 2) rfl
theorem dJ6_bitCount_0f7a4_38 : decode cJ6_bitCount_0f7a4 38 = .ok (.iushr, 1) := dr9 dk9_dJ6_bitCount_0f7a4_0_0.2 5 (38, .iushr, 1) rfl
theorem dJ6_bitCount_0f7a4_39 : decode cJ6_bitCount_0f7a4 39 = .ok (.iadd, 1) := dr9 dk9_dJ6_bitCount_0f7a4_0_0.2 6 (39, .iadd, 1) rfl
theorem dJ6_bitCount_0f7a4_40 : decode cJ6_bitCount_0f7a4 40 = .ok (.istore_n 0, 1) := dr9 dk9_dJ6_bitCount_0f7a4_0_0.2 7 (40, .istore_n 0, 1) rfl
theorem dJ6_bitCount_0f7a4_41 : decode cJ6_bitCount_0f7a4 41 = .ok (.iload_n 0, 1) := dr9 dk9_dJ6_bitCount_0f7a4_0_0.2 8 (41, .iload_n 0, 1) rfl
theorem dJ6_bitCount_0f7a4_42 : decode cJ6_bitCount_0f7a4 42 = .ok (.iload_n 0, 1) := dr9 dk9_dJ6_bitCount_0f7a4_0_0.2 9 (42, .iload_n 0, 1) rfl
theorem dJ6_bitCount_0f7a4_43 : decode cJ6_bitCount_0f7a4 43 = .ok (.bipush 16, 2) := dr9 dk9_dJ6_bitCount_0f7a4_0_0.2 10 (43, .bipush 16, 2) rfl
theorem dJ6_bitCount_0f7a4_45 : decode cJ6_bitCount_0f7a4 45 = .ok (.iushr, 1) := dr9 dk9_dJ6_bitCount_0f7a4_0_0.2 11 (45, .iushr, 1) rfl
theorem dJ6_bitCount_0f7a4_46 : decode cJ6_bitCount_0f7a4 46 = .ok (.iadd, 1) := dr9 dk9_dJ6_bitCount_0f7a4_0_0.2 12 (46, .iadd, 1) rfl
theorem dJ6_bitCount_0f7a4_47 : decode cJ6_bitCount_0f7a4 47 = .ok (.istore_n 0, 1) := dr9 dk9_dJ6_bitCount_0f7a4_0_0.2 13 (47, .istore_n 0, 1) rfl
theorem dJ6_bitCount_0f7a4_48 : decode cJ6_bitCount_0f7a4 48 = .ok (.iload_n 0, 1) := dr9 dk9_dJ6_bitCount_0f7a4_0_0.2 14 (48, .iload_n 0, 1) rfl
theorem dJ6_bitCount_0f7a4_49 : decode cJ6_bitCount_0f7a4 49 = .ok (.bipush 63, 2) := dr9 dk9_dJ6_bitCount_0f7a4_0_0.2 15 (49, .bipush 63, 2) rfl
theorem dJ6_bitCount_0f7a4_51 : decode cJ6_bitCount_0f7a4 51 = .ok (.iand, 1) := dr9 dk9_dJ6_bitCount_0f7a4_0_0.2 16 (51, .iand, 1) rfl
theorem dJ6_bitCount_0f7a4_52 : decode cJ6_bitCount_0f7a4 52 = .ok (.ireturn, 1) := dr9 dk9_dJ6_bitCount_0f7a4_0_0.2 17 (52, .ireturn, 1) rfl
abbrev r_x_fillPresent : Room := { frames := 0, cells := 0, slots := 0, locals := 0 }
abbrev q_x_fillPresent (D : va_G) (ks : KS) (ad : Nat → Nat) (kk : Nat → ClassId) (V : Vf) (L : Lf) (Z : XZ) (p1 : Int32) (A : Nat → Prop) : Array Value → State → Outcome → State → Prop := va_Qv (fun (u : Vf × Lf) => rgd bX u.1 ∧ agr [] [25] V u.1 ∧ u.2 = L ∧ ((∀ q : Nat, (q : Int) < 960 → u.1 25 (q) = p1)) ∧ ((∀ q : Nat, ¬ (0 ≤ q ∧ q < 960) → u.1 25 q = V 25 q))) (fun u t => gq D A (xw ad kk u.1 u.2 Z) (xty kk Z) t) A
set_option maxHeartbeats 4000000 in
set_option maxRecDepth 100000 in
theorem x_fillPresent (l : Launch) (D : va_G) (ks : KS) (sz : Nat) (ad : Nat → Nat) (kk : Nat → ClassId) (V : Vf) (L : Lf) (Z : XZ) (p1 : Int32) (hMV : rgd bX V) (rg_p1 : (-1) ≤ p1.toInt ∧ p1.toInt ≤ (-1))  : Met l yJ7_fill_53178 (Cond.code yJ7_fill_53178 cJ7_fill_53178 4 none :: GW) r_x_fillPresent (va_Pc [.ref (ad 22), .int p1] (gp D ks (xw ad kk V L Z) (xty kk Z) sz)) (q_x_fillPresent D ks ad kk V L Z p1 (va_A (xw ad kk V L Z) sz)) 0 0 (va_A (xw ad kk V L Z) sz) := by
  refine g_met (q_x_fillPresent D ks ad kk V L Z p1) (by decide) (Nat.le_of_ble_eq_true rfl) ?_
  intro p e s m below meth c A ls H locs hx hb hr hml hown hg hlocks hin hnw hgk hP hK hD hS hA hl
  have hown : s.vm.findClass RJ7 = some m.cls := hown
  have hl : lv_has ls 4 [(0, .ref (ad 22)), (1, .int p1)] := hl
  have hP : va_P D vwCl (xw ad kk V L Z) H := hP
  have hD : va_D A (xw ad kk V L Z) := hD
  have hK : va_K D vwCl (xty kk Z) s := hK
  have agV : agr [] [25] V V := agr.rf
  refine lv_iconst (v := 0) hx hb dJ7_fill_53178_0 (by decide) ?_
  refine lv_istore_n (lv' := [(2, .int 0), (0, .ref (ad 22)), (1, .int p1)]) hx hb dJ7_fill_53178_1 rfl hl (by decide) rfl (fun ls hl => ?_)
  refine lv_aload_n hx hb dJ7_fill_53178_2 rfl (lv_at hl 1 rfl) ?_
  refine va_alen (D := D) (v := 960) hx hb hK hP 22 15 rfl rfl rfl dJ7_fill_53178_3 ?_
  refine lv_istore_n (lv' := [(3, .int 960), (2, .int 0), (0, .ref (ad 22)), (1, .int p1)]) hx hb dJ7_fill_53178_4 rfl hl (by decide) rfl (fun ls hl => ?_)
  have lp3 : ∀ (fulp3 : Nat) (y1 : Int32) (V2 : Vf) (H : Heap) (locs : List Loc) (ls : Array Slot), 0 ≤ y1.toInt ∧ y1.toInt ≤ 960 → y1.toInt ≤ 960 → (∀ q : Nat, 0 ≤ q → (q : Int) < y1.toInt → V2 25 (q) = p1) → (∀ q : Nat, ¬ (0 ≤ q ∧ q < 960) → V2 25 q = V 25 q) → 960 - y1.toInt < (fulp3 : Int) → agr [] [25] V V2 → rgd bX V2 → va_P D vwCl (xw ad kk V2 L Z) H → va_D A (xw ad kk V2 L Z) → va_S A s.heap H locs → lv_has ls 4 [(3, .int 960), (2, .int y1), (0, .ref (ad 22)), (1, .int p1)] → W p l e r_x_fillPresent s m ([.ref (ad 22), .int p1] : List Value).toArray below meth c H locs 0 0 (MQ below (q_x_fillPresent D ks ad kk V L Z p1 A) ([.ref (ad 22), .int p1] : List Value).toArray s 0 0 A) (F0 m 5 ls []) := by
    intro fulp3
    induction fulp3 with
    | zero =>
      intro y1 V2 H locs ls klp3_0 xlp3_0 xlp3_1 xlp3_2 hn ajV2 hMV2 hP hD hS hl
      exfalso; (first | exact om_c8d4dd19bb17 klp3_0.2 hn | omega)
    | succ fulp3 ihlp3 =>
      intro y1 V2 H locs ls klp3_0 xlp3_0 xlp3_1 xlp3_2 hn ajV2 hMV2 hP hD hS hl
      have agV2 : agr [] [25] V V2 := agV.tr ajV2 (by decide) (by decide)
      refine lv_iload_n hx hb dJ7_fill_53178_5 rfl (lv_at hl 1 rfl) ?_
      refine lv_iload_n hx hb dJ7_fill_53178_6 rfl (lv_at hl 0 rfl) ?_
      refine lv_icmp_ge (tgt := 20) hx hb dJ7_fill_53178_7 (by decide) (fun c4 => ?_) (fun c4 => ?_)
      · skip
        have f5 : 960 ≤ y1.toInt := b_le (by decide) rfl c4
        exact W.vret hx hb hr (fun t ht hW => ⟨⟨(V2, L), rfl, ⟨hMV2, agV2, rfl, (fun q hq => xlp3_1 q (by omega) (by omega)), xlp3_2⟩, by rw [ht]; exact hP, va_K.moved hW.alike hK, hD⟩, hS.F ht⟩) hS.2.2 dJ7_fill_53178_20
      · skip
        have f6 : y1.toInt < 960 := b_nle (by decide) rfl c4
        have k9 := i_clamp (x := y1) rfl (by (first | exact om_eafa9039069c klp3_0.1 | omega))
        refine lv_aload_n hx hb dJ7_fill_53178_10 rfl (lv_at hl 2 rfl) ?_
        refine lv_iload_n hx hb dJ7_fill_53178_11 rfl (lv_at hl 1 rfl) ?_
        refine lv_iload_n hx hb dJ7_fill_53178_12 rfl (lv_at hl 3 rfl) ?_
        refine va_iast (D := D) (i := y1) (x := p1) hx hb hK hP hD hS 22 15 rfl rfl (i_in (a := y1.toInt) rfl (by (first | exact om_ed46e1c3cf09 klp3_0.1 f6 | omega))) dJ7_fill_53178_13 (fun H locs hP hD hS => ?_)
        obtain ⟨V7, hV7⟩ : ∃ z, z = up2 V2 25 (Int32.toNatClampNeg y1) p1 := ⟨_, rfl⟩
        have ew8 : (xw ad kk V2 L Z).set 22 ((ad 22), .inl ((kk 22), 960, .inl (upd (V2 25) (Int32.toNatClampNeg y1) p1))) = xw ad kk V7 L Z := by rw [hV7]; exact xw_ss (by decide) rfl (xb_si (by decide))
        have hP : va_P D vwCl (xw ad kk V7 L Z) H := by rw [← ew8]; exact hP
        have hD : va_D A (xw ad kk V7 L Z) := by rw [← ew8]; exact hD
        have hMV7 : rgd bX V7 := hMV2.put hV7 (show (-1) ≤ p1.toInt ∧ p1.toInt ≤ 299 from by (first | exact om_0408a9da5e98 rg_p1.1 rg_p1.2 | omega))
        have agV7 : agr [] [25] V V7 := agV2.up hV7 rfl
        obtain ⟨z9, ez9⟩ : ∃ y : Int32, y = y1 + 1 := ⟨_, rfl⟩
        have hz9 : z9.toInt = y1.toInt + 1 := i_add ez9 rfl (by decide) (by (first | exact om_1bb32e01d4a3 klp3_0.1 f6 | omega))
        refine lv_iinc (v := z9) (lv' := [(2, .int z9), (3, .int 960), (0, .ref (ad 22)), (1, .int p1)]) hx hb dJ7_fill_53178_14 hl (k := 1) rfl (by rw [ez9]; rfl) (by decide) rfl (fun ls hl => ?_)
        refine lv_goto (tgt := 5) hx hb dJ7_fill_53178_17 (by decide) ?_
        have r10 : Int32.toInt 960 = 960 := by decide
        exact ihlp3 z9 V7 H locs ls (by (first | exact om_7ce5d8ac6511 klp3_0.1 f6 hz9 | omega)) (show z9.toInt ≤ 960 from by (first | exact om_3ac06e244f37 f6 hz9 | omega)) (fun q h1 h2 => by rcases Decidable.em ((q) = (Int32.toNatClampNeg y1)) with h9 | h9; (rw [h9]; exact up2_s hV7); (rw [up2_k hV7 h9]; exact xlp3_1 q h1 (by omega))) (fun q h1 => (up2_k hV7 (fun h9 => h1 (by omega))).trans (xlp3_2 q h1)) (by (first | exact om_b35da99adc69 hn hz9 | omega)) (agr.up (agr.tr agr.rf ajV2 (by decide) (by decide)) hV7 rfl) hMV7 hP hD hS (lv_sub hl [1, 0, 2, 3] rfl)
  have r11 : Int32.toInt 960 = 960 := by decide
  have r12 : Int32.toInt 0 = 0 := by decide
  exact lp3 ((960 - (Int32.toInt 0) + 1 : Int).toNat) 0 V H locs ls (by decide) (show (Int32.toInt 0) ≤ 960 from by (first | exact om_7f4ba2c00ea6 r12 | omega)) (fun q h1 h2 => absurd h2 (by omega)) (fun q h1 => rfl) (by (first | exact om_2733943334af | omega)) agr.rf hMV hP hD hS (lv_sub hl [0, 1, 2, 3] rfl)
abbrev r_x_fillOnPath : Room := { frames := 0, cells := 0, slots := 0, locals := 0 }
abbrev q_x_fillOnPath (D : va_G) (ks : KS) (ad : Nat → Nat) (kk : Nat → ClassId) (V : Vf) (L : Lf) (Z : XZ) (p1 : Int32) (A : Nat → Prop) : Array Value → State → Outcome → State → Prop := va_Qv (fun (u : Vf × Lf) => rgd bX u.1 ∧ agr [] [20] V u.1 ∧ u.2 = L ∧ ((∀ q : Nat, (q : Int) < 24 → u.1 20 (q) = p1)) ∧ ((∀ q : Nat, ¬ (0 ≤ q ∧ q < 24) → u.1 20 q = V 20 q))) (fun u t => gq D A (xw ad kk u.1 u.2 Z) (xty kk Z) t) A
set_option maxHeartbeats 4000000 in
set_option maxRecDepth 100000 in
theorem x_fillOnPath (l : Launch) (D : va_G) (ks : KS) (sz : Nat) (ad : Nat → Nat) (kk : Nat → ClassId) (V : Vf) (L : Lf) (Z : XZ) (p1 : Int32) (hMV : rgd bX V) (rg_p1 : (-1) ≤ p1.toInt ∧ p1.toInt ≤ (-1))  : Met l yJ7_fill_53178 (Cond.code yJ7_fill_53178 cJ7_fill_53178 4 none :: GW) r_x_fillOnPath (va_Pc [.ref (ad 17), .int p1] (gp D ks (xw ad kk V L Z) (xty kk Z) sz)) (q_x_fillOnPath D ks ad kk V L Z p1 (va_A (xw ad kk V L Z) sz)) 0 0 (va_A (xw ad kk V L Z) sz) := by
  refine g_met (q_x_fillOnPath D ks ad kk V L Z p1) (by decide) (Nat.le_of_ble_eq_true rfl) ?_
  intro p e s m below meth c A ls H locs hx hb hr hml hown hg hlocks hin hnw hgk hP hK hD hS hA hl
  have hown : s.vm.findClass RJ7 = some m.cls := hown
  have hl : lv_has ls 4 [(0, .ref (ad 17)), (1, .int p1)] := hl
  have hP : va_P D vwCl (xw ad kk V L Z) H := hP
  have hD : va_D A (xw ad kk V L Z) := hD
  have hK : va_K D vwCl (xty kk Z) s := hK
  have agV : agr [] [20] V V := agr.rf
  refine lv_iconst (v := 0) hx hb dJ7_fill_53178_0 (by decide) ?_
  refine lv_istore_n (lv' := [(2, .int 0), (0, .ref (ad 17)), (1, .int p1)]) hx hb dJ7_fill_53178_1 rfl hl (by decide) rfl (fun ls hl => ?_)
  refine lv_aload_n hx hb dJ7_fill_53178_2 rfl (lv_at hl 1 rfl) ?_
  refine va_alen (D := D) (v := 24) hx hb hK hP 17 10 rfl rfl rfl dJ7_fill_53178_3 ?_
  refine lv_istore_n (lv' := [(3, .int 24), (2, .int 0), (0, .ref (ad 17)), (1, .int p1)]) hx hb dJ7_fill_53178_4 rfl hl (by decide) rfl (fun ls hl => ?_)
  have lp3 : ∀ (fulp3 : Nat) (y1 : Int32) (V2 : Vf) (H : Heap) (locs : List Loc) (ls : Array Slot), 0 ≤ y1.toInt ∧ y1.toInt ≤ 24 → y1.toInt ≤ 24 → (∀ q : Nat, 0 ≤ q → (q : Int) < y1.toInt → V2 20 (q) = p1) → (∀ q : Nat, ¬ (0 ≤ q ∧ q < 24) → V2 20 q = V 20 q) → 24 - y1.toInt < (fulp3 : Int) → agr [] [20] V V2 → rgd bX V2 → va_P D vwCl (xw ad kk V2 L Z) H → va_D A (xw ad kk V2 L Z) → va_S A s.heap H locs → lv_has ls 4 [(3, .int 24), (2, .int y1), (0, .ref (ad 17)), (1, .int p1)] → W p l e r_x_fillOnPath s m ([.ref (ad 17), .int p1] : List Value).toArray below meth c H locs 0 0 (MQ below (q_x_fillOnPath D ks ad kk V L Z p1 A) ([.ref (ad 17), .int p1] : List Value).toArray s 0 0 A) (F0 m 5 ls []) := by
    intro fulp3
    induction fulp3 with
    | zero =>
      intro y1 V2 H locs ls klp3_0 xlp3_0 xlp3_1 xlp3_2 hn ajV2 hMV2 hP hD hS hl
      exfalso; (first | exact om_9386ef0df612 klp3_0.2 hn | omega)
    | succ fulp3 ihlp3 =>
      intro y1 V2 H locs ls klp3_0 xlp3_0 xlp3_1 xlp3_2 hn ajV2 hMV2 hP hD hS hl
      have agV2 : agr [] [20] V V2 := agV.tr ajV2 (by decide) (by decide)
      refine lv_iload_n hx hb dJ7_fill_53178_5 rfl (lv_at hl 1 rfl) ?_
      refine lv_iload_n hx hb dJ7_fill_53178_6 rfl (lv_at hl 0 rfl) ?_
      refine lv_icmp_ge (tgt := 20) hx hb dJ7_fill_53178_7 (by decide) (fun c4 => ?_) (fun c4 => ?_)
      · skip
        have f5 : 24 ≤ y1.toInt := b_le (by decide) rfl c4
        exact W.vret hx hb hr (fun t ht hW => ⟨⟨(V2, L), rfl, ⟨hMV2, agV2, rfl, (fun q hq => xlp3_1 q (by omega) (by omega)), xlp3_2⟩, by rw [ht]; exact hP, va_K.moved hW.alike hK, hD⟩, hS.F ht⟩) hS.2.2 dJ7_fill_53178_20
      · skip
        have f6 : y1.toInt < 24 := b_nle (by decide) rfl c4
        have k9 := i_clamp (x := y1) rfl (by (first | exact om_eafa9039069c klp3_0.1 | omega))
        refine lv_aload_n hx hb dJ7_fill_53178_10 rfl (lv_at hl 2 rfl) ?_
        refine lv_iload_n hx hb dJ7_fill_53178_11 rfl (lv_at hl 1 rfl) ?_
        refine lv_iload_n hx hb dJ7_fill_53178_12 rfl (lv_at hl 3 rfl) ?_
        refine va_iast (D := D) (i := y1) (x := p1) hx hb hK hP hD hS 17 10 rfl rfl (i_in (a := y1.toInt) rfl (by (first | exact om_41ae856fa52f klp3_0.1 f6 | omega))) dJ7_fill_53178_13 (fun H locs hP hD hS => ?_)
        obtain ⟨V7, hV7⟩ : ∃ z, z = up2 V2 20 (Int32.toNatClampNeg y1) p1 := ⟨_, rfl⟩
        have ew8 : (xw ad kk V2 L Z).set 17 ((ad 17), .inl ((kk 17), 24, .inl (upd (V2 20) (Int32.toNatClampNeg y1) p1))) = xw ad kk V7 L Z := by rw [hV7]; exact xw_ss (by decide) rfl (xb_si (by decide))
        have hP : va_P D vwCl (xw ad kk V7 L Z) H := by rw [← ew8]; exact hP
        have hD : va_D A (xw ad kk V7 L Z) := by rw [← ew8]; exact hD
        have hMV7 : rgd bX V7 := hMV2.put hV7 (show (-2) ≤ p1.toInt ∧ p1.toInt ≤ 23 from by (first | exact om_ecb32e0a1bac rg_p1.1 rg_p1.2 | omega))
        have agV7 : agr [] [20] V V7 := agV2.up hV7 rfl
        obtain ⟨z9, ez9⟩ : ∃ y : Int32, y = y1 + 1 := ⟨_, rfl⟩
        have hz9 : z9.toInt = y1.toInt + 1 := i_add ez9 rfl (by decide) (by (first | exact om_bc9106cf44c9 klp3_0.1 f6 | omega))
        refine lv_iinc (v := z9) (lv' := [(2, .int z9), (3, .int 24), (0, .ref (ad 17)), (1, .int p1)]) hx hb dJ7_fill_53178_14 hl (k := 1) rfl (by rw [ez9]; rfl) (by decide) rfl (fun ls hl => ?_)
        refine lv_goto (tgt := 5) hx hb dJ7_fill_53178_17 (by decide) ?_
        have r10 : Int32.toInt 24 = 24 := by decide
        exact ihlp3 z9 V7 H locs ls (by (first | exact om_a5349b170263 klp3_0.1 f6 hz9 | omega)) (show z9.toInt ≤ 24 from by (first | exact om_2c16bfd07503 f6 hz9 | omega)) (fun q h1 h2 => by rcases Decidable.em ((q) = (Int32.toNatClampNeg y1)) with h9 | h9; (rw [h9]; exact up2_s hV7); (rw [up2_k hV7 h9]; exact xlp3_1 q h1 (by omega))) (fun q h1 => (up2_k hV7 (fun h9 => h1 (by omega))).trans (xlp3_2 q h1)) (by (first | exact om_9592d9319ffa hn hz9 | omega)) (agr.up (agr.tr agr.rf ajV2 (by decide) (by decide)) hV7 rfl) hMV7 hP hD hS (lv_sub hl [1, 0, 2, 3] rfl)
  have r11 : Int32.toInt 24 = 24 := by decide
  have r12 : Int32.toInt 0 = 0 := by decide
  exact lp3 ((24 - (Int32.toInt 0) + 1 : Int).toNat) 0 V H locs ls (by decide) (show (Int32.toInt 0) ≤ 24 from by (first | exact om_c803a345bc18 r12 | omega)) (fun q h1 h2 => absurd h2 (by omega)) (fun q h1 => rfl) (by (first | exact om_817980d3aa47 | omega)) agr.rf hMV hP hD hS (lv_sub hl [0, 1, 2, 3] rfl)
abbrev r_x_fillStarts : Room := { frames := 0, cells := 0, slots := 0, locals := 0 }
abbrev q_x_fillStarts (D : va_G) (ks : KS) (ad : Nat → Nat) (kk : Nat → ClassId) (V : Vf) (L : Lf) (Z : XZ) (p1 : Int32) (gi : Nat) (A : Nat → Prop) : Array Value → State → Outcome → State → Prop := va_Qv (fun (u : Vf × Lf) => rgd bX u.1 ∧ agr [] [61] V u.1 ∧ u.2 = L ∧ frX (xI gi) V u.1 ∧ ((∀ q : Nat, (q : Int) < 20 → u.1 61 (20 * gi + q) = p1)) ∧ ((∀ q : Nat, ¬ (20 * gi ≤ q ∧ q < 20 * gi + 20) → u.1 61 q = V 61 q))) (fun u t => gq D A (xw ad kk u.1 u.2 Z) (xty kk Z) t) A
set_option maxHeartbeats 4000000 in
set_option maxRecDepth 100000 in
theorem x_fillStarts (l : Launch) (D : va_G) (ks : KS) (sz : Nat) (ad : Nat → Nat) (kk : Nat → ClassId) (V : Vf) (L : Lf) (Z : XZ) (p1 : Int32) (gi : Nat) (hMV : rgd bX V) (rg_p1 : (-1) ≤ p1.toInt ∧ p1.toInt ≤ (-1)) (hgi : gi < 48)  : Met l yJ7_fill_53178 (Cond.code yJ7_fill_53178 cJ7_fill_53178 4 none :: GW) r_x_fillStarts (va_Pc [.ref (ad (264 + gi)), .int p1] (gp D ks (xw ad kk V L Z) (xty kk Z) sz)) (q_x_fillStarts D ks ad kk V L Z p1 gi (va_A (xw ad kk V L Z) sz)) 0 0 (va_A (xw ad kk V L Z) sz) := by
  refine g_met (q_x_fillStarts D ks ad kk V L Z p1 gi) (by decide) (Nat.le_of_ble_eq_true rfl) ?_
  intro p e s m below meth c A ls H locs hx hb hr hml hown hg hlocks hin hnw hgk hP hK hD hS hA hl
  have hown : s.vm.findClass RJ7 = some m.cls := hown
  have hl : lv_has ls 4 [(0, .ref (ad (264 + gi))), (1, .int p1)] := hl
  have hP : va_P D vwCl (xw ad kk V L Z) H := hP
  have hD : va_D A (xw ad kk V L Z) := hD
  have hK : va_K D vwCl (xty kk Z) s := hK
  have agV : agr [] [61] V V := agr.rf
  have fwV : frX (xI gi) V V := frX.rf
  refine lv_iconst (v := 0) hx hb dJ7_fill_53178_0 (by decide) ?_
  refine lv_istore_n (lv' := [(2, .int 0), (0, .ref (ad (264 + gi))), (1, .int p1)]) hx hb dJ7_fill_53178_1 rfl hl (by decide) rfl (fun ls hl => ?_)
  refine lv_aload_n hx hb dJ7_fill_53178_2 rfl (lv_at hl 1 rfl) ?_
  refine va_alen (D := D) (v := 20) hx hb hK hP (264 + gi) (257 + gi) (xgmethodStarts hgi) (xtmethodStarts hgi) rfl dJ7_fill_53178_3 ?_
  refine lv_istore_n (lv' := [(3, .int 20), (2, .int 0), (0, .ref (ad (264 + gi))), (1, .int p1)]) hx hb dJ7_fill_53178_4 rfl hl (by decide) rfl (fun ls hl => ?_)
  have lp3 : ∀ (fulp3 : Nat) (y1 : Int32) (V2 : Vf) (H : Heap) (locs : List Loc) (ls : Array Slot), 0 ≤ y1.toInt ∧ y1.toInt ≤ 20 → y1.toInt ≤ 20 → (∀ q : Nat, 0 ≤ q → (q : Int) < y1.toInt → V2 61 (20 * gi + q) = p1) → (∀ q : Nat, ¬ (20 * gi ≤ q ∧ q < 20 * gi + 20) → V2 61 q = V 61 q) → 20 - y1.toInt < (fulp3 : Int) → agr [] [61] V V2 → rgd bX V2 → frX (xI gi) V V2 → va_P D vwCl (xw ad kk V2 L Z) H → va_D A (xw ad kk V2 L Z) → va_S A s.heap H locs → lv_has ls 4 [(3, .int 20), (2, .int y1), (0, .ref (ad (264 + gi))), (1, .int p1)] → W p l e r_x_fillStarts s m ([.ref (ad (264 + gi)), .int p1] : List Value).toArray below meth c H locs 0 0 (MQ below (q_x_fillStarts D ks ad kk V L Z p1 gi A) ([.ref (ad (264 + gi)), .int p1] : List Value).toArray s 0 0 A) (F0 m 5 ls []) := by
    intro fulp3
    induction fulp3 with
    | zero =>
      intro y1 V2 H locs ls klp3_0 xlp3_0 xlp3_1 xlp3_2 hn ajV2 hMV2 fwV2 hP hD hS hl
      exfalso; (first | exact om_626e07862489 klp3_0.2 hn | omega)
    | succ fulp3 ihlp3 =>
      intro y1 V2 H locs ls klp3_0 xlp3_0 xlp3_1 xlp3_2 hn ajV2 hMV2 fwV2 hP hD hS hl
      have agV2 : agr [] [61] V V2 := agV.tr ajV2 (by decide) (by decide)
      refine lv_iload_n hx hb dJ7_fill_53178_5 rfl (lv_at hl 1 rfl) ?_
      refine lv_iload_n hx hb dJ7_fill_53178_6 rfl (lv_at hl 0 rfl) ?_
      refine lv_icmp_ge (tgt := 20) hx hb dJ7_fill_53178_7 (by decide) (fun c4 => ?_) (fun c4 => ?_)
      · skip
        have f5 : 20 ≤ y1.toInt := b_le (by decide) rfl c4
        exact W.vret hx hb hr (fun t ht hW => ⟨⟨(V2, L), rfl, ⟨hMV2, agV2, rfl, fwV2, (fun q hq => xlp3_1 q (by omega) (by omega)), xlp3_2⟩, by rw [ht]; exact hP, va_K.moved hW.alike hK, hD⟩, hS.F ht⟩) hS.2.2 dJ7_fill_53178_20
      · skip
        have f6 : y1.toInt < 20 := b_nle (by decide) rfl c4
        have k9 := i_clamp (x := y1) rfl (by (first | exact om_eafa9039069c klp3_0.1 | omega))
        refine lv_aload_n hx hb dJ7_fill_53178_10 rfl (lv_at hl 2 rfl) ?_
        refine lv_iload_n hx hb dJ7_fill_53178_11 rfl (lv_at hl 1 rfl) ?_
        refine lv_iload_n hx hb dJ7_fill_53178_12 rfl (lv_at hl 3 rfl) ?_
        refine va_iast (D := D) (i := y1) (x := p1) hx hb hK hP hD hS (264 + gi) (257 + gi) (xgmethodStarts hgi) (xtmethodStarts hgi) (i_in (a := y1.toInt) rfl (by (first | exact om_0346e444bc21 klp3_0.1 f6 | omega))) dJ7_fill_53178_13 (fun H locs hP hD hS => ?_)
        have kc7 := i_clamp (x := y1) rfl (by (first | exact om_eafa9039069c klp3_0.1 | omega))
        have kl8 : (Int32.toNatClampNeg y1) < 20 := by (first | exact om_4e955f839473 f6 kc7 | omega)
        obtain ⟨V9, hV9⟩ : ∃ z, z = up2 V2 61 (20 * gi + (Int32.toNatClampNeg y1)) p1 := ⟨_, rfl⟩
        have ew10 : (xw ad kk V2 L Z).set (264 + gi) ((ad (264 + gi)), .inl ((kk (264 + gi)), 20, .inl (upd (fun q => if q < 20 then V2 61 (20 * gi + q) else 0) (Int32.toNatClampNeg y1) p1))) = xw ad kk V9 L Z := by rw [hV9]; exact xpmethodStarts hgi kl8
        have hP : va_P D vwCl (xw ad kk V9 L Z) H := by rw [← ew10]; exact hP
        have hD : va_D A (xw ad kk V9 L Z) := by rw [← ew10]; exact hD
        have hMV9 : rgd bX V9 := hMV2.put hV9 (show (-1) ≤ p1.toInt ∧ p1.toInt ≤ 8200 from by (first | exact om_4e580634c31c rg_p1.1 rg_p1.2 | omega))
        have agV9 : agr [] [61] V V9 := agV2.up hV9 rfl
        have fwV9 : frX (xI gi) V V9 := frX.up fwV2 hV9 (Or.inr ⟨(by show 20 * gi ≤ (20 * gi + (Int32.toNatClampNeg y1)); (first | exact om_988871371c85 | omega)), (by show (20 * gi + (Int32.toNatClampNeg y1)) < 20 * gi + 20; (first | exact om_7156e8c19b87 kl8 | omega))⟩)
        obtain ⟨z11, ez11⟩ : ∃ y : Int32, y = y1 + 1 := ⟨_, rfl⟩
        have hz11 : z11.toInt = y1.toInt + 1 := i_add ez11 rfl (by decide) (by (first | exact om_f3b27bf949c4 k9 kl8 | omega))
        refine lv_iinc (v := z11) (lv' := [(2, .int z11), (3, .int 20), (0, .ref (ad (264 + gi))), (1, .int p1)]) hx hb dJ7_fill_53178_14 hl (k := 1) rfl (by rw [ez11]; rfl) (by decide) rfl (fun ls hl => ?_)
        refine lv_goto (tgt := 5) hx hb dJ7_fill_53178_17 (by decide) ?_
        have r12 : Int32.toInt 20 = 20 := by decide
        exact ihlp3 z11 V9 H locs ls (by (first | exact om_77a2a7ad51d8 klp3_0.1 f6 hz11 | omega)) (show z11.toInt ≤ 20 from by (first | exact om_dc6e0596053f f6 hz11 | omega)) (fun q h1 h2 => by rcases Decidable.em ((20 * gi + q) = (20 * gi + (Int32.toNatClampNeg y1))) with h9 | h9; (rw [h9]; exact up2_s hV9); (rw [up2_k hV9 h9]; exact xlp3_1 q h1 (by omega))) (fun q h1 => (up2_k hV9 (fun h9 => h1 (by omega))).trans (xlp3_2 q h1)) (by (first | exact om_fadc4eb740be hn hz11 | omega)) (agr.up (agr.tr agr.rf ajV2 (by decide) (by decide)) hV9 rfl) hMV9 fwV9 hP hD hS (lv_sub hl [1, 0, 2, 3] rfl)
  have r13 : Int32.toInt 20 = 20 := by decide
  have r14 : Int32.toInt 0 = 0 := by decide
  exact lp3 ((20 - (Int32.toInt 0) + 1 : Int).toNat) 0 V H locs ls (by decide) (show (Int32.toInt 0) ≤ 20 from by (first | exact om_9ce2ca378b5d r14 | omega)) (fun q h1 h2 => absurd h2 (by omega)) (fun q h1 => rfl) (by (first | exact om_c81621550cec | omega)) agr.rf hMV fwV hP hD hS (lv_sub hl [0, 1, 2, 3] rfl)
abbrev r_x_rangeCheck : Room := { frames := 0, cells := 0, slots := 0, locals := 0 }
abbrev q_x_rangeCheck (D : va_G) (p0 : Int32) (p1 : Int32) (p2 : Int32) (A : Nat → Prop) : Array Value → State → Outcome → State → Prop := va_Qv (fun (_ : Unit) => True) (fun _ t => gq D A [] [] t) A
set_option maxHeartbeats 4000000 in
set_option maxRecDepth 100000 in
theorem x_rangeCheck (l : Launch) (D : va_G) (ks : KS) (sz : Nat) (p0 : Int32) (p1 : Int32) (p2 : Int32) (y1 : p1.toInt ≤ p2.toInt) (y2 : 0 ≤ p1.toInt) (y3 : p2.toInt ≤ p0.toInt)  : Met l yJ7_rangeCheck_23922 (Cond.code yJ7_rangeCheck_23922 cJ7_rangeCheck_23922 3 none :: GW) r_x_rangeCheck (va_Pc [.int p0, .int p1, .int p2] (gp D ks ([]) ([]) sz)) (q_x_rangeCheck D p0 p1 p2 (va_A ([]) sz)) 0 0 (va_A ([]) sz) := by
  refine g_met (q_x_rangeCheck D p0 p1 p2) (by decide) (Nat.le_of_ble_eq_true rfl) ?_
  intro p e s m below meth c A ls H locs hx hb hr hml hown hg hlocks hin hnw hgk hP hK hD hS hA hl
  have hown : s.vm.findClass RJ7 = some m.cls := hown
  have hl : lv_has ls 3 [(0, .int p0), (1, .int p1), (2, .int p2)] := hl
  refine lv_iload_n hx hb dJ7_rangeCheck_23922_0 rfl (lv_at hl 1 rfl) ?_
  refine lv_iload_n hx hb dJ7_rangeCheck_23922_1 rfl (lv_at hl 2 rfl) ?_
  refine lv_icmp_le (tgt := 46) hx hb dJ7_rangeCheck_23922_2 (by decide) (fun c1 => ?_) (fun c1 => ?_)
  · skip
    have f2 : p1.toInt ≤ p2.toInt := b_le rfl rfl c1
    refine lv_iload_n hx hb dJ7_rangeCheck_23922_46 rfl (lv_at hl 1 rfl) ?_
    refine lv_if_ge (tgt := 59) hx hb dJ7_rangeCheck_23922_47 (by decide) (fun c3 => ?_) (fun c3 => ?_)
    · skip
      have f4 : 0 ≤ p1.toInt := b_le (by decide) rfl c3
      refine lv_iload_n hx hb dJ7_rangeCheck_23922_59 rfl (lv_at hl 2 rfl) ?_
      refine lv_iload_n hx hb dJ7_rangeCheck_23922_60 rfl (lv_at hl 0 rfl) ?_
      refine lv_icmp_le (tgt := 73) hx hb dJ7_rangeCheck_23922_61 (by decide) (fun c5 => ?_) (fun c5 => ?_)
      · skip
        have f6 : p2.toInt ≤ p0.toInt := b_le rfl rfl c5
        exact W.vret hx hb hr (fun t ht hW => ⟨⟨(), rfl, trivial, by rw [ht]; exact hP, va_K.moved hW.alike hK, hD⟩, hS.F ht⟩) hS.2.2 dJ7_rangeCheck_23922_73
      · skip
        have f7 : p0.toInt < p2.toInt := b_nle rfl rfl c5
        exfalso; (first | exact om_f5625c47c537 y3 f7 | omega)
    · skip
      have f8 : p1.toInt < 0 := b_nle (by decide) rfl c3
      exfalso; (first | exact om_1b10ca75f5f0 y2 f8 | omega)
  · skip
    have f9 : p2.toInt < p1.toInt := b_nle rfl rfl c1
    exfalso; (first | exact om_f5625c47c537 y1 f9 | omega)
abbrev r_x_fillChains : Room := { frames := 1, cells := 0, slots := 0, locals := 22 }
abbrev q_x_fillChains (D : va_G) (ks : KS) (ad : Nat → Nat) (kk : Nat → ClassId) (V : Vf) (L : Lf) (Z : XZ) (p1 : Int32) (p2 : Int32) (p3 : Int32) (A : Nat → Prop) : Array Value → State → Outcome → State → Prop := va_Qv (fun (u : Vf × Lf) => rgd bX u.1 ∧ agr [] [30] V u.1 ∧ u.2 = L ∧ ((∀ q : Nat, p1.toInt ≤ (q : Int) → (q : Int) < p2.toInt → u.1 30 (q) = p3)) ∧ ((∀ q : Nat, ¬ (Int32.toNatClampNeg p1 ≤ q ∧ q < Int32.toNatClampNeg p2) → u.1 30 q = V 30 q))) (fun u t => gq D A (xw ad kk u.1 u.2 Z) (xty kk Z) t) A
set_option maxHeartbeats 4000000 in
set_option maxRecDepth 100000 in
theorem x_fillChains (l : Launch) (D : va_G) (ks : KS) (sz : Nat) (ad : Nat → Nat) (kk : Nat → ClassId) (V : Vf) (L : Lf) (Z : XZ) (p1 : Int32) (p2 : Int32) (p3 : Int32) (hMV : rgd bX V) (rg_p1 : 0 ≤ p1.toInt ∧ p1.toInt ≤ 2392) (rg_p2 : 8 ≤ p2.toInt ∧ p2.toInt ≤ 2400) (rg_p3 : (-1) ≤ p3.toInt ∧ p3.toInt ≤ (-1)) (y1 : p1.toInt ≤ p2.toInt)  : Met l yJ7_fill_fda19 (Cond.code yJ7_fill_fda19 cJ7_fill_fda19 5 none :: GW) r_x_fillChains (va_Pc [.ref (ad 27), .int p1, .int p2, .int p3] (gp D ks (xw ad kk V L Z) (xty kk Z) sz)) (q_x_fillChains D ks ad kk V L Z p1 p2 p3 (va_A (xw ad kk V L Z) sz)) 0 0 (va_A (xw ad kk V L Z) sz) := by
  refine g_met (q_x_fillChains D ks ad kk V L Z p1 p2 p3) (by decide) (Nat.le_of_ble_eq_true rfl) ?_
  intro p e s m below meth c A ls H locs hx hb hr hml hown hg hlocks hin hnw hgk hP hK hD hS hA hl
  have hown : s.vm.findClass RJ7 = some m.cls := hown
  have hl : lv_has ls 5 [(0, .ref (ad 27)), (1, .int p1), (2, .int p2), (3, .int p3)] := hl
  have hP : va_P D vwCl (xw ad kk V L Z) H := hP
  have hD : va_D A (xw ad kk V L Z) := hD
  have hK : va_K D vwCl (xty kk Z) s := hK
  have agV : agr [] [30] V V := agr.rf
  refine lv_aload_n hx hb dJ7_fill_fda19_0 rfl (lv_at hl 0 rfl) ?_
  refine va_alen (D := D) (v := 2400) hx hb hK hP 27 20 rfl rfl rfl dJ7_fill_fda19_1 ?_
  refine lv_iload_n hx hb dJ7_fill_fda19_2 rfl (lv_at hl 1 rfl) ?_
  refine lv_iload_n hx hb dJ7_fill_fda19_3 rfl (lv_at hl 2 rfl) ?_
  have r1 : Int32.toInt 2400 = 2400 := by decide
  refine gE_void (g_runS (As := [.int 2400, .int p1, .int p2]) (rest := []) (wc := []) (tc := []) hx hb hml hown hg gw_self hP hD hK hS hA hnw hgk [] [] (by decide) rfl rfl (x_rangeCheck l D ks H.size 2400 p1 p2 (show p1.toInt ≤ p2.toInt from by (first | exact om_f4906d00fa52 y1 | omega)) (show 0 ≤ p1.toInt from by (first | exact om_eafa9039069c rg_p1.1 | omega)) (show p2.toInt ≤ (Int32.toInt 2400) from by (first | exact om_232dbc5aaf98 rg_p2.2 r1 | omega))) w1293 w1294 w165 w1295 hdS_yJ7_rangeCheck_23922 ⟨Nat.le_of_ble_eq_true rfl, Nat.le_of_ble_eq_true rfl⟩ rfl hl.1 rfl (Nat.le_of_ble_eq_true rfl) dJ7_fill_fda19_4 ⟨Nat.le_of_ble_eq_true rfl, Nat.le_of_ble_eq_true rfl⟩) hP hD hK hS hA (fun u3 H locs w4 hP hD hK hS => ?_)
  refine lv_iload_n hx hb dJ7_fill_fda19_7 rfl (lv_at hl 1 rfl) ?_
  refine lv_istore (lv' := [(4, .int p1), (0, .ref (ad 27)), (1, .int p1), (2, .int p2), (3, .int p3)]) hx hb dJ7_fill_fda19_8 hl (by decide) rfl (fun ls hl => ?_)
  have lp7 : ∀ (fulp7 : Nat) (y5 : Int32) (V6 : Vf) (H : Heap) (locs : List Loc) (ls : Array Slot), 0 ≤ y5.toInt ∧ y5.toInt ≤ 2400 → p1.toInt ≤ y5.toInt → y5.toInt ≤ p2.toInt → (∀ q : Nat, p1.toInt ≤ (q : Int) → (q : Int) < y5.toInt → V6 30 (q) = p3) → (∀ q : Nat, ¬ (Int32.toNatClampNeg p1 ≤ q ∧ q < Int32.toNatClampNeg p2) → V6 30 q = V 30 q) → p2.toInt - y5.toInt < (fulp7 : Int) → agr [] [30] V V6 → rgd bX V6 → va_P D vwCl (xw ad kk V6 L Z) H → va_D A (xw ad kk V6 L Z) → va_S A s.heap H locs → lv_has ls 5 [(4, .int y5), (0, .ref (ad 27)), (1, .int p1), (2, .int p2), (3, .int p3)] → W p l e r_x_fillChains s m ([.ref (ad 27), .int p1, .int p2, .int p3] : List Value).toArray below meth c H locs 0 0 (MQ below (q_x_fillChains D ks ad kk V L Z p1 p2 p3 A) ([.ref (ad 27), .int p1, .int p2, .int p3] : List Value).toArray s 0 0 A) (F0 m 10 ls []) := by
    intro fulp7
    induction fulp7 with
    | zero =>
      intro y5 V6 H locs ls klp7_0 xlp7_0 xlp7_1 xlp7_2 xlp7_3 hn ajV6 hMV6 hP hD hS hl
      exfalso; (first | exact om_4634b1278845 xlp7_1 hn | omega)
    | succ fulp7 ihlp7 =>
      intro y5 V6 H locs ls klp7_0 xlp7_0 xlp7_1 xlp7_2 xlp7_3 hn ajV6 hMV6 hP hD hS hl
      have agV6 : agr [] [30] V V6 := agV.tr ajV6 (by decide) (by decide)
      refine lv_iload hx hb dJ7_fill_fda19_10 (lv_at hl 0 rfl) ?_
      refine lv_iload_n hx hb dJ7_fill_fda19_12 rfl (lv_at hl 3 rfl) ?_
      refine lv_icmp_ge (tgt := 27) hx hb dJ7_fill_fda19_13 (by decide) (fun c8 => ?_) (fun c8 => ?_)
      · skip
        have f9 : p2.toInt ≤ y5.toInt := b_le rfl rfl c8
        exact W.vret hx hb hr (fun t ht hW => ⟨⟨(V6, L), rfl, ⟨hMV6, agV6, rfl, (fun q h1 h2 => xlp7_2 q (by omega) (by omega)), xlp7_3⟩, by rw [ht]; exact hP, va_K.moved hW.alike hK, hD⟩, hS.F ht⟩) hS.2.2 dJ7_fill_fda19_27
      · skip
        have f10 : y5.toInt < p2.toInt := b_nle rfl rfl c8
        have k9 := i_clamp (x := y5) rfl (by (first | exact om_eafa9039069c klp7_0.1 | omega))
        have k8 := i_clamp (x := p1) rfl (by (first | exact om_eafa9039069c rg_p1.1 | omega))
        have k7 := i_clamp (x := p2) rfl (by (first | exact om_4848bfaf831e rg_p2.1 | omega))
        refine lv_aload_n hx hb dJ7_fill_fda19_16 rfl (lv_at hl 1 rfl) ?_
        refine lv_iload hx hb dJ7_fill_fda19_17 (lv_at hl 0 rfl) ?_
        refine lv_iload_n hx hb dJ7_fill_fda19_19 rfl (lv_at hl 4 rfl) ?_
        refine va_iast (D := D) (i := y5) (x := p3) hx hb hK hP hD hS 27 20 rfl rfl (i_in (a := y5.toInt) rfl (by (first | exact om_529792f1f41e rg_p2.2 klp7_0.1 f10 | omega))) dJ7_fill_fda19_20 (fun H locs hP hD hS => ?_)
        obtain ⟨V11, hV11⟩ : ∃ z, z = up2 V6 30 (Int32.toNatClampNeg y5) p3 := ⟨_, rfl⟩
        have ew12 : (xw ad kk V6 L Z).set 27 ((ad 27), .inl ((kk 27), 2400, .inl (upd (V6 30) (Int32.toNatClampNeg y5) p3))) = xw ad kk V11 L Z := by rw [hV11]; exact xw_ss (by decide) rfl (xb_si (by decide))
        have hP : va_P D vwCl (xw ad kk V11 L Z) H := by rw [← ew12]; exact hP
        have hD : va_D A (xw ad kk V11 L Z) := by rw [← ew12]; exact hD
        have hMV11 : rgd bX V11 := hMV6.put hV11 (show (-1) ≤ p3.toInt ∧ p3.toInt ≤ 262143 from by (first | exact om_2d85344f1d27 rg_p3.1 rg_p3.2 | omega))
        have agV11 : agr [] [30] V V11 := agV6.up hV11 rfl
        obtain ⟨z13, ez13⟩ : ∃ y : Int32, y = y5 + 1 := ⟨_, rfl⟩
        have hz13 : z13.toInt = y5.toInt + 1 := i_add ez13 rfl (by decide) (by (first | exact om_8d2713e457be rg_p2.2 klp7_0.1 f10 | omega))
        refine lv_iinc (v := z13) (lv' := [(4, .int z13), (0, .ref (ad 27)), (1, .int p1), (2, .int p2), (3, .int p3)]) hx hb dJ7_fill_fda19_21 hl (k := 0) rfl (by rw [ez13]; rfl) (by decide) rfl (fun ls hl => ?_)
        refine lv_goto (tgt := 10) hx hb dJ7_fill_fda19_24 (by decide) ?_
        exact ihlp7 z13 V11 H locs ls (by (first | exact om_8e6619aece48 rg_p2.2 klp7_0.1 f10 hz13 | omega)) (show p1.toInt ≤ z13.toInt from by (first | exact om_f75a30b4c815 xlp7_0 hz13 | omega)) (show z13.toInt ≤ p2.toInt from by (first | exact om_7fe9249fc074 f10 hz13 | omega)) (fun q h1 h2 => by rcases Decidable.em ((q) = (Int32.toNatClampNeg y5)) with h9 | h9; (rw [h9]; exact up2_s hV11); (rw [up2_k hV11 h9]; exact xlp7_2 q h1 (by omega))) (fun q h1 => (up2_k hV11 (fun h9 => h1 (by omega))).trans (xlp7_3 q h1)) (by (first | exact om_9e7d2b874257 hn hz13 | omega)) (agr.up (agr.tr agr.rf ajV6 (by decide) (by decide)) hV11 rfl) hMV11 hP hD hS (lv_sub hl [0, 1, 2, 3, 4] rfl)
  exact lp7 ((p2.toInt - p1.toInt + 1 : Int).toNat) p1 V H locs ls (by (first | exact om_206a4c627190 rg_p1.1 rg_p1.2 | omega)) (show p1.toInt ≤ p1.toInt from by (first | exact om_5977f3d8a10f | omega)) (show p1.toInt ≤ p2.toInt from by (first | exact om_f4906d00fa52 y1 | omega)) (fun q h1 h2 => absurd h2 (by omega)) (fun q h1 => rfl) (by (first | exact om_7441a7786481 | omega)) agr.rf hMV hP hD hS (lv_sub hl [0, 1, 2, 3, 4] rfl)
abbrev r_x_bitCount : Room := { frames := 0, cells := 0, slots := 0, locals := 0 }
abbrev q_x_bitCount (D : va_G) (p0 : Int32) (A : Nat → Prop) : Array Value → State → Outcome → State → Prop := va_Qi (fun (r : Int32) (_ : Unit) => True) (fun _ t => gq D A [] [] t) A
end
