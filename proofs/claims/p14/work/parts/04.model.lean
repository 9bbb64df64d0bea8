theorem w1705 : Cond.code yX12_isLetter cX12_isLetter 1 (some .boolean) ∈ GW := gw_k tk9_7 110 (rfl) rfl
theorem w1703 : Cond.methodLink RX12 247 yX12_isLetter ∈ GW := gw_k tk9_7 108 (by decide +kernel) rfl
theorem w172 : Cond.initialized RX12 ∈ GW := gw_k tk9_1 17 (by decide +kernel) rfl
theorem w1704 : Cond.static yX12_isLetter ∈ GW := gw_k tk9_7 109 (by decide +kernel) rfl
theorem hdS_yX12_isLetter : yX12_isLetter.cls ≠ "java/lang/invoke/MethodHandle" ∧ yX12_isLetter.cls ≠ "java/lang/invoke/VarHandle" ∧ (parseMethodDescriptor yX12_isLetter.desc).map (fun d => d.parameters.length) = some 1 := by decide +kernel
theorem w1775 : Cond.fieldLink RX12 432 "WiringHouseModel" "latest" "I" ∈ GW := gw_k tk9_7 180 (by decide +kernel) rfl
theorem w1774 : Cond.fieldLink RX12 477 "WiringHouseModel" "steps" "I" ∈ GW := gw_k tk9_7 179 (by decide +kernel) rfl
theorem w2263 : Cond.constant RX12 480 60000 ∈ GW := gw_k tk9_9 188 (by decide +kernel) rfl
theorem w1796 : Cond.fieldLink RX12 471 "WiringHouseModel" "twenties" "I" ∈ GW := gw_k tk9_7 201 (by decide +kernel) rfl
theorem w1797 : Cond.fieldLink RX12 474 "WiringHouseModel" "kind" "I" ∈ GW := gw_k tk9_7 202 (by decide +kernel) rfl
theorem w1706 : Cond.fieldLink RX12 1 "WiringHouseModel" "thrown" "I" ∈ GW := gw_k tk9_7 111 (by decide +kernel) rfl
theorem w1777 : Cond.fieldLink RX12 426 "WiringHouseModel" "causeTwenties" "I" ∈ GW := gw_k tk9_7 182 (by decide +kernel) rfl
theorem w1778 : Cond.fieldLink RX12 429 "WiringHouseModel" "causeKind" "I" ∈ GW := gw_k tk9_7 183 (by decide +kernel) rfl
theorem w1776 : Cond.fieldLink RX12 423 "WiringHouseModel" "outcome" "I" ∈ GW := gw_k tk9_7 181 (by decide +kernel) rfl
theorem dk9_dX12_isLetter_0_0 : dOk cX12_isLetter [(0, .iload_n 0, 1), (1, .bipush 97, 2), (3, .if_icmp .lt 13, 3), (16, .iconst 0, 1), (17, .ireturn, 1), (6, .iload_n 0, 1), (7, .bipush 122, 2), (9, .if_icmp .gt 7, 3), (12, .iconst 1, 1), (13, .goto 4, 3)] = true := by decide +kernel
theorem dX12_isLetter_0 : decode cX12_isLetter 0 = .ok (.iload_n 0, 1) := dr9 dk9_dX12_isLetter_0_0 0 (0, .iload_n 0, 1) rfl
theorem dX12_isLetter_1 : decode cX12_isLetter 1 = .ok (.bipush 97, 2) := dr9 dk9_dX12_isLetter_0_0 1 (1, .bipush 97, 2) rfl
theorem dX12_isLetter_3 : decode cX12_isLetter 3 = .ok (.if_icmp .lt 13, 3) := dr9 dk9_dX12_isLetter_0_0 2 (3, .if_icmp .lt 13, 3) rfl
theorem dX12_isLetter_16 : decode cX12_isLetter 16 = .ok (.iconst 0, 1) := dr9 dk9_dX12_isLetter_0_0 3 (16, .iconst 0, 1) rfl
theorem dX12_isLetter_17 : decode cX12_isLetter 17 = .ok (.ireturn, 1) := dr9 dk9_dX12_isLetter_0_0 4 (17, .ireturn, 1) rfl
theorem dX12_isLetter_6 : decode cX12_isLetter 6 = .ok (.iload_n 0, 1) := dr9 dk9_dX12_isLetter_0_0 5 (6, .iload_n 0, 1) rfl
theorem dX12_isLetter_7 : decode cX12_isLetter 7 = .ok (.bipush 122, 2) := dr9 dk9_dX12_isLetter_0_0 6 (7, .bipush 122, 2) rfl
theorem dX12_isLetter_9 : decode cX12_isLetter 9 = .ok (.if_icmp .gt 7, 3) := dr9 dk9_dX12_isLetter_0_0 7 (9, .if_icmp .gt 7, 3) rfl
theorem dX12_isLetter_12 : decode cX12_isLetter 12 = .ok (.iconst 1, 1) := dr9 dk9_dX12_isLetter_0_0 8 (12, .iconst 1, 1) rfl
theorem dX12_isLetter_13 : decode cX12_isLetter 13 = .ok (.goto 4, 3) := dr9 dk9_dX12_isLetter_0_0 9 (13, .goto 4, 3) rfl
theorem dk9_dX12_isDigit_0_0 : dOk cX12_isDigit [(0, .iload_n 0, 1), (1, .bipush 48, 2), (3, .if_icmp .lt 13, 3), (16, .iconst 0, 1), (17, .ireturn, 1), (6, .iload_n 0, 1), (7, .bipush 57, 2), (9, .if_icmp .gt 7, 3), (12, .iconst 1, 1), (13, .goto 4, 3)] = true := by decide +kernel
theorem dX12_isDigit_0 : decode cX12_isDigit 0 = .ok (.iload_n 0, 1) := dr9 dk9_dX12_isDigit_0_0 0 (0, .iload_n 0, 1) rfl
theorem dX12_isDigit_1 : decode cX12_isDigit 1 = .ok (.bipush 48, 2) := dr9 dk9_dX12_isDigit_0_0 1 (1, .bipush 48, 2) rfl
theorem dX12_isDigit_3 : decode cX12_isDigit 3 = .ok (.if_icmp .lt 13, 3) := dr9 dk9_dX12_isDigit_0_0 2 (3, .if_icmp .lt 13, 3) rfl
theorem dX12_isDigit_16 : decode cX12_isDigit 16 = .ok (.iconst 0, 1) := dr9 dk9_dX12_isDigit_0_0 3 (16, .iconst 0, 1) rfl
theorem dX12_isDigit_17 : decode cX12_isDigit 17 = .ok (.ireturn, 1) := dr9 dk9_dX12_isDigit_0_0 4 (17, .ireturn, 1) rfl
theorem dX12_isDigit_6 : decode cX12_isDigit 6 = .ok (.iload_n 0, 1) := dr9 dk9_dX12_isDigit_0_0 5 (6, .iload_n 0, 1) rfl
theorem dX12_isDigit_7 : decode cX12_isDigit 7 = .ok (.bipush 57, 2) := dr9 dk9_dX12_isDigit_0_0 6 (7, .bipush 57, 2) rfl
theorem dX12_isDigit_9 : decode cX12_isDigit 9 = .ok (.if_icmp .gt 7, 3) := dr9 dk9_dX12_isDigit_0_0 7 (9, .if_icmp .gt 7, 3) rfl
theorem dX12_isDigit_12 : decode cX12_isDigit 12 = .ok (.iconst 1, 1) := dr9 dk9_dX12_isDigit_0_0 8 (12, .iconst 1, 1) rfl
theorem dX12_isDigit_13 : decode cX12_isDigit 13 = .ok (.goto 4, 3) := dr9 dk9_dX12_isDigit_0_0 9 (13, .goto 4, 3) rfl
theorem dk9_dX12_rank_0_0 : dOk cX12_rank [(0, .iload_n 0, 1), (1, .invokestatic 247, 3), (4, .ifCond .eq 10, 3), (14, .iload_n 0, 1), (15, .bipush 21, 2), (17, .isub, 1), (18, .ireturn, 1), (7, .iload_n 0, 1), (8, .bipush 96, 2), (10, .isub, 1), (11, .goto 7, 3)] = true := by decide +kernel
theorem dX12_rank_0 : decode cX12_rank 0 = .ok (.iload_n 0, 1) := dr9 dk9_dX12_rank_0_0 0 (0, .iload_n 0, 1) rfl
theorem dX12_rank_1 : decode cX12_rank 1 = .ok (.invokestatic 247, 3) := dr9 dk9_dX12_rank_0_0 1 (1, .invokestatic 247, 3) rfl
theorem dX12_rank_4 : decode cX12_rank 4 = .ok (.ifCond .eq 10, 3) := dr9 dk9_dX12_rank_0_0 2 (4, .ifCond .eq 10, 3) rfl
theorem dX12_rank_14 : decode cX12_rank 14 = .ok (.iload_n 0, 1) := dr9 dk9_dX12_rank_0_0 3 (14, .iload_n 0, 1) rfl
theorem dX12_rank_15 : decode cX12_rank 15 = .ok (.bipush 21, 2) := dr9 dk9_dX12_rank_0_0 4 (15, .bipush 21, 2) rfl
theorem dX12_rank_17 : decode cX12_rank 17 = .ok (.isub, 1) := dr9 dk9_dX12_rank_0_0 5 (17, .isub, 1) rfl
theorem dX12_rank_18 : decode cX12_rank 18 = .ok (.ireturn, 1) := dr9 dk9_dX12_rank_0_0 6 (18, .ireturn, 1) rfl
theorem dX12_rank_7 : decode cX12_rank 7 = .ok (.iload_n 0, 1) := dr9 dk9_dX12_rank_0_0 7 (7, .iload_n 0, 1) rfl
theorem dX12_rank_8 : decode cX12_rank 8 = .ok (.bipush 96, 2) := dr9 dk9_dX12_rank_0_0 8 (8, .bipush 96, 2) rfl
theorem dX12_rank_10 : decode cX12_rank 10 = .ok (.isub, 1) := dr9 dk9_dX12_rank_0_0 9 (10, .isub, 1) rfl
theorem dX12_rank_11 : decode cX12_rank 11 = .ok (.goto 7, 3) := dr9 dk9_dX12_rank_0_0 10 (11, .goto 7, 3) rfl
theorem dk9_dX12_isSignOf_0_0 : dOk cX12_isSignOf [(0, .iload_n 0, 1), (1, .bipush 123, 2), (3, .if_icmp .eq 69, 3), (72, .iconst 1, 1), (73, .goto 4, 3), (77, .ireturn, 1), (6, .iload_n 0, 1), (7, .bipush 125, 2), (9, .if_icmp .eq 63, 3), (12, .iload_n 0, 1), (13, .bipush 40, 2), (15, .if_icmp .eq 57, 3), (18, .iload_n 0, 1), (19, .bipush 41, 2), (21, .if_icmp .eq 51, 3), (24, .iload_n 0, 1), (25, .bipush 44, 2), (27, .if_icmp .eq 45, 3), (30, .iload_n 0, 1), (31, .bipush 59, 2), (33, .if_icmp .eq 39, 3), (36, .iload_n 0, 1), (37, .bipush 61, 2), (39, .if_icmp .eq 33, 3)] = true ∧ dOk cX12_isSignOf [(42, .iload_n 0, 1), (43, .bipush 60, 2), (45, .if_icmp .eq 27, 3), (48, .iload_n 0, 1), (49, .bipush 43, 2), (51, .if_icmp .eq 21, 3), (54, .iload_n 0, 1), (55, .bipush 45, 2), (57, .if_icmp .eq 15, 3), (60, .iload_n 0, 1), (61, .bipush 42, 2), (63, .if_icmp .eq 9, 3), (66, .iload_n 0, 1), (67, .bipush 46, 2), (69, .if_icmp .ne 7, 3), (76, .iconst 0, 1)] = true := by decide +kernel
theorem dX12_isSignOf_0 : decode cX12_isSignOf 0 = .ok (.iload_n 0, 1) := dr9 dk9_dX12_isSignOf_0_0.1 0 (0, .iload_n 0, 1) rfl
theorem dX12_isSignOf_1 : decode cX12_isSignOf 1 = .ok (.bipush 123, 2) := dr9 dk9_dX12_isSignOf_0_0.1 1 (1, .bipush 123, 2) rfl
theorem dX12_isSignOf_3 : decode cX12_isSignOf 3 = .ok (.if_icmp .eq 69, 3) := dr9 dk9_dX12_isSignOf_0_0.1 2 (3, .if_icmp .eq 69, 3) rfl
theorem dX12_isSignOf_72 : decode cX12_isSignOf 72 = .ok (.iconst 1, 1) := dr9 dk9_dX12_isSignOf_0_0.1 3 (72, .iconst 1, 1) rfl
theorem dX12_isSignOf_73 : decode cX12_isSignOf 73 = .ok (.goto 4, 3) := dr9 dk9_dX12_isSignOf_0_0.1 4 (73, .goto 4, 3) rfl
theorem dX12_isSignOf_77 : decode cX12_isSignOf 77 = .ok (.ireturn, 1) := dr9 dk9_dX12_isSignOf_0_0.1 5 (77, .ireturn, 1) rfl
theorem dX12_isSignOf_6 : decode cX12_isSignOf 6 = .ok (.iload_n 0, 1) := dr9 dk9_dX12_isSignOf_0_0.1 6 (6, .iload_n 0, 1) rfl
theorem dX12_isSignOf_7 : decode cX12_isSignOf 7 = .ok (.bipush 125, 2) := dr9 dk9_dX12_isSignOf_0_0.1 7 (7, .bipush 125, 2) rfl
theorem dX12_isSignOf_9 : decode cX12_isSignOf 9 = .ok (.if_icmp .eq 63, 3) := dr9 dk9_dX12_isSignOf_0_0.1 8 (9, .if_icmp .eq 63, 3) rfl
theorem dX12_isSignOf_12 : decode cX12_isSignOf 12 = .ok (.iload_n 0, 1) := dr9 dk9_dX12_isSignOf_0_0.1 9 (12, .iload_n 0, 1) rfl
theorem dX12_isSignOf_13 : decode cX12_isSignOf 13 = .ok (.bipush 40, 2) := dr9 dk9_dX12_isSignOf_0_0.1 10 (13, .bipush 40, 2) rfl
theorem dX12_isSignOf_15 : decode cX12_isSignOf 15 = .ok (.if_icmp .eq 57, 3) := dr9 dk9_dX12_isSignOf_0_0.1 11 (15, .if_icmp .eq 57, 3) rfl
theorem dX12_isSignOf_18 : decode cX12_isSignOf 18 = .ok (.iload_n 0, 1) := dr9 dk9_dX12_isSignOf_0_0.1 12 (18, .iload_n 0, 1) rfl
theorem dX12_isSignOf_19 : decode cX12_isSignOf 19 = .ok (.bipush 41, 2) := dr9 dk9_dX12_isSignOf_0_0.1 13 (19, .bipush 41, 2) rfl
theorem dX12_isSignOf_21 : decode cX12_isSignOf 21 = .ok (.if_icmp .eq 51, 3) := dr9 dk9_dX12_isSignOf_0_0.1 14 (21, .if_icmp .eq 51, 3) rfl
theorem dX12_isSignOf_24 : decode cX12_isSignOf 24 = .ok (.iload_n 0, 1) := dr9 dk9_dX12_isSignOf_0_0.1 15 (24, .iload_n 0, 1) rfl
theorem dX12_isSignOf_25 : decode cX12_isSignOf 25 = .ok (.bipush 44, 2) := dr9 dk9_dX12_isSignOf_0_0.1 16 (25, .bipush 44, 2) rfl
theorem dX12_isSignOf_27 : decode cX12_isSignOf 27 = .ok (.if_icmp .eq 45, 3) := dr9 dk9_dX12_isSignOf_0_0.1 17 (27, .if_icmp .eq 45, 3) rfl
theorem dX12_isSignOf_30 : decode cX12_isSignOf 30 = .ok (.iload_n 0, 1) := dr9 dk9_dX12_isSignOf_0_0.1 18 (30, .iload_n 0, 1) rfl
theorem dX12_isSignOf_31 : decode cX12_isSignOf 31 = .ok (.bipush 59, 2) := dr9 dk9_dX12_isSignOf_0_0.1 19 (31, .bipush 59, 2) rfl
theorem dX12_isSignOf_33 : decode cX12_isSignOf 33 = .ok (.if_icmp .eq 39, 3) := dr9 dk9_dX12_isSignOf_0_0.1 20 (33, .if_icmp .eq 39, 3) rfl
theorem dX12_isSignOf_36 : decode cX12_isSignOf 36 = .ok (.iload_n 0, 1) := dr9 dk9_dX12_isSignOf_0_0.1 21 (36, .iload_n 0, 1) rfl
theorem dX12_isSignOf_37 : decode cX12_isSignOf 37 = .ok (.bipush 61, 2) := dr9 dk9_dX12_isSignOf_0_0.1 22 (37, .bipush 61, 2) rfl
theorem dX12_isSignOf_39 : decode cX12_isSignOf 39 = .ok (.if_icmp .eq 33, 3) := dr9 dk9_dX12_isSignOf_0_0.1 23 (39, .if_icmp .eq 33, 3) rfl
theorem dX12_isSignOf_42 : decode cX12_isSignOf 42 = .ok (.iload_n 0, 1) := dr9 dk9_dX12_isSignOf_0_0.2 0 (42, .iload_n 0, 1) rfl
theorem dX12_isSignOf_43 : decode cX12_isSignOf 43 = .ok (.bipush 60, 2) := dr9 dk9_dX12_isSignOf_0_0.2 1 (43, .bipush 60, 2) rfl
theorem dX12_isSignOf_45 : decode cX12_isSignOf 45 = .ok (.if_icmp .eq 27, 3) := dr9 dk9_dX12_isSignOf_0_0.2 2 (45, .if_icmp .eq 27, 3) rfl
theorem dX12_isSignOf_48 : decode cX12_isSignOf 48 = .ok (.iload_n 0, 1) := dr9 dk9_dX12_isSignOf_0_0.2 3 (48, .iload_n 0, 1) rfl
theorem dX12_isSignOf_49 : decode cX12_isSignOf 49 = .ok (.bipush 43, 2) := dr9 dk9_dX12_isSignOf_0_0.2 4 (49, .bipush 43, 2) rfl
theorem dX12_isSignOf_51 : decode cX12_isSignOf 51 = .ok (.if_icmp .eq 21, 3) := dr9 dk9_dX12_isSignOf_0_0.2 5 (51, .if_icmp .eq 21, 3) rfl
theorem dX12_isSignOf_54 : decode cX12_isSignOf 54 = .ok (.iload_n 0, 1) := dr9 dk9_dX12_isSignOf_0_0.2 6 (54, .iload_n 0, 1) rfl
theorem dX12_isSignOf_55 : decode cX12_isSignOf 55 = .ok (.bipush 45, 2) := dr9 dk9_dX12_isSignOf_0_0.2 7 (55, .bipush 45, 2) rfl
theorem dX12_isSignOf_57 : decode cX12_isSignOf 57 = .ok (.if_icmp .eq 15, 3) := dr9 dk9_dX12_isSignOf_0_0.2 8 (57, .if_icmp .eq 15, 3) rfl
theorem dX12_isSignOf_60 : decode cX12_isSignOf 60 = .ok (.iload_n 0, 1) := dr9 dk9_dX12_isSignOf_0_0.2 9 (60, .iload_n 0, 1) rfl
theorem dX12_isSignOf_61 : decode cX12_isSignOf 61 = .ok (.bipush 42, 2) := dr9 dk9_dX12_isSignOf_0_0.2 10 (61, .bipush 42, 2) rfl
theorem dX12_isSignOf_63 : decode cX12_isSignOf 63 = .ok (.if_icmp .eq 9, 3) := dr9 dk9_dX12_isSignOf_0_0.2 11 (63, .if_icmp .eq 9, 3) rfl
theorem dX12_isSignOf_66 : decode cX12_isSignOf 66 = .ok (.iload_n 0, 1) := dr9 dk9_dX12_isSignOf_0_0.2 12 (66, .iload_n 0, 1) rfl
theorem dX12_isSignOf_67 : decode cX12_isSignOf 67 = .ok (.bipush 46, 2) := dr9 dk9_dX12_isSignOf_0_0.2 13 (67, .bipush 46, 2) rfl
theorem dX12_isSignOf_69 : decode cX12_isSignOf 69 = .ok (.if_icmp .ne 7, 3) := dr9 dk9_dX12_isSignOf_0_0.2 14 (69, .if_icmp .ne 7, 3) rfl
theorem dX12_isSignOf_76 : decode cX12_isSignOf 76 = .ok (.iconst 0, 1) := dr9 dk9_dX12_isSignOf_0_0.2 15 (76, .iconst 0, 1) rfl
theorem dk9_dX12_step_0_0 : dOk cX12_step [(0, .aload_n 0, 1), (1, .getfield 432, 3), (4, .sipush 3000, 3), (7, .if_icmp .eq 13, 3), (20, .iconst 0, 1), (21, .ireturn, 1), (10, .aload_n 0, 1), (11, .getfield 477, 3), (14, .ldc_w 480, 3), (17, .if_icmp .ne 5, 3), (22, .aload_n 0, 1), (23, .dup, 1), (24, .getfield 432, 3), (27, .iconst 1, 1), (28, .iadd, 1), (29, .putfield 432, 3), (32, .aload_n 0, 1), (33, .dup, 1), (34, .getfield 477, 3), (37, .iconst 1, 1), (38, .iadd, 1), (39, .putfield 477, 3), (42, .iconst 1, 1), (43, .ireturn, 1)] = true := by decide +kernel
theorem dX12_step_0 : decode cX12_step 0 = .ok (.aload_n 0, 1) := dr9 dk9_dX12_step_0_0 0 (0, .aload_n 0, 1) rfl
theorem dX12_step_1 : decode cX12_step 1 = .ok (.getfield 432, 3) := dr9 dk9_dX12_step_0_0 1 (1, .getfield 432, 3) rfl
theorem dX12_step_4 : decode cX12_step 4 = .ok (.sipush 3000, 3) := dr9 dk9_dX12_step_0_0 2 (4, .sipush 3000, 3) rfl
theorem dX12_step_7 : decode cX12_step 7 = .ok (.if_icmp .eq 13, 3) := dr9 dk9_dX12_step_0_0 3 (7, .if_icmp .eq 13, 3) rfl
theorem dX12_step_20 : decode cX12_step 20 = .ok (.iconst 0, 1) := dr9 dk9_dX12_step_0_0 4 (20, .iconst 0, 1) rfl
theorem dX12_step_21 : decode cX12_step 21 = .ok (.ireturn, 1) := dr9 dk9_dX12_step_0_0 5 (21, .ireturn, 1) rfl
theorem dX12_step_10 : decode cX12_step 10 = .ok (.aload_n 0, 1) := dr9 dk9_dX12_step_0_0 6 (10, .aload_n 0, 1) rfl
theorem dX12_step_11 : decode cX12_step 11 = .ok (.getfield 477, 3) := dr9 dk9_dX12_step_0_0 7 (11, .getfield 477, 3) rfl
theorem dX12_step_14 : decode cX12_step 14 = .ok (.ldc_w 480, 3) := dr9 dk9_dX12_step_0_0 8 (14, .ldc_w 480, 3) rfl
theorem dX12_step_17 : decode cX12_step 17 = .ok (.if_icmp .ne 5, 3) := dr9 dk9_dX12_step_0_0 9 (17, .if_icmp .ne 5, 3) rfl
theorem dX12_step_22 : decode cX12_step 22 = .ok (.aload_n 0, 1) := dr9 dk9_dX12_step_0_0 10 (22, .aload_n 0, 1) rfl
theorem dX12_step_23 : decode cX12_step 23 = .ok (.dup, 1) := dr9 dk9_dX12_step_0_0 11 (23, .dup, 1) rfl
theorem dX12_step_24 : decode cX12_step 24 = .ok (.getfield 432, 3) := dr9 dk9_dX12_step_0_0 12 (24, .getfield 432, 3) rfl
theorem dX12_step_27 : decode cX12_step 27 = .ok (.iconst 1, 1) := dr9 dk9_dX12_step_0_0 13 (27, .iconst 1, 1) rfl
theorem dX12_step_28 : decode cX12_step 28 = .ok (.iadd, 1) := dr9 dk9_dX12_step_0_0 14 (28, .iadd, 1) rfl
theorem dX12_step_29 : decode cX12_step 29 = .ok (.putfield 432, 3) := dr9 dk9_dX12_step_0_0 15 (29, .putfield 432, 3) rfl
theorem dX12_step_32 : decode cX12_step 32 = .ok (.aload_n 0, 1) := dr9 dk9_dX12_step_0_0 16 (32, .aload_n 0, 1) rfl
theorem dX12_step_33 : decode cX12_step 33 = .ok (.dup, 1) := dr9 dk9_dX12_step_0_0 17 (33, .dup, 1) rfl
theorem dX12_step_34 : decode cX12_step 34 = .ok (.getfield 477, 3) := dr9 dk9_dX12_step_0_0 18 (34, .getfield 477, 3) rfl
theorem dX12_step_37 : decode cX12_step 37 = .ok (.iconst 1, 1) := dr9 dk9_dX12_step_0_0 19 (37, .iconst 1, 1) rfl
theorem dX12_step_38 : decode cX12_step 38 = .ok (.iadd, 1) := dr9 dk9_dX12_step_0_0 20 (38, .iadd, 1) rfl
theorem dX12_step_39 : decode cX12_step 39 = .ok (.putfield 477, 3) := dr9 dk9_dX12_step_0_0 21 (39, .putfield 477, 3) rfl
theorem dX12_step_42 : decode cX12_step 42 = .ok (.iconst 1, 1) := dr9 dk9_dX12_step_0_0 22 (42, .iconst 1, 1) rfl
theorem dX12_step_43 : decode cX12_step 43 = .ok (.ireturn, 1) := dr9 dk9_dX12_step_0_0 23 (43, .ireturn, 1) rfl
theorem dk9_dX12_fails_0_0 : dOk cX12_fails [(0, .aload_n 0, 1), (1, .iconst 0, 1), (2, .putfield 471, 3), (5, .aload_n 0, 1), (6, .iload_n 1, 1), (7, .putfield 474, 3), (10, .iconst 1, 1), (11, .ireturn, 1)] = true := by decide +kernel
theorem dX12_fails_0 : decode cX12_fails 0 = .ok (.aload_n 0, 1) := dr9 dk9_dX12_fails_0_0 0 (0, .aload_n 0, 1) rfl
theorem dX12_fails_1 : decode cX12_fails 1 = .ok (.iconst 0, 1) := dr9 dk9_dX12_fails_0_0 1 (1, .iconst 0, 1) rfl
theorem dX12_fails_2 : decode cX12_fails 2 = .ok (.putfield 471, 3) := dr9 dk9_dX12_fails_0_0 2 (2, .putfield 471, 3) rfl
theorem dX12_fails_5 : decode cX12_fails 5 = .ok (.aload_n 0, 1) := dr9 dk9_dX12_fails_0_0 3 (5, .aload_n 0, 1) rfl
theorem dX12_fails_6 : decode cX12_fails 6 = .ok (.iload_n 1, 1) := dr9 dk9_dX12_fails_0_0 4 (6, .iload_n 1, 1) rfl
theorem dX12_fails_7 : decode cX12_fails 7 = .ok (.putfield 474, 3) := dr9 dk9_dX12_fails_0_0 5 (7, .putfield 474, 3) rfl
theorem dX12_fails_10 : decode cX12_fails 10 = .ok (.iconst 1, 1) := dr9 dk9_dX12_fails_0_0 6 (10, .iconst 1, 1) rfl
theorem dX12_fails_11 : decode cX12_fails 11 = .ok (.ireturn, 1) := dr9 dk9_dX12_fails_0_0 7 (11, .ireturn, 1) rfl
theorem dk9_dX12_longness_0_0 : dOk cX12_longness [(0, .iload_n 0, 1), (1, .ifCond .ne 7, 3), (8, .iload_n 0, 1), (9, .iconst 1, 1), (10, .if_icmp .ne 7, 3), (17, .iconst 1, 1), (18, .ireturn, 1), (13, .iconst 2, 1), (14, .goto 4, 3), (4, .iconst 3, 1), (5, .goto 13, 3)] = true := by decide +kernel
theorem dX12_longness_0 : decode cX12_longness 0 = .ok (.iload_n 0, 1) := dr9 dk9_dX12_longness_0_0 0 (0, .iload_n 0, 1) rfl
theorem dX12_longness_1 : decode cX12_longness 1 = .ok (.ifCond .ne 7, 3) := dr9 dk9_dX12_longness_0_0 1 (1, .ifCond .ne 7, 3) rfl
theorem dX12_longness_8 : decode cX12_longness 8 = .ok (.iload_n 0, 1) := dr9 dk9_dX12_longness_0_0 2 (8, .iload_n 0, 1) rfl
theorem dX12_longness_9 : decode cX12_longness 9 = .ok (.iconst 1, 1) := dr9 dk9_dX12_longness_0_0 3 (9, .iconst 1, 1) rfl
theorem dX12_longness_10 : decode cX12_longness 10 = .ok (.if_icmp .ne 7, 3) := dr9 dk9_dX12_longness_0_0 4 (10, .if_icmp .ne 7, 3) rfl
theorem dX12_longness_17 : decode cX12_longness 17 = .ok (.iconst 1, 1) := dr9 dk9_dX12_longness_0_0 5 (17, .iconst 1, 1) rfl
theorem dX12_longness_18 : decode cX12_longness 18 = .ok (.ireturn, 1) := dr9 dk9_dX12_longness_0_0 6 (18, .ireturn, 1) rfl
theorem dX12_longness_13 : decode cX12_longness 13 = .ok (.iconst 2, 1) := dr9 dk9_dX12_longness_0_0 7 (13, .iconst 2, 1) rfl
theorem dX12_longness_14 : decode cX12_longness 14 = .ok (.goto 4, 3) := dr9 dk9_dX12_longness_0_0 8 (14, .goto 4, 3) rfl
theorem dX12_longness_4 : decode cX12_longness 4 = .ok (.iconst 3, 1) := dr9 dk9_dX12_longness_0_0 9 (4, .iconst 3, 1) rfl
theorem dX12_longness_5 : decode cX12_longness 5 = .ok (.goto 13, 3) := dr9 dk9_dX12_longness_0_0 10 (5, .goto 13, 3) rfl
theorem dk9_dX12_cause_0_0 : dOk cX12_cause [(0, .aload_n 0, 1), (1, .iconst 0, 1), (2, .putfield 1, 3), (5, .iload_n 1, 1), (6, .ifCond .lt 16, 3), (22, .iload_n 1, 1), (23, .aload_n 0, 1), (24, .getfield 426, 3), (27, .if_icmp .ne 10, 3), (37, .iconst 0, 1), (38, .ireturn, 1), (30, .aload_n 0, 1), (31, .getfield 429, 3), (34, .goto 4, 3), (9, .iload_n 1, 1), (10, .aload_n 0, 1), (11, .getfield 426, 3), (14, .if_icmp .ge 8, 3), (17, .bipush 20, 2), (19, .goto 19, 3)] = true := by decide +kernel
theorem dX12_cause_0 : decode cX12_cause 0 = .ok (.aload_n 0, 1) := dr9 dk9_dX12_cause_0_0 0 (0, .aload_n 0, 1) rfl
theorem dX12_cause_1 : decode cX12_cause 1 = .ok (.iconst 0, 1) := dr9 dk9_dX12_cause_0_0 1 (1, .iconst 0, 1) rfl
theorem dX12_cause_2 : decode cX12_cause 2 = .ok (.putfield 1, 3) := dr9 dk9_dX12_cause_0_0 2 (2, .putfield 1, 3) rfl
theorem dX12_cause_5 : decode cX12_cause 5 = .ok (.iload_n 1, 1) := dr9 dk9_dX12_cause_0_0 3 (5, .iload_n 1, 1) rfl
theorem dX12_cause_6 : decode cX12_cause 6 = .ok (.ifCond .lt 16, 3) := dr9 dk9_dX12_cause_0_0 4 (6, .ifCond .lt 16, 3) rfl
theorem dX12_cause_22 : decode cX12_cause 22 = .ok (.iload_n 1, 1) := dr9 dk9_dX12_cause_0_0 5 (22, .iload_n 1, 1) rfl
theorem dX12_cause_23 : decode cX12_cause 23 = .ok (.aload_n 0, 1) := dr9 dk9_dX12_cause_0_0 6 (23, .aload_n 0, 1) rfl
theorem dX12_cause_24 : decode cX12_cause 24 = .ok (.getfield 426, 3) := dr9 dk9_dX12_cause_0_0 7 (24, .getfield 426, 3) rfl
theorem dX12_cause_27 : decode cX12_cause 27 = .ok (.if_icmp .ne 10, 3) := dr9 dk9_dX12_cause_0_0 8 (27, .if_icmp .ne 10, 3) rfl
theorem dX12_cause_37 : decode cX12_cause 37 = .ok (.iconst 0, 1) := dr9 dk9_dX12_cause_0_0 9 (37, .iconst 0, 1) rfl
theorem dX12_cause_38 : decode cX12_cause 38 = .ok (.ireturn, 1) := dr9 dk9_dX12_cause_0_0 10 (38, .ireturn, 1) rfl
theorem dX12_cause_30 : decode cX12_cause 30 = .ok (.aload_n 0, 1) := dr9 dk9_dX12_cause_0_0 11 (30, .aload_n 0, 1) rfl
theorem dX12_cause_31 : decode cX12_cause 31 = .ok (.getfield 429, 3) := dr9 dk9_dX12_cause_0_0 12 (31, .getfield 429, 3) rfl
theorem dX12_cause_34 : decode cX12_cause 34 = .ok (.goto 4, 3) := dr9 dk9_dX12_cause_0_0 13 (34, .goto 4, 3) rfl
theorem dX12_cause_9 : decode cX12_cause 9 = .ok (.iload_n 1, 1) := dr9 dk9_dX12_cause_0_0 14 (9, .iload_n 1, 1) rfl
theorem dX12_cause_10 : decode cX12_cause 10 = .ok (.aload_n 0, 1) := dr9 dk9_dX12_cause_0_0 15 (10, .aload_n 0, 1) rfl
theorem dX12_cause_11 : decode cX12_cause 11 = .ok (.getfield 426, 3) := dr9 dk9_dX12_cause_0_0 16 (11, .getfield 426, 3) rfl
theorem dX12_cause_14 : decode cX12_cause 14 = .ok (.if_icmp .ge 8, 3) := dr9 dk9_dX12_cause_0_0 17 (14, .if_icmp .ge 8, 3) rfl
theorem dX12_cause_17 : decode cX12_cause 17 = .ok (.bipush 20, 2) := dr9 dk9_dX12_cause_0_0 18 (17, .bipush 20, 2) rfl
theorem dX12_cause_19 : decode cX12_cause 19 = .ok (.goto 19, 3) := dr9 dk9_dX12_cause_0_0 19 (19, .goto 19, 3) rfl
theorem dk9_dX12_outcome_0_0 : dOk cX12_outcome [(0, .aload_n 0, 1), (1, .iconst 0, 1), (2, .putfield 1, 3), (5, .aload_n 0, 1), (6, .getfield 423, 3), (9, .ireturn, 1)] = true := by decide +kernel
theorem dX12_outcome_0 : decode cX12_outcome 0 = .ok (.aload_n 0, 1) := dr9 dk9_dX12_outcome_0_0 0 (0, .aload_n 0, 1) rfl
theorem dX12_outcome_1 : decode cX12_outcome 1 = .ok (.iconst 0, 1) := dr9 dk9_dX12_outcome_0_0 1 (1, .iconst 0, 1) rfl
theorem dX12_outcome_2 : decode cX12_outcome 2 = .ok (.putfield 1, 3) := dr9 dk9_dX12_outcome_0_0 2 (2, .putfield 1, 3) rfl
theorem dX12_outcome_5 : decode cX12_outcome 5 = .ok (.aload_n 0, 1) := dr9 dk9_dX12_outcome_0_0 3 (5, .aload_n 0, 1) rfl
theorem dX12_outcome_6 : decode cX12_outcome 6 = .ok (.getfield 423, 3) := dr9 dk9_dX12_outcome_0_0 4 (6, .getfield 423, 3) rfl
theorem dX12_outcome_9 : decode cX12_outcome 9 = .ok (.ireturn, 1) := dr9 dk9_dX12_outcome_0_0 5 (9, .ireturn, 1) rfl
abbrev r_s_isLetter : Room := { frames := 0, cells := 0, slots := 0, locals := 0 }
abbrev q_s_isLetter (D : va_G) (p0 : Int32) (A : Nat → Prop) : Array Value → State → Outcome → State → Prop := va_Qi (fun (r : Int32) (_ : Unit) => (0 ≤ r.toInt ∧ r.toInt ≤ 1) ∧ (Imp (r.toInt = 1) (97 ≤ p0.toInt ∧ p0.toInt ≤ 122)) ∧ (Imp (r.toInt = 0) (p0.toInt < 97 ∨ 122 < p0.toInt))) (fun _ t => gq D A [] [] t) A
set_option maxHeartbeats 4000000 in
set_option maxRecDepth 100000 in
theorem s_isLetter (l : Launch) (D : va_G) (ks : KS) (sz : Nat) (p0 : Int32)  : Met l yX12_isLetter (Cond.code yX12_isLetter cX12_isLetter 1 (some .boolean) :: GW) r_s_isLetter (va_Pc [.int p0] (gp D ks ([]) ([]) sz)) (q_s_isLetter D p0 (va_A ([]) sz)) 0 0 (va_A ([]) sz) := by
  refine g_met (q_s_isLetter D p0) (by decide) (Nat.le_of_ble_eq_true rfl) ?_
  intro p e s m below meth c A ls H locs hx hb hr hml hown hg hlocks hin hnw hgk hP hK hD hS hA hl
  replace hown : s.vm.findClass RX12 = some m.cls := hown
  replace hl : lv_has ls 1 [(0, .int p0)] := hl
  refine lv_iload_n hx hb dX12_isLetter_0 rfl (lv_at hl 0 rfl) ?_
  refine lv_bipush (v := 97) hx hb dX12_isLetter_1 (by decide) ?_
  refine lv_icmp_lt (tgt := 16) hx hb dX12_isLetter_3 (by decide) (fun c1 => ?_) (fun c1 => ?_)
  · skip
    have f2 : p0.toInt < 97 := b_lt rfl (by decide) c1
    refine lv_iconst (v := 0) hx hb dX12_isLetter_16 (by decide) ?_
    exact W.zret (v := 0) hx hb hr rfl (fun t ht hW => ⟨⟨0, (), rfl, ⟨(by decide), (Imp.mk (fun hp => absurd hp (by decide))), (Imp.mk (fun _ => (show p0.toInt < 97 ∨ 122 < p0.toInt from by omega)))⟩, by rw [ht]; exact hP, va_K.moved hW.alike hK, hD⟩, hS.F ht⟩) hS.2.2 dX12_isLetter_17
  · skip
    have f3 : 97 ≤ p0.toInt := b_nlt rfl (by decide) c1
    refine lv_iload_n hx hb dX12_isLetter_6 rfl (lv_at hl 0 rfl) ?_
    refine lv_bipush (v := 122) hx hb dX12_isLetter_7 (by decide) ?_
    refine lv_icmp_gt (tgt := 16) hx hb dX12_isLetter_9 (by decide) (fun c4 => ?_) (fun c4 => ?_)
    · skip
      have f5 : 122 < p0.toInt := b_lt (by decide) rfl c4
      refine lv_iconst (v := 0) hx hb dX12_isLetter_16 (by decide) ?_
      exact W.zret (v := 0) hx hb hr rfl (fun t ht hW => ⟨⟨0, (), rfl, ⟨(by decide), (Imp.mk (fun hp => absurd hp (by decide))), (Imp.mk (fun _ => (show p0.toInt < 97 ∨ 122 < p0.toInt from by omega)))⟩, by rw [ht]; exact hP, va_K.moved hW.alike hK, hD⟩, hS.F ht⟩) hS.2.2 dX12_isLetter_17
    · skip
      have f6 : p0.toInt ≤ 122 := b_nlt (by decide) rfl c4
      refine lv_iconst (v := 1) hx hb dX12_isLetter_12 (by decide) ?_
      refine lv_goto (tgt := 17) hx hb dX12_isLetter_13 (by decide) ?_
      exact W.zret (v := 1) hx hb hr rfl (fun t ht hW => ⟨⟨1, (), rfl, ⟨(by decide), (Imp.mk (fun _ => (show 97 ≤ p0.toInt ∧ p0.toInt ≤ 122 from by omega))), (Imp.mk (fun hp => absurd hp (by decide)))⟩, by rw [ht]; exact hP, va_K.moved hW.alike hK, hD⟩, hS.F ht⟩) hS.2.2 dX12_isLetter_17
abbrev r_s_isDigit : Room := { frames := 0, cells := 0, slots := 0, locals := 0 }
abbrev q_s_isDigit (D : va_G) (p0 : Int32) (A : Nat → Prop) : Array Value → State → Outcome → State → Prop := va_Qi (fun (r : Int32) (_ : Unit) => (0 ≤ r.toInt ∧ r.toInt ≤ 1) ∧ (Imp (r.toInt = 1) (48 ≤ p0.toInt ∧ p0.toInt ≤ 57)) ∧ (Imp (r.toInt = 0) (p0.toInt < 48 ∨ 57 < p0.toInt))) (fun _ t => gq D A [] [] t) A
set_option maxHeartbeats 4000000 in
set_option maxRecDepth 100000 in
theorem s_isDigit (l : Launch) (D : va_G) (ks : KS) (sz : Nat) (p0 : Int32)  : Met l yX12_isDigit (Cond.code yX12_isDigit cX12_isDigit 1 (some .boolean) :: GW) r_s_isDigit (va_Pc [.int p0] (gp D ks ([]) ([]) sz)) (q_s_isDigit D p0 (va_A ([]) sz)) 0 0 (va_A ([]) sz) := by
  refine g_met (q_s_isDigit D p0) (by decide) (Nat.le_of_ble_eq_true rfl) ?_
  intro p e s m below meth c A ls H locs hx hb hr hml hown hg hlocks hin hnw hgk hP hK hD hS hA hl
  replace hown : s.vm.findClass RX12 = some m.cls := hown
  replace hl : lv_has ls 1 [(0, .int p0)] := hl
  refine lv_iload_n hx hb dX12_isDigit_0 rfl (lv_at hl 0 rfl) ?_
  refine lv_bipush (v := 48) hx hb dX12_isDigit_1 (by decide) ?_
  refine lv_icmp_lt (tgt := 16) hx hb dX12_isDigit_3 (by decide) (fun c1 => ?_) (fun c1 => ?_)
  · skip
    have f2 : p0.toInt < 48 := b_lt rfl (by decide) c1
    refine lv_iconst (v := 0) hx hb dX12_isDigit_16 (by decide) ?_
    exact W.zret (v := 0) hx hb hr rfl (fun t ht hW => ⟨⟨0, (), rfl, ⟨(by decide), (Imp.mk (fun hp => absurd hp (by decide))), (Imp.mk (fun _ => (show p0.toInt < 48 ∨ 57 < p0.toInt from by omega)))⟩, by rw [ht]; exact hP, va_K.moved hW.alike hK, hD⟩, hS.F ht⟩) hS.2.2 dX12_isDigit_17
  · skip
    have f3 : 48 ≤ p0.toInt := b_nlt rfl (by decide) c1
    refine lv_iload_n hx hb dX12_isDigit_6 rfl (lv_at hl 0 rfl) ?_
    refine lv_bipush (v := 57) hx hb dX12_isDigit_7 (by decide) ?_
    refine lv_icmp_gt (tgt := 16) hx hb dX12_isDigit_9 (by decide) (fun c4 => ?_) (fun c4 => ?_)
    · skip
      have f5 : 57 < p0.toInt := b_lt (by decide) rfl c4
      refine lv_iconst (v := 0) hx hb dX12_isDigit_16 (by decide) ?_
      exact W.zret (v := 0) hx hb hr rfl (fun t ht hW => ⟨⟨0, (), rfl, ⟨(by decide), (Imp.mk (fun hp => absurd hp (by decide))), (Imp.mk (fun _ => (show p0.toInt < 48 ∨ 57 < p0.toInt from by omega)))⟩, by rw [ht]; exact hP, va_K.moved hW.alike hK, hD⟩, hS.F ht⟩) hS.2.2 dX12_isDigit_17
    · skip
      have f6 : p0.toInt ≤ 57 := b_nlt (by decide) rfl c4
      refine lv_iconst (v := 1) hx hb dX12_isDigit_12 (by decide) ?_
      refine lv_goto (tgt := 17) hx hb dX12_isDigit_13 (by decide) ?_
      exact W.zret (v := 1) hx hb hr rfl (fun t ht hW => ⟨⟨1, (), rfl, ⟨(by decide), (Imp.mk (fun _ => (show 48 ≤ p0.toInt ∧ p0.toInt ≤ 57 from by omega))), (Imp.mk (fun hp => absurd hp (by decide)))⟩, by rw [ht]; exact hP, va_K.moved hW.alike hK, hD⟩, hS.F ht⟩) hS.2.2 dX12_isDigit_17
abbrev r_s_rank : Room := { frames := 1, cells := 0, slots := 0, locals := 20 }
abbrev q_s_rank (D : va_G) (p0 : Int32) (A : Nat → Prop) : Array Value → State → Outcome → State → Prop := va_Qi (fun (r : Int32) (_ : Unit) => True) (fun _ t => gq D A [] [] t) A
set_option maxHeartbeats 4000000 in
set_option maxRecDepth 100000 in
theorem s_rank (l : Launch) (D : va_G) (ks : KS) (sz : Nat) (p0 : Int32)  : Met l yX12_rank (Cond.code yX12_rank cX12_rank 1 (some .int) :: GW) r_s_rank (va_Pc [.int p0] (gp D ks ([]) ([]) sz)) (q_s_rank D p0 (va_A ([]) sz)) 0 0 (va_A ([]) sz) := by
  refine g_met (q_s_rank D p0) (by decide) (Nat.le_of_ble_eq_true rfl) ?_
  intro p e s m below meth c A ls H locs hx hb hr hml hown hg hlocks hin hnw hgk hP hK hD hS hA hl
  replace hown : s.vm.findClass RX12 = some m.cls := hown
  replace hl : lv_has ls 1 [(0, .int p0)] := hl
  refine lv_iload_n hx hb dX12_rank_0 rfl (lv_at hl 0 rfl) ?_
  refine gE_int (g_runS (As := [.int p0]) (rest := []) (wc := []) (tc := []) hx hb hml hown hg gw_self hP hD hK hS hA hnw hgk [] [] (by decide) rfl rfl (s_isLetter l D ks H.size p0 ) w1703 w1704 w172 w1705 hdS_yX12_isLetter ⟨Nat.le_of_ble_eq_true rfl, Nat.le_of_ble_eq_true rfl⟩ rfl hl.1 rfl (Nat.le_of_ble_eq_true rfl) dX12_rank_1 ⟨Nat.le_of_ble_eq_true rfl, Nat.le_of_ble_eq_true rfl⟩) hP hD hK hS hA (fun z1 u2 H locs w3 hP hD hK hS => ?_)
  obtain ⟨rgz1, t4, t5⟩ := w3
  replace rgz1 : 0 ≤ z1.toInt ∧ z1.toInt ≤ 1 := rgz1
  replace t4 : Imp (z1.toInt = 1) (97 ≤ p0.toInt ∧ p0.toInt ≤ 122) := t4
  replace t5 : Imp (z1.toInt = 0) (p0.toInt < 97 ∨ 122 < p0.toInt) := t5
  refine lv_if_eq (tgt := 14) hx hb dX12_rank_4 (by decide) (fun c6 => ?_) (fun c6 => ?_)
  · skip
    have f7 : z1.toInt = 0 := b_eq rfl (by decide) c6
    refine lv_iload_n hx hb dX12_rank_14 rfl (lv_at hl 0 rfl) ?_
    refine lv_bipush (v := 21) hx hb dX12_rank_15 (by decide) ?_
    refine lv_isub hx hb dX12_rank_17 ?_
    have r8 := i_full p0
    refine lv_topi (fun z9 ez9 => ?_)
    have hz9 : Imp (-2147483648 ≤ p0.toInt - 21 ∧ p0.toInt - 21 ≤ 2147483647) (z9.toInt = p0.toInt - 21) := Imp.mk (fun hp => i_sub ez9 rfl (by decide) hp)
    exact W.iret (v := z9) hx hb hr (fun t ht hW => ⟨⟨z9, (), rfl, trivial, by rw [ht]; exact hP, va_K.moved hW.alike hK, hD⟩, hS.F ht⟩) hS.2.2 dX12_rank_18
  · skip
    have f10 : z1.toInt ≠ 0 := b_neq rfl (by decide) c6
    refine lv_iload_n hx hb dX12_rank_7 rfl (lv_at hl 0 rfl) ?_
    refine lv_bipush (v := 96) hx hb dX12_rank_8 (by decide) ?_
    refine lv_isub hx hb dX12_rank_10 ?_
    have r11 := i_full p0
    refine lv_topi (fun z12 ez12 => ?_)
    have hz12 : Imp (-2147483648 ≤ p0.toInt - 96 ∧ p0.toInt - 96 ≤ 2147483647) (z12.toInt = p0.toInt - 96) := Imp.mk (fun hp => i_sub ez12 rfl (by decide) hp)
    refine lv_goto (tgt := 18) hx hb dX12_rank_11 (by decide) ?_
    exact W.iret (v := z12) hx hb hr (fun t ht hW => ⟨⟨z12, (), rfl, trivial, by rw [ht]; exact hP, va_K.moved hW.alike hK, hD⟩, hS.F ht⟩) hS.2.2 dX12_rank_18
abbrev r_s_isSignOf : Room := { frames := 0, cells := 0, slots := 0, locals := 0 }
abbrev q_s_isSignOf (D : va_G) (p0 : Int32) (A : Nat → Prop) : Array Value → State → Outcome → State → Prop := va_Qi (fun (r : Int32) (_ : Unit) => (0 ≤ r.toInt ∧ r.toInt ≤ 1)) (fun _ t => gq D A [] [] t) A
set_option maxHeartbeats 4000000 in
set_option maxRecDepth 100000 in
theorem s_isSignOf (l : Launch) (D : va_G) (ks : KS) (sz : Nat) (p0 : Int32)  : Met l yX12_isSignOf (Cond.code yX12_isSignOf cX12_isSignOf 1 (some .boolean) :: GW) r_s_isSignOf (va_Pc [.int p0] (gp D ks ([]) ([]) sz)) (q_s_isSignOf D p0 (va_A ([]) sz)) 0 0 (va_A ([]) sz) := by
  refine g_met (q_s_isSignOf D p0) (by decide) (Nat.le_of_ble_eq_true rfl) ?_
  intro p e s m below meth c A ls H locs hx hb hr hml hown hg hlocks hin hnw hgk hP hK hD hS hA hl
  replace hown : s.vm.findClass RX12 = some m.cls := hown
  replace hl : lv_has ls 1 [(0, .int p0)] := hl
  refine lv_iload_n hx hb dX12_isSignOf_0 rfl (lv_at hl 0 rfl) ?_
  refine lv_bipush (v := 123) hx hb dX12_isSignOf_1 (by decide) ?_
  refine lv_icmp_eq (tgt := 72) hx hb dX12_isSignOf_3 (by decide) (fun c1 => ?_) (fun c1 => ?_)
  · skip
    have f2 : p0.toInt = 123 := b_eq rfl (by decide) c1
    refine lv_iconst (v := 1) hx hb dX12_isSignOf_72 (by decide) ?_
    refine lv_goto (tgt := 77) hx hb dX12_isSignOf_73 (by decide) ?_
    exact W.zret (v := 1) hx hb hr rfl (fun t ht hW => ⟨⟨1, (), rfl, (by decide), by rw [ht]; exact hP, va_K.moved hW.alike hK, hD⟩, hS.F ht⟩) hS.2.2 dX12_isSignOf_77
  · skip
    have f3 : p0.toInt ≠ 123 := b_neq rfl (by decide) c1
    refine lv_iload_n hx hb dX12_isSignOf_6 rfl (lv_at hl 0 rfl) ?_
    refine lv_bipush (v := 125) hx hb dX12_isSignOf_7 (by decide) ?_
    refine lv_icmp_eq (tgt := 72) hx hb dX12_isSignOf_9 (by decide) (fun c4 => ?_) (fun c4 => ?_)
    · skip
      have f5 : p0.toInt = 125 := b_eq rfl (by decide) c4
      refine lv_iconst (v := 1) hx hb dX12_isSignOf_72 (by decide) ?_
      refine lv_goto (tgt := 77) hx hb dX12_isSignOf_73 (by decide) ?_
      exact W.zret (v := 1) hx hb hr rfl (fun t ht hW => ⟨⟨1, (), rfl, (by decide), by rw [ht]; exact hP, va_K.moved hW.alike hK, hD⟩, hS.F ht⟩) hS.2.2 dX12_isSignOf_77
    · skip
      have f6 : p0.toInt ≠ 125 := b_neq rfl (by decide) c4
      refine lv_iload_n hx hb dX12_isSignOf_12 rfl (lv_at hl 0 rfl) ?_
      refine lv_bipush (v := 40) hx hb dX12_isSignOf_13 (by decide) ?_
      refine lv_icmp_eq (tgt := 72) hx hb dX12_isSignOf_15 (by decide) (fun c7 => ?_) (fun c7 => ?_)
      · skip
        have f8 : p0.toInt = 40 := b_eq rfl (by decide) c7
        refine lv_iconst (v := 1) hx hb dX12_isSignOf_72 (by decide) ?_
        refine lv_goto (tgt := 77) hx hb dX12_isSignOf_73 (by decide) ?_
        exact W.zret (v := 1) hx hb hr rfl (fun t ht hW => ⟨⟨1, (), rfl, (by decide), by rw [ht]; exact hP, va_K.moved hW.alike hK, hD⟩, hS.F ht⟩) hS.2.2 dX12_isSignOf_77
      · skip
        have f9 : p0.toInt ≠ 40 := b_neq rfl (by decide) c7
        refine lv_iload_n hx hb dX12_isSignOf_18 rfl (lv_at hl 0 rfl) ?_
        refine lv_bipush (v := 41) hx hb dX12_isSignOf_19 (by decide) ?_
        refine lv_icmp_eq (tgt := 72) hx hb dX12_isSignOf_21 (by decide) (fun c10 => ?_) (fun c10 => ?_)
        · skip
          have f11 : p0.toInt = 41 := b_eq rfl (by decide) c10
          refine lv_iconst (v := 1) hx hb dX12_isSignOf_72 (by decide) ?_
          refine lv_goto (tgt := 77) hx hb dX12_isSignOf_73 (by decide) ?_
          exact W.zret (v := 1) hx hb hr rfl (fun t ht hW => ⟨⟨1, (), rfl, (by decide), by rw [ht]; exact hP, va_K.moved hW.alike hK, hD⟩, hS.F ht⟩) hS.2.2 dX12_isSignOf_77
        · skip
          have f12 : p0.toInt ≠ 41 := b_neq rfl (by decide) c10
          refine lv_iload_n hx hb dX12_isSignOf_24 rfl (lv_at hl 0 rfl) ?_
          refine lv_bipush (v := 44) hx hb dX12_isSignOf_25 (by decide) ?_
          refine lv_icmp_eq (tgt := 72) hx hb dX12_isSignOf_27 (by decide) (fun c13 => ?_) (fun c13 => ?_)
          · skip
            have f14 : p0.toInt = 44 := b_eq rfl (by decide) c13
            refine lv_iconst (v := 1) hx hb dX12_isSignOf_72 (by decide) ?_
            refine lv_goto (tgt := 77) hx hb dX12_isSignOf_73 (by decide) ?_
            exact W.zret (v := 1) hx hb hr rfl (fun t ht hW => ⟨⟨1, (), rfl, (by decide), by rw [ht]; exact hP, va_K.moved hW.alike hK, hD⟩, hS.F ht⟩) hS.2.2 dX12_isSignOf_77
          · skip
            have f15 : p0.toInt ≠ 44 := b_neq rfl (by decide) c13
            refine lv_iload_n hx hb dX12_isSignOf_30 rfl (lv_at hl 0 rfl) ?_
            refine lv_bipush (v := 59) hx hb dX12_isSignOf_31 (by decide) ?_
            refine lv_icmp_eq (tgt := 72) hx hb dX12_isSignOf_33 (by decide) (fun c16 => ?_) (fun c16 => ?_)
            · skip
              have f17 : p0.toInt = 59 := b_eq rfl (by decide) c16
              refine lv_iconst (v := 1) hx hb dX12_isSignOf_72 (by decide) ?_
              refine lv_goto (tgt := 77) hx hb dX12_isSignOf_73 (by decide) ?_
              exact W.zret (v := 1) hx hb hr rfl (fun t ht hW => ⟨⟨1, (), rfl, (by decide), by rw [ht]; exact hP, va_K.moved hW.alike hK, hD⟩, hS.F ht⟩) hS.2.2 dX12_isSignOf_77
            · skip
              have f18 : p0.toInt ≠ 59 := b_neq rfl (by decide) c16
              refine lv_iload_n hx hb dX12_isSignOf_36 rfl (lv_at hl 0 rfl) ?_
              refine lv_bipush (v := 61) hx hb dX12_isSignOf_37 (by decide) ?_
              refine lv_icmp_eq (tgt := 72) hx hb dX12_isSignOf_39 (by decide) (fun c19 => ?_) (fun c19 => ?_)
              · skip
                have f20 : p0.toInt = 61 := b_eq rfl (by decide) c19
                refine lv_iconst (v := 1) hx hb dX12_isSignOf_72 (by decide) ?_
                refine lv_goto (tgt := 77) hx hb dX12_isSignOf_73 (by decide) ?_
                exact W.zret (v := 1) hx hb hr rfl (fun t ht hW => ⟨⟨1, (), rfl, (by decide), by rw [ht]; exact hP, va_K.moved hW.alike hK, hD⟩, hS.F ht⟩) hS.2.2 dX12_isSignOf_77
              · skip
                have f21 : p0.toInt ≠ 61 := b_neq rfl (by decide) c19
                refine lv_iload_n hx hb dX12_isSignOf_42 rfl (lv_at hl 0 rfl) ?_
                refine lv_bipush (v := 60) hx hb dX12_isSignOf_43 (by decide) ?_
                refine lv_icmp_eq (tgt := 72) hx hb dX12_isSignOf_45 (by decide) (fun c22 => ?_) (fun c22 => ?_)
                · skip
                  have f23 : p0.toInt = 60 := b_eq rfl (by decide) c22
                  refine lv_iconst (v := 1) hx hb dX12_isSignOf_72 (by decide) ?_
                  refine lv_goto (tgt := 77) hx hb dX12_isSignOf_73 (by decide) ?_
                  exact W.zret (v := 1) hx hb hr rfl (fun t ht hW => ⟨⟨1, (), rfl, (by decide), by rw [ht]; exact hP, va_K.moved hW.alike hK, hD⟩, hS.F ht⟩) hS.2.2 dX12_isSignOf_77
                · skip
                  have f24 : p0.toInt ≠ 60 := b_neq rfl (by decide) c22
                  refine lv_iload_n hx hb dX12_isSignOf_48 rfl (lv_at hl 0 rfl) ?_
                  refine lv_bipush (v := 43) hx hb dX12_isSignOf_49 (by decide) ?_
                  refine lv_icmp_eq (tgt := 72) hx hb dX12_isSignOf_51 (by decide) (fun c25 => ?_) (fun c25 => ?_)
                  · skip
                    have f26 : p0.toInt = 43 := b_eq rfl (by decide) c25
                    refine lv_iconst (v := 1) hx hb dX12_isSignOf_72 (by decide) ?_
                    refine lv_goto (tgt := 77) hx hb dX12_isSignOf_73 (by decide) ?_
                    exact W.zret (v := 1) hx hb hr rfl (fun t ht hW => ⟨⟨1, (), rfl, (by decide), by rw [ht]; exact hP, va_K.moved hW.alike hK, hD⟩, hS.F ht⟩) hS.2.2 dX12_isSignOf_77
                  · skip
                    have f27 : p0.toInt ≠ 43 := b_neq rfl (by decide) c25
                    refine lv_iload_n hx hb dX12_isSignOf_54 rfl (lv_at hl 0 rfl) ?_
                    refine lv_bipush (v := 45) hx hb dX12_isSignOf_55 (by decide) ?_
                    refine lv_icmp_eq (tgt := 72) hx hb dX12_isSignOf_57 (by decide) (fun c28 => ?_) (fun c28 => ?_)
                    · skip
                      have f29 : p0.toInt = 45 := b_eq rfl (by decide) c28
                      refine lv_iconst (v := 1) hx hb dX12_isSignOf_72 (by decide) ?_
                      refine lv_goto (tgt := 77) hx hb dX12_isSignOf_73 (by decide) ?_
                      exact W.zret (v := 1) hx hb hr rfl (fun t ht hW => ⟨⟨1, (), rfl, (by decide), by rw [ht]; exact hP, va_K.moved hW.alike hK, hD⟩, hS.F ht⟩) hS.2.2 dX12_isSignOf_77
                    · skip
                      have f30 : p0.toInt ≠ 45 := b_neq rfl (by decide) c28
                      refine lv_iload_n hx hb dX12_isSignOf_60 rfl (lv_at hl 0 rfl) ?_
                      refine lv_bipush (v := 42) hx hb dX12_isSignOf_61 (by decide) ?_
                      refine lv_icmp_eq (tgt := 72) hx hb dX12_isSignOf_63 (by decide) (fun c31 => ?_) (fun c31 => ?_)
                      · skip
                        have f32 : p0.toInt = 42 := b_eq rfl (by decide) c31
                        refine lv_iconst (v := 1) hx hb dX12_isSignOf_72 (by decide) ?_
                        refine lv_goto (tgt := 77) hx hb dX12_isSignOf_73 (by decide) ?_
                        exact W.zret (v := 1) hx hb hr rfl (fun t ht hW => ⟨⟨1, (), rfl, (by decide), by rw [ht]; exact hP, va_K.moved hW.alike hK, hD⟩, hS.F ht⟩) hS.2.2 dX12_isSignOf_77
                      · skip
                        have f33 : p0.toInt ≠ 42 := b_neq rfl (by decide) c31
                        refine lv_iload_n hx hb dX12_isSignOf_66 rfl (lv_at hl 0 rfl) ?_
                        refine lv_bipush (v := 46) hx hb dX12_isSignOf_67 (by decide) ?_
                        refine lv_icmp_ne (tgt := 76) hx hb dX12_isSignOf_69 (by decide) (fun c34 => ?_) (fun c34 => ?_)
                        · skip
                          have f35 : p0.toInt ≠ 46 := b_neq rfl (by decide) c34
                          refine lv_iconst (v := 0) hx hb dX12_isSignOf_76 (by decide) ?_
                          exact W.zret (v := 0) hx hb hr rfl (fun t ht hW => ⟨⟨0, (), rfl, (by decide), by rw [ht]; exact hP, va_K.moved hW.alike hK, hD⟩, hS.F ht⟩) hS.2.2 dX12_isSignOf_77
                        · skip
                          have f36 : p0.toInt = 46 := b_eq rfl (by decide) c34
                          refine lv_iconst (v := 1) hx hb dX12_isSignOf_72 (by decide) ?_
                          refine lv_goto (tgt := 77) hx hb dX12_isSignOf_73 (by decide) ?_
                          exact W.zret (v := 1) hx hb hr rfl (fun t ht hW => ⟨⟨1, (), rfl, (by decide), by rw [ht]; exact hP, va_K.moved hW.alike hK, hD⟩, hS.F ht⟩) hS.2.2 dX12_isSignOf_77
abbrev r_s_step : Room := { frames := 0, cells := 0, slots := 0, locals := 0 }
abbrev q_s_step (D : va_G) (ks : KS) (ad : Nat → Nat) (kk : Nat → ClassId) (V : Vf) (L : Lf) (A : Nat → Prop) : Array Value → State → Outcome → State → Prop := va_Qi (fun (r : Int32) (u : Vf × Lf) => rgd bM u.1 ∧ agr [(0, 68), (0, 69)] [] V u.1 ∧ u.2 = L ∧ (0 ≤ r.toInt ∧ r.toInt ≤ 1)) (fun u t => gq D A (mw ad kk ks.1 u.1 u.2) (mty kk) t) A
abbrev r_s_fails : Room := { frames := 0, cells := 0, slots := 0, locals := 0 }
abbrev q_s_fails (D : va_G) (ks : KS) (ad : Nat → Nat) (kk : Nat → ClassId) (V : Vf) (L : Lf) (p0 : Int32) (A : Nat → Prop) : Array Value → State → Outcome → State → Prop := va_Qi (fun (r : Int32) (u : Vf × Lf) => rgd bM u.1 ∧ agr [(0, 90), (0, 91)] [] V u.1 ∧ u.2 = L) (fun u t => gq D A (mw ad kk ks.1 u.1 u.2) (mty kk) t) A
abbrev r_s_longness : Room := { frames := 0, cells := 0, slots := 0, locals := 0 }
abbrev q_s_longness (D : va_G) (p0 : Int32) (A : Nat → Prop) : Array Value → State → Outcome → State → Prop := va_Qi (fun (r : Int32) (_ : Unit) => True) (fun _ t => gq D A [] [] t) A
set_option maxHeartbeats 4000000 in
set_option maxRecDepth 100000 in
theorem s_longness (l : Launch) (D : va_G) (ks : KS) (sz : Nat) (p0 : Int32)  : Met l yX12_longness (Cond.code yX12_longness cX12_longness 1 (some .int) :: GW) r_s_longness (va_Pc [.int p0] (gp D ks ([]) ([]) sz)) (q_s_longness D p0 (va_A ([]) sz)) 0 0 (va_A ([]) sz) := by
  refine g_met (q_s_longness D p0) (by decide) (Nat.le_of_ble_eq_true rfl) ?_
  intro p e s m below meth c A ls H locs hx hb hr hml hown hg hlocks hin hnw hgk hP hK hD hS hA hl
  replace hown : s.vm.findClass RX12 = some m.cls := hown
  replace hl : lv_has ls 1 [(0, .int p0)] := hl
  refine lv_iload_n hx hb dX12_longness_0 rfl (lv_at hl 0 rfl) ?_
  refine lv_if_ne (tgt := 8) hx hb dX12_longness_1 (by decide) (fun c1 => ?_) (fun c1 => ?_)
  · skip
    have f2 : p0.toInt ≠ 0 := b_neq rfl (by decide) c1
    refine lv_iload_n hx hb dX12_longness_8 rfl (lv_at hl 0 rfl) ?_
    refine lv_iconst (v := 1) hx hb dX12_longness_9 (by decide) ?_
    refine lv_icmp_ne (tgt := 17) hx hb dX12_longness_10 (by decide) (fun c3 => ?_) (fun c3 => ?_)
    · skip
      have f4 : p0.toInt ≠ 1 := b_neq rfl (by decide) c3
      refine lv_iconst (v := 1) hx hb dX12_longness_17 (by decide) ?_
      exact W.iret (v := 1) hx hb hr (fun t ht hW => ⟨⟨1, (), rfl, trivial, by rw [ht]; exact hP, va_K.moved hW.alike hK, hD⟩, hS.F ht⟩) hS.2.2 dX12_longness_18
    · skip
      have f5 : p0.toInt = 1 := b_eq rfl (by decide) c3
      refine lv_iconst (v := 2) hx hb dX12_longness_13 (by decide) ?_
      refine lv_goto (tgt := 18) hx hb dX12_longness_14 (by decide) ?_
      exact W.iret (v := 2) hx hb hr (fun t ht hW => ⟨⟨2, (), rfl, trivial, by rw [ht]; exact hP, va_K.moved hW.alike hK, hD⟩, hS.F ht⟩) hS.2.2 dX12_longness_18
  · skip
    have f6 : p0.toInt = 0 := b_eq rfl (by decide) c1
    refine lv_iconst (v := 3) hx hb dX12_longness_4 (by decide) ?_
    refine lv_goto (tgt := 18) hx hb dX12_longness_5 (by decide) ?_
    exact W.iret (v := 3) hx hb hr (fun t ht hW => ⟨⟨3, (), rfl, trivial, by rw [ht]; exact hP, va_K.moved hW.alike hK, hD⟩, hS.F ht⟩) hS.2.2 dX12_longness_18
abbrev r_s_cause : Room := { frames := 0, cells := 0, slots := 0, locals := 0 }
abbrev q_s_cause (D : va_G) (ks : KS) (ad : Nat → Nat) (kk : Nat → ClassId) (V : Vf) (L : Lf) (p0 : Int32) (A : Nat → Prop) : Array Value → State → Outcome → State → Prop := va_Qi (fun (r : Int32) (u : Vf × Lf) => rgd bM u.1 ∧ agr [(0, 0)] [] V u.1 ∧ u.2 = L) (fun u t => gq D A (mw ad kk ks.1 u.1 u.2) (mty kk) t) A
abbrev r_s_outcome : Room := { frames := 0, cells := 0, slots := 0, locals := 0 }
abbrev q_s_outcome (D : va_G) (ks : KS) (ad : Nat → Nat) (kk : Nat → ClassId) (V : Vf) (L : Lf) (A : Nat → Prop) : Array Value → State → Outcome → State → Prop := va_Qi (fun (r : Int32) (u : Vf × Lf) => rgd bM u.1 ∧ agr [(0, 0)] [] V u.1 ∧ u.2 = L) (fun u t => gq D A (mw ad kk ks.1 u.1 u.2) (mty kk) t) A
set_option maxHeartbeats 4000000 in
set_option maxRecDepth 100000 in
theorem s_outcome (l : Launch) (D : va_G) (ks : KS) (sz : Nat) (ad : Nat → Nat) (kk : Nat → ClassId) (V : Vf) (L : Lf)  (hMV : rgd bM V)  : Met l yX12_outcome (Cond.code yX12_outcome cX12_outcome 1 (some .int) :: GW) r_s_outcome (va_Pc [.ref (ad 0)] (gp D ks (mw ad kk ks.1 V L) (mty kk) sz)) (q_s_outcome D ks ad kk V L  (va_A (mw ad kk ks.1 V L) sz)) 0 0 (va_A (mw ad kk ks.1 V L) sz) := by
  refine g_met (q_s_outcome D ks ad kk V L) (by decide) (Nat.le_of_ble_eq_true rfl) ?_
  intro p e s m below meth c A ls H locs hx hb hr hml hown hg hlocks hin hnw hgk hP hK hD hS hA hl
  replace hown : s.vm.findClass RX12 = some m.cls := hown
  replace hl : lv_has ls 1 [(0, .ref (ad 0))] := hl
  replace hP : va_P D vwCl (mw ad kk ks.1 V L) H := hP
  replace hD : va_D A (mw ad kk ks.1 V L) := hD
  replace hK : va_K D vwCl (mty kk) s := hK
  have agV : agr [(0, 0)] [] V V := agr.rf
  refine lv_aload_n hx hb dX12_outcome_0 rfl (lv_at hl 0 rfl) ?_
  refine lv_iconst (v := 0) hx hb dX12_outcome_1 (by decide) ?_
  refine va_put (D := D) (ci := 12) (v := .int 0) (ty := tyX12 0) (C := RX12) (T := TX12) (N := 100) hx hb hg inX12 tyX12 tyX12_ok nmX12 hown hK hP hD hS 0 rfl rfl 0 (by decide) (hg _ w1706) (fun _ h9 => h9) rfl (tyX12_ok 0 (by decide)) rfl rfl (Nat.le_of_ble_eq_true rfl) dX12_outcome_2 (fun H locs hP hD hS => ?_)
  obtain ⟨V1, hV1⟩ : ∃ z, z = up2 V 0 0 0 := ⟨_, rfl⟩
  have hP : va_P D vwCl (mw ad kk ks.1 V1 L) H := by rw [hV1]; exact hP
  have hD : va_D A (mw ad kk ks.1 V1 L) := by rw [hV1]; exact hD
  have hMV1 : rgd bM V1 := hMV.put hV1 (i_full _)
  have agV1 : agr [(0, 0)] [] V V1 := agV.up hV1 rfl
  refine lv_aload_n hx hb dX12_outcome_5 rfl (lv_at hl 0 rfl) ?_
  refine va_get (D := D) (ci := 12) (v := .int (V1 0 70)) (C := RX12) (T := TX12) (N := 100) hx hb hg inX12 hown hK hP 0 rfl rfl 70 (by decide) (hg _ w1776) (fun _ h9 => h9) rfl dX12_outcome_6 ?_
  refine g_top (v := (V 0 70)) (up2_k hV1 (by decide)) ?_
  exact W.iret (v := (V 0 70)) hx hb hr (fun t ht hW => ⟨⟨(V 0 70), (V1, L), rfl, ⟨hMV1, agV1, rfl⟩, by rw [ht]; exact hP, va_K.moved hW.alike hK, hD⟩, hS.F ht⟩) hS.2.2 dX12_outcome_9
