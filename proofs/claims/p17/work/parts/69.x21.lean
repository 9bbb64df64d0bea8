theorem w1284 : Cond.code yX5_takesStep cX5_takesStep 1 (some .boolean) ∈ GW := gw_k tk9_5 169 (rfl) rfl
theorem w1281 : Cond.methodLink RX5 207 yX5_takesStep ∈ GW := gw_k tk9_5 166 (by decide +kernel) rfl
theorem w1283 : Cond.instanceMethod yX5_takesStep ∈ GW := gw_k tk9_5 168 (by decide +kernel) rfl
theorem w48 : Cond.selects RX5 yX5_takesStep yX5_takesStep ∈ GW := gw_mem 48 (by decide +kernel) rfl
theorem hdV_yX5_takesStep : yX5_takesStep.cls = RX5 ∧ yX5_takesStep.cls ≠ "java/lang/invoke/MethodHandle" ∧ yX5_takesStep.cls ≠ "java/lang/invoke/VarHandle" ∧ (parseMethodDescriptor yX5_takesStep.desc).map (fun d => d.parameters.length) = some 0 := by decide +kernel
theorem w1289 : Cond.code yX8_beginObject cX8_beginObject 5 (some .int) ∈ GW := gw_k tk9_5 174 (rfl) rfl
theorem w1286 : Cond.methodLink RX5 211 yX8_beginObject ∈ GW := gw_k tk9_5 171 (by decide +kernel) rfl
theorem w1287 : Cond.instanceMethod yX8_beginObject ∈ GW := gw_k tk9_5 172 (by decide +kernel) rfl
theorem w1288 : Cond.selects RX8 yX8_beginObject yX8_beginObject ∈ GW := gw_k tk9_5 173 (by decide +kernel) rfl
theorem hdV_yX8_beginObject : yX8_beginObject.cls = RX8 ∧ yX8_beginObject.cls ≠ "java/lang/invoke/MethodHandle" ∧ yX8_beginObject.cls ≠ "java/lang/invoke/VarHandle" ∧ (parseMethodDescriptor yX8_beginObject.desc).map (fun d => d.parameters.length) = some 3 := by decide +kernel
theorem w1264 : Cond.code yX5_failWith cX5_failWith 3 none ∈ GW := gw_k tk9_5 149 (rfl) rfl
theorem w1261 : Cond.methodLink RX5 169 yX5_failWith ∈ GW := gw_k tk9_5 146 (by decide +kernel) rfl
theorem w1263 : Cond.instanceMethod yX5_failWith ∈ GW := gw_k tk9_5 148 (by decide +kernel) rfl
theorem w46 : Cond.selects RX5 yX5_failWith yX5_failWith ∈ GW := gw_mem 46 (by decide +kernel) rfl
theorem hdV_yX5_failWith : yX5_failWith.cls = RX5 ∧ yX5_failWith.cls ≠ "java/lang/invoke/MethodHandle" ∧ yX5_failWith.cls ≠ "java/lang/invoke/VarHandle" ∧ (parseMethodDescriptor yX5_failWith.desc).map (fun d => d.parameters.length) = some 2 := by decide +kernel
theorem w1260 : Cond.methodLink RX5 172 yX0_has ∈ GW := gw_k tk9_5 145 (by decide +kernel) rfl
theorem w1265 : Cond.methodLink RX5 185 yX8_placeOf ∈ GW := gw_k tk9_5 150 (by decide +kernel) rfl
theorem w1269 : Cond.methodLink RX5 189 yX8_isSpoiled ∈ GW := gw_k tk9_5 154 (by decide +kernel) rfl
theorem w1280 : Cond.code yX5_beginMaking cX5_beginMaking 6 none ∈ GW := gw_k tk9_5 165 (rfl) rfl
theorem w1277 : Cond.methodLink RX5 196 yX5_beginMaking ∈ GW := gw_k tk9_5 162 (by decide +kernel) rfl
theorem w1279 : Cond.instanceMethod yX5_beginMaking ∈ GW := gw_k tk9_5 164 (by decide +kernel) rfl
theorem w47 : Cond.selects RX5 yX5_beginMaking yX5_beginMaking ∈ GW := gw_mem 47 (by decide +kernel) rfl
theorem hdV_yX5_beginMaking : yX5_beginMaking.cls = RX5 ∧ yX5_beginMaking.cls ≠ "java/lang/invoke/MethodHandle" ∧ yX5_beginMaking.cls ≠ "java/lang/invoke/VarHandle" ∧ (parseMethodDescriptor yX5_beginMaking.desc).map (fun d => d.parameters.length) = some 4 := by decide +kernel
theorem w1276 : Cond.code yX8_objectAt cX8_objectAt 3 (some .int) ∈ GW := gw_k tk9_5 161 (rfl) rfl
theorem w1273 : Cond.methodLink RX5 193 yX8_objectAt ∈ GW := gw_k tk9_5 158 (by decide +kernel) rfl
theorem w1274 : Cond.instanceMethod yX8_objectAt ∈ GW := gw_k tk9_5 159 (by decide +kernel) rfl
theorem w1275 : Cond.selects RX8 yX8_objectAt yX8_objectAt ∈ GW := gw_k tk9_5 160 (by decide +kernel) rfl
theorem hdV_yX8_objectAt : yX8_objectAt.cls = RX8 ∧ yX8_objectAt.cls ≠ "java/lang/invoke/MethodHandle" ∧ yX8_objectAt.cls ≠ "java/lang/invoke/VarHandle" ∧ (parseMethodDescriptor yX8_objectAt.desc).map (fun d => d.parameters.length) = some 2 := by decide +kernel
theorem w1299 : Cond.code yX8_isMade cX8_isMade 2 (some .boolean) ∈ GW := gw_k tk9_5 184 (rfl) rfl
theorem w1296 : Cond.methodLink RX5 200 yX8_isMade ∈ GW := gw_k tk9_5 181 (by decide +kernel) rfl
theorem w1297 : Cond.instanceMethod yX8_isMade ∈ GW := gw_k tk9_5 182 (by decide +kernel) rfl
theorem w1298 : Cond.selects RX8 yX8_isMade yX8_isMade ∈ GW := gw_k tk9_5 183 (by decide +kernel) rfl
theorem hdV_yX8_isMade : yX8_isMade.cls = RX8 ∧ yX8_isMade.cls ≠ "java/lang/invoke/MethodHandle" ∧ yX8_isMade.cls ≠ "java/lang/invoke/VarHandle" ∧ (parseMethodDescriptor yX8_isMade.desc).map (fun d => d.parameters.length) = some 1 := by decide +kernel
theorem w1323 : Cond.code yX5_pushClose cX5_pushClose 3 none ∈ GW := gw_k tk9_5 208 (rfl) rfl
theorem w1320 : Cond.methodLink RX5 166 yX5_pushClose ∈ GW := gw_k tk9_5 205 (by decide +kernel) rfl
theorem w1321 : Cond.instanceMethod yX5_pushClose ∈ GW := gw_k tk9_5 206 (by decide +kernel) rfl
theorem w1322 : Cond.selects RX5 yX5_pushClose yX5_pushClose ∈ GW := gw_k tk9_5 207 (by decide +kernel) rfl
theorem hdV_yX5_pushClose : yX5_pushClose.cls = RX5 ∧ yX5_pushClose.cls ≠ "java/lang/invoke/MethodHandle" ∧ yX5_pushClose.cls ≠ "java/lang/invoke/VarHandle" ∧ (parseMethodDescriptor yX5_pushClose.desc).map (fun d => d.parameters.length) = some 2 := by decide +kernel
theorem w1319 : Cond.code yX5_undoNext cX5_undoNext 2 none ∈ GW := gw_k tk9_5 204 (rfl) rfl
theorem w1316 : Cond.methodLink RX5 163 yX5_undoNext ∈ GW := gw_k tk9_5 201 (by decide +kernel) rfl
theorem w1318 : Cond.instanceMethod yX5_undoNext ∈ GW := gw_k tk9_5 203 (by decide +kernel) rfl
theorem w52 : Cond.selects RX5 yX5_undoNext yX5_undoNext ∈ GW := gw_mem 52 (by decide +kernel) rfl
theorem hdV_yX5_undoNext : yX5_undoNext.cls = RX5 ∧ yX5_undoNext.cls ≠ "java/lang/invoke/MethodHandle" ∧ yX5_undoNext.cls ≠ "java/lang/invoke/VarHandle" ∧ (parseMethodDescriptor yX5_undoNext.desc).map (fun d => d.parameters.length) = some 1 := by decide +kernel
theorem w1315 : Cond.code yX5_holdFailure cX5_holdFailure 2 none ∈ GW := gw_k tk9_5 200 (rfl) rfl
theorem w1312 : Cond.methodLink RX5 160 yX5_holdFailure ∈ GW := gw_k tk9_5 197 (by decide +kernel) rfl
theorem w1314 : Cond.instanceMethod yX5_holdFailure ∈ GW := gw_k tk9_5 199 (by decide +kernel) rfl
theorem w51 : Cond.selects RX5 yX5_holdFailure yX5_holdFailure ∈ GW := gw_mem 51 (by decide +kernel) rfl
theorem hdV_yX5_holdFailure : yX5_holdFailure.cls = RX5 ∧ yX5_holdFailure.cls ≠ "java/lang/invoke/MethodHandle" ∧ yX5_holdFailure.cls ≠ "java/lang/invoke/VarHandle" ∧ (parseMethodDescriptor yX5_holdFailure.desc).map (fun d => d.parameters.length) = some 1 := by decide +kernel
theorem w1259 : Cond.code yX5_seek cX5_seek 7 none ∈ GW := gw_k tk9_5 144 (rfl) rfl
theorem w1256 : Cond.methodLink RX5 153 yX5_seek ∈ GW := gw_k tk9_5 141 (by decide +kernel) rfl
theorem w1258 : Cond.instanceMethod yX5_seek ∈ GW := gw_k tk9_5 143 (by decide +kernel) rfl
theorem w45 : Cond.selects RX5 yX5_seek yX5_seek ∈ GW := gw_mem 45 (by decide +kernel) rfl
theorem hdV_yX5_seek : yX5_seek.cls = RX5 ∧ yX5_seek.cls ≠ "java/lang/invoke/MethodHandle" ∧ yX5_seek.cls ≠ "java/lang/invoke/VarHandle" ∧ (parseMethodDescriptor yX5_seek.desc).map (fun d => d.parameters.length) = some 3 := by decide +kernel
theorem dk9_dX5_beginMaking_0_0 : dOk cX5_beginMaking [(0, .aload_n 0, 1), (1, .invokevirtual 207, 3), (4, .ifCond .ne 4, 3), (8, .aload_n 0, 1), (9, .getfield 28, 3), (12, .iload_n 1, 1), (13, .iload_n 2, 1), (14, .iload 4, 2), (16, .invokevirtual 211, 3), (19, .istore 5, 2), (21, .iload 5, 2), (23, .iconst (-1), 1), (24, .if_icmp .ne 11, 3), (35, .aload_n 0, 1), (36, .iconst 1, 1), (37, .iload_n 3, 1), (38, .iload 5, 2), (40, .iload_n 1, 1), (41, .iload_n 2, 1), (42, .invokevirtual 119, 3), (45, .pop, 1), (46, .return_, 1), (27, .aload_n 0, 1), (28, .iconst 0, 1)] = true ∧ dOk cX5_beginMaking [(29, .bipush 16, 2), (31, .invokevirtual 169, 3), (34, .return_, 1), (7, .return_, 1)] = true := by decide +kernel
theorem dX5_beginMaking_0 : decode cX5_beginMaking 0 = .ok (.aload_n 0, 1) := dr9 dk9_dX5_beginMaking_0_0.1 0 (0, .aload_n 0, 1) rfl
theorem dX5_beginMaking_1 : decode cX5_beginMaking 1 = .ok (.invokevirtual 207, 3) := dr9 dk9_dX5_beginMaking_0_0.1 1 (1, .invokevirtual 207, 3) rfl
theorem dX5_beginMaking_4 : decode cX5_beginMaking 4 = .ok (.ifCond .ne 4, 3) := dr9 dk9_dX5_beginMaking_0_0.1 2 (4, .ifCond .ne 4, 3) rfl
theorem dX5_beginMaking_8 : decode cX5_beginMaking 8 = .ok (.aload_n 0, 1) := dr9 dk9_dX5_beginMaking_0_0.1 3 (8, .aload_n 0, 1) rfl
theorem dX5_beginMaking_9 : decode cX5_beginMaking 9 = .ok (.getfield 28, 3) := dr9 dk9_dX5_beginMaking_0_0.1 4 (9, .getfield 28, 3) rfl
theorem dX5_beginMaking_12 : decode cX5_beginMaking 12 = .ok (.iload_n 1, 1) := dr9 dk9_dX5_beginMaking_0_0.1 5 (12, .iload_n 1, 1) rfl
theorem dX5_beginMaking_13 : decode cX5_beginMaking 13 = .ok (.iload_n 2, 1) := dr9 dk9_dX5_beginMaking_0_0.1 6 (13, .iload_n 2, 1) rfl
theorem dX5_beginMaking_14 : decode cX5_beginMaking 14 = .ok (.iload 4, 2) := dr9 dk9_dX5_beginMaking_0_0.1 7 (14, .iload 4, 2) rfl
theorem dX5_beginMaking_16 : decode cX5_beginMaking 16 = .ok (.invokevirtual 211, 3) := dr9 dk9_dX5_beginMaking_0_0.1 8 (16, .invokevirtual 211, 3) rfl
theorem dX5_beginMaking_19 : decode cX5_beginMaking 19 = .ok (.istore 5, 2) := dr9 dk9_dX5_beginMaking_0_0.1 9 (19, .istore 5, 2) rfl
theorem dX5_beginMaking_21 : decode cX5_beginMaking 21 = .ok (.iload 5, 2) := dr9 dk9_dX5_beginMaking_0_0.1 10 (21, .iload 5, 2) rfl
theorem dX5_beginMaking_23 : decode cX5_beginMaking 23 = .ok (.iconst (-1), 1) := dr9 dk9_dX5_beginMaking_0_0.1 11 (23, .iconst (-1), 1) rfl
theorem dX5_beginMaking_24 : decode cX5_beginMaking 24 = .ok (.if_icmp .ne 11, 3) := dr9 dk9_dX5_beginMaking_0_0.1 12 (24, .if_icmp .ne 11, 3) rfl
theorem dX5_beginMaking_35 : decode cX5_beginMaking 35 = .ok (.aload_n 0, 1) := dr9 dk9_dX5_beginMaking_0_0.1 13 (35, .aload_n 0, 1) rfl
theorem dX5_beginMaking_36 : decode cX5_beginMaking 36 = .ok (.iconst 1, 1) := dr9 dk9_dX5_beginMaking_0_0.1 14 (36, .iconst 1, 1) rfl
theorem dX5_beginMaking_37 : decode cX5_beginMaking 37 = .ok (.iload_n 3, 1) := dr9 dk9_dX5_beginMaking_0_0.1 15 (37, .iload_n 3, 1) rfl
theorem dX5_beginMaking_38 : decode cX5_beginMaking 38 = .ok (.iload 5, 2) := dr9 dk9_dX5_beginMaking_0_0.1 16 (38, .iload 5, 2) rfl
theorem dX5_beginMaking_40 : decode cX5_beginMaking 40 = .ok (.iload_n 1, 1) := dr9 dk9_dX5_beginMaking_0_0.1 17 (40, .iload_n 1, 1) rfl
theorem dX5_beginMaking_41 : decode cX5_beginMaking 41 = .ok (.iload_n 2, 1) := dr9 dk9_dX5_beginMaking_0_0.1 18 (41, .iload_n 2, 1) rfl
theorem dX5_beginMaking_42 : decode cX5_beginMaking 42 = .ok (.invokevirtual 119, 3) := dr9 dk9_dX5_beginMaking_0_0.1 19 (42, .invokevirtual 119, 3) rfl
theorem dX5_beginMaking_45 : decode cX5_beginMaking 45 = .ok (.pop, 1) := dr9 dk9_dX5_beginMaking_0_0.1 20 (45, .pop, 1) rfl
theorem dX5_beginMaking_46 : decode cX5_beginMaking 46 = .ok (.return_, 1) := dr9 dk9_dX5_beginMaking_0_0.1 21 (46, .return_, 1) rfl
theorem dX5_beginMaking_27 : decode cX5_beginMaking 27 = .ok (.aload_n 0, 1) := dr9 dk9_dX5_beginMaking_0_0.1 22 (27, .aload_n 0, 1) rfl
theorem dX5_beginMaking_28 : decode cX5_beginMaking 28 = .ok (.iconst 0, 1) := dr9 dk9_dX5_beginMaking_0_0.1 23 (28, .iconst 0, 1) rfl
theorem dX5_beginMaking_29 : decode cX5_beginMaking 29 = .ok (.bipush 16, 2) := dr9 dk9_dX5_beginMaking_0_0.2 0 (29, .bipush 16, 2) rfl
theorem dX5_beginMaking_31 : decode cX5_beginMaking 31 = .ok (.invokevirtual 169, 3) := dr9 dk9_dX5_beginMaking_0_0.2 1 (31, .invokevirtual 169, 3) rfl
theorem dX5_beginMaking_34 : decode cX5_beginMaking 34 = .ok (.return_, 1) := dr9 dk9_dX5_beginMaking_0_0.2 2 (34, .return_, 1) rfl
theorem dX5_beginMaking_7 : decode cX5_beginMaking 7 = .ok (.return_, 1) := dr9 dk9_dX5_beginMaking_0_0.2 3 (7, .return_, 1) rfl
theorem dk9_dX5_seek_0_0 : dOk cX5_seek [(0, .aload_n 0, 1), (1, .getfield 24, 3), (4, .iload_n 1, 1), (5, .invokevirtual 172, 3), (8, .ifCond .ne 11, 3), (19, .aload_n 0, 1), (20, .getfield 24, 3), (23, .getfield 178, 3), (26, .iload_n 1, 1), (27, .aaload, 1), (28, .getfield 182, 3), (31, .iconst 3, 1), (32, .if_icmp .eq 7, 3), (39, .iconst 0, 1), (40, .istore 4, 2), (42, .aload_n 0, 1), (43, .getfield 28, 3), (46, .aload_n 0, 1), (47, .getfield 24, 3), (50, .getfield 178, 3), (53, .iload_n 1, 1), (54, .aaload, 1), (55, .getfield 182, 3), (58, .iload_n 2, 1)] = true ∧ dOk cX5_seek [(59, .invokevirtual 185, 3), (62, .istore 5, 2), (64, .iload 5, 2), (66, .iconst (-1), 1), (67, .if_icmp .ne 11, 3), (78, .aload_n 0, 1), (79, .getfield 28, 3), (82, .iload 5, 2), (84, .iload_n 1, 1), (85, .invokevirtual 189, 3), (88, .ifCond .eq 11, 3), (99, .iload 4, 2), (101, .ifCond .eq 16, 3), (117, .iconst (-1), 1), (118, .istore 6, 2), (120, .iload 6, 2), (122, .iconst (-1), 1), (123, .if_icmp .ne 16, 3), (126, .aload_n 0, 1), (127, .iload_n 1, 1), (128, .iload 5, 2), (130, .iload_n 3, 1), (131, .iload 4, 2), (133, .invokevirtual 196, 3)] = true ∧ dOk cX5_seek [(136, .goto 31, 3), (167, .return_, 1), (91, .aload_n 0, 1), (92, .iconst 0, 1), (93, .bipush 15, 2), (95, .invokevirtual 169, 3), (98, .return_, 1), (70, .aload_n 0, 1), (71, .iconst 0, 1), (72, .bipush 14, 2), (74, .invokevirtual 169, 3), (77, .return_, 1), (35, .iconst 1, 1), (36, .goto 4, 3), (104, .aload_n 0, 1), (105, .getfield 28, 3), (108, .iload 5, 2), (110, .iload_n 1, 1), (111, .invokevirtual 193, 3), (114, .goto 4, 3), (139, .aload_n 0, 1), (140, .getfield 28, 3), (143, .iload 6, 2), (145, .invokevirtual 200, 3)] = true ∧ dOk cX5_seek [(148, .ifCond .eq 12, 3), (160, .aload_n 0, 1), (161, .iconst 0, 1), (162, .bipush 12, 2), (164, .invokevirtual 169, 3), (151, .aload_n 0, 1), (152, .iload 6, 2), (154, .invokevirtual 203, 3), (157, .goto 10, 3), (11, .aload_n 0, 1), (12, .iconst 0, 1), (13, .bipush 14, 2), (15, .invokevirtual 169, 3), (18, .return_, 1)] = true := by decide +kernel
theorem dX5_seek_0 : decode cX5_seek 0 = .ok (.aload_n 0, 1) := dr9 dk9_dX5_seek_0_0.1 0 (0, .aload_n 0, 1) rfl
theorem dX5_seek_1 : decode cX5_seek 1 = .ok (.getfield 24, 3) := dr9 dk9_dX5_seek_0_0.1 1 (1, .getfield 24, 3) rfl
theorem dX5_seek_4 : decode cX5_seek 4 = .ok (.iload_n 1, 1) := dr9 dk9_dX5_seek_0_0.1 2 (4, .iload_n 1, 1) rfl
theorem dX5_seek_5 : decode cX5_seek 5 = .ok (.invokevirtual 172, 3) := dr9 dk9_dX5_seek_0_0.1 3 (5, .invokevirtual 172, 3) rfl
theorem dX5_seek_8 : decode cX5_seek 8 = .ok (.ifCond .ne 11, 3) := dr9 dk9_dX5_seek_0_0.1 4 (8, .ifCond .ne 11, 3) rfl
theorem dX5_seek_19 : decode cX5_seek 19 = .ok (.aload_n 0, 1) := dr9 dk9_dX5_seek_0_0.1 5 (19, .aload_n 0, 1) rfl
theorem dX5_seek_20 : decode cX5_seek 20 = .ok (.getfield 24, 3) := dr9 dk9_dX5_seek_0_0.1 6 (20, .getfield 24, 3) rfl
theorem dX5_seek_23 : decode cX5_seek 23 = .ok (.getfield 178, 3) := dr9 dk9_dX5_seek_0_0.1 7 (23, .getfield 178, 3) rfl
theorem dX5_seek_26 : decode cX5_seek 26 = .ok (.iload_n 1, 1) := dr9 dk9_dX5_seek_0_0.1 8 (26, .iload_n 1, 1) rfl
theorem dX5_seek_27 : decode cX5_seek 27 = .ok (.aaload, 1) := dr9 dk9_dX5_seek_0_0.1 9 (27, .aaload, 1) rfl
theorem dX5_seek_28 : decode cX5_seek 28 = .ok (.getfield 182, 3) := dr9 dk9_dX5_seek_0_0.1 10 (28, .getfield 182, 3) rfl
theorem dX5_seek_31 : decode cX5_seek 31 = .ok (.iconst 3, 1) := dr9 dk9_dX5_seek_0_0.1 11 (31, .iconst 3, 1) rfl
theorem dX5_seek_32 : decode cX5_seek 32 = .ok (.if_icmp .eq 7, 3) := dr9 dk9_dX5_seek_0_0.1 12 (32, .if_icmp .eq 7, 3) rfl
theorem dX5_seek_39 : decode cX5_seek 39 = .ok (.iconst 0, 1) := dr9 dk9_dX5_seek_0_0.1 13 (39, .iconst 0, 1) rfl
theorem dX5_seek_40 : decode cX5_seek 40 = .ok (.istore 4, 2) := dr9 dk9_dX5_seek_0_0.1 14 (40, .istore 4, 2) rfl
theorem dX5_seek_42 : decode cX5_seek 42 = .ok (.aload_n 0, 1) := dr9 dk9_dX5_seek_0_0.1 15 (42, .aload_n 0, 1) rfl
theorem dX5_seek_43 : decode cX5_seek 43 = .ok (.getfield 28, 3) := dr9 dk9_dX5_seek_0_0.1 16 (43, .getfield 28, 3) rfl
theorem dX5_seek_46 : decode cX5_seek 46 = .ok (.aload_n 0, 1) := dr9 dk9_dX5_seek_0_0.1 17 (46, .aload_n 0, 1) rfl
theorem dX5_seek_47 : decode cX5_seek 47 = .ok (.getfield 24, 3) := dr9 dk9_dX5_seek_0_0.1 18 (47, .getfield 24, 3) rfl
theorem dX5_seek_50 : decode cX5_seek 50 = .ok (.getfield 178, 3) := dr9 dk9_dX5_seek_0_0.1 19 (50, .getfield 178, 3) rfl
theorem dX5_seek_53 : decode cX5_seek 53 = .ok (.iload_n 1, 1) := dr9 dk9_dX5_seek_0_0.1 20 (53, .iload_n 1, 1) rfl
theorem dX5_seek_54 : decode cX5_seek 54 = .ok (.aaload, 1) := dr9 dk9_dX5_seek_0_0.1 21 (54, .aaload, 1) rfl
theorem dX5_seek_55 : decode cX5_seek 55 = .ok (.getfield 182, 3) := dr9 dk9_dX5_seek_0_0.1 22 (55, .getfield 182, 3) rfl
theorem dX5_seek_58 : decode cX5_seek 58 = .ok (.iload_n 2, 1) := dr9 dk9_dX5_seek_0_0.1 23 (58, .iload_n 2, 1) rfl
theorem dX5_seek_59 : decode cX5_seek 59 = .ok (.invokevirtual 185, 3) := dr9 dk9_dX5_seek_0_0.2.1 0 (59, .invokevirtual 185, 3) rfl
theorem dX5_seek_62 : decode cX5_seek 62 = .ok (.istore 5, 2) := dr9 dk9_dX5_seek_0_0.2.1 1 (62, .istore 5, 2) rfl
theorem dX5_seek_64 : decode cX5_seek 64 = .ok (.iload 5, 2) := dr9 dk9_dX5_seek_0_0.2.1 2 (64, .iload 5, 2) rfl
theorem dX5_seek_66 : decode cX5_seek 66 = .ok (.iconst (-1), 1) := dr9 dk9_dX5_seek_0_0.2.1 3 (66, .iconst (-1), 1) rfl
theorem dX5_seek_67 : decode cX5_seek 67 = .ok (.if_icmp .ne 11, 3) := dr9 dk9_dX5_seek_0_0.2.1 4 (67, .if_icmp .ne 11, 3) rfl
theorem dX5_seek_78 : decode cX5_seek 78 = .ok (.aload_n 0, 1) := dr9 dk9_dX5_seek_0_0.2.1 5 (78, .aload_n 0, 1) rfl
theorem dX5_seek_79 : decode cX5_seek 79 = .ok (.getfield 28, 3) := dr9 dk9_dX5_seek_0_0.2.1 6 (79, .getfield 28, 3) rfl
theorem dX5_seek_82 : decode cX5_seek 82 = .ok (.iload 5, 2) := dr9 dk9_dX5_seek_0_0.2.1 7 (82, .iload 5, 2) rfl
theorem dX5_seek_84 : decode cX5_seek 84 = .ok (.iload_n 1, 1) := dr9 dk9_dX5_seek_0_0.2.1 8 (84, .iload_n 1, 1) rfl
theorem dX5_seek_85 : decode cX5_seek 85 = .ok (.invokevirtual 189, 3) := dr9 dk9_dX5_seek_0_0.2.1 9 (85, .invokevirtual 189, 3) rfl
theorem dX5_seek_88 : decode cX5_seek 88 = .ok (.ifCond .eq 11, 3) := dr9 dk9_dX5_seek_0_0.2.1 10 (88, .ifCond .eq 11, 3) rfl
theorem dX5_seek_99 : decode cX5_seek 99 = .ok (.iload 4, 2) := dr9 dk9_dX5_seek_0_0.2.1 11 (99, .iload 4, 2) rfl
theorem dX5_seek_101 : decode cX5_seek 101 = .ok (.ifCond .eq 16, 3) := dr9 dk9_dX5_seek_0_0.2.1 12 (101, .ifCond .eq 16, 3) rfl
theorem dX5_seek_117 : decode cX5_seek 117 = .ok (.iconst (-1), 1) := dr9 dk9_dX5_seek_0_0.2.1 13 (117, .iconst (-1), 1) rfl
theorem dX5_seek_118 : decode cX5_seek 118 = .ok (.istore 6, 2) := dr9 dk9_dX5_seek_0_0.2.1 14 (118, .istore 6, 2) rfl
theorem dX5_seek_120 : decode cX5_seek 120 = .ok (.iload 6, 2) := dr9 dk9_dX5_seek_0_0.2.1 15 (120, .iload 6, 2) rfl
theorem dX5_seek_122 : decode cX5_seek 122 = .ok (.iconst (-1), 1) := dr9 dk9_dX5_seek_0_0.2.1 16 (122, .iconst (-1), 1) rfl
theorem dX5_seek_123 : decode cX5_seek 123 = .ok (.if_icmp .ne 16, 3) := dr9 dk9_dX5_seek_0_0.2.1 17 (123, .if_icmp .ne 16, 3) rfl
theorem dX5_seek_126 : decode cX5_seek 126 = .ok (.aload_n 0, 1) := dr9 dk9_dX5_seek_0_0.2.1 18 (126, .aload_n 0, 1) rfl
theorem dX5_seek_127 : decode cX5_seek 127 = .ok (.iload_n 1, 1) := dr9 dk9_dX5_seek_0_0.2.1 19 (127, .iload_n 1, 1) rfl
theorem dX5_seek_128 : decode cX5_seek 128 = .ok (.iload 5, 2) := dr9 dk9_dX5_seek_0_0.2.1 20 (128, .iload 5, 2) rfl
theorem dX5_seek_130 : decode cX5_seek 130 = .ok (.iload_n 3, 1) := dr9 dk9_dX5_seek_0_0.2.1 21 (130, .iload_n 3, 1) rfl
theorem dX5_seek_131 : decode cX5_seek 131 = .ok (.iload 4, 2) := dr9 dk9_dX5_seek_0_0.2.1 22 (131, .iload 4, 2) rfl
theorem dX5_seek_133 : decode cX5_seek 133 = .ok (.invokevirtual 196, 3) := dr9 dk9_dX5_seek_0_0.2.1 23 (133, .invokevirtual 196, 3) rfl
theorem dX5_seek_136 : decode cX5_seek 136 = .ok (.goto 31, 3) := dr9 dk9_dX5_seek_0_0.2.2.1 0 (136, .goto 31, 3) rfl
theorem dX5_seek_167 : decode cX5_seek 167 = .ok (.return_, 1) := dr9 dk9_dX5_seek_0_0.2.2.1 1 (167, .return_, 1) rfl
theorem dX5_seek_91 : decode cX5_seek 91 = .ok (.aload_n 0, 1) := dr9 dk9_dX5_seek_0_0.2.2.1 2 (91, .aload_n 0, 1) rfl
theorem dX5_seek_92 : decode cX5_seek 92 = .ok (.iconst 0, 1) := dr9 dk9_dX5_seek_0_0.2.2.1 3 (92, .iconst 0, 1) rfl
theorem dX5_seek_93 : decode cX5_seek 93 = .ok (.bipush 15, 2) := dr9 dk9_dX5_seek_0_0.2.2.1 4 (93, .bipush 15, 2) rfl
theorem dX5_seek_95 : decode cX5_seek 95 = .ok (.invokevirtual 169, 3) := dr9 dk9_dX5_seek_0_0.2.2.1 5 (95, .invokevirtual 169, 3) rfl
theorem dX5_seek_98 : decode cX5_seek 98 = .ok (.return_, 1) := dr9 dk9_dX5_seek_0_0.2.2.1 6 (98, .return_, 1) rfl
theorem dX5_seek_70 : decode cX5_seek 70 = .ok (.aload_n 0, 1) := dr9 dk9_dX5_seek_0_0.2.2.1 7 (70, .aload_n 0, 1) rfl
theorem dX5_seek_71 : decode cX5_seek 71 = .ok (.iconst 0, 1) := dr9 dk9_dX5_seek_0_0.2.2.1 8 (71, .iconst 0, 1) rfl
theorem dX5_seek_72 : decode cX5_seek 72 = .ok (.bipush 14, 2) := dr9 dk9_dX5_seek_0_0.2.2.1 9 (72, .bipush 14, 2) rfl
theorem dX5_seek_74 : decode cX5_seek 74 = .ok (.invokevirtual 169, 3) := dr9 dk9_dX5_seek_0_0.2.2.1 10 (74, .invokevirtual 169, 3) rfl
theorem dX5_seek_77 : decode cX5_seek 77 = .ok (.return_, 1) := dr9 dk9_dX5_seek_0_0.2.2.1 11 (77, .return_, 1) rfl
theorem dX5_seek_35 : decode cX5_seek 35 = .ok (.iconst 1, 1) := dr9 dk9_dX5_seek_0_0.2.2.1 12 (35, .iconst 1, 1) rfl
theorem dX5_seek_36 : decode cX5_seek 36 = .ok (.goto 4, 3) := dr9 dk9_dX5_seek_0_0.2.2.1 13 (36, .goto 4, 3) rfl
theorem dX5_seek_104 : decode cX5_seek 104 = .ok (.aload_n 0, 1) := dr9 dk9_dX5_seek_0_0.2.2.1 14 (104, .aload_n 0, 1) rfl
theorem dX5_seek_105 : decode cX5_seek 105 = .ok (.getfield 28, 3) := dr9 dk9_dX5_seek_0_0.2.2.1 15 (105, .getfield 28, 3) rfl
theorem dX5_seek_108 : decode cX5_seek 108 = .ok (.iload 5, 2) := dr9 dk9_dX5_seek_0_0.2.2.1 16 (108, .iload 5, 2) rfl
theorem dX5_seek_110 : decode cX5_seek 110 = .ok (.iload_n 1, 1) := dr9 dk9_dX5_seek_0_0.2.2.1 17 (110, .iload_n 1, 1) rfl
theorem dX5_seek_111 : decode cX5_seek 111 = .ok (.invokevirtual 193, 3) := dr9 dk9_dX5_seek_0_0.2.2.1 18 (111, .invokevirtual 193, 3) rfl
theorem dX5_seek_114 : decode cX5_seek 114 = .ok (.goto 4, 3) := dr9 dk9_dX5_seek_0_0.2.2.1 19 (114, .goto 4, 3) rfl
theorem dX5_seek_139 : decode cX5_seek 139 = .ok (.aload_n 0, 1) := dr9 dk9_dX5_seek_0_0.2.2.1 20 (139, .aload_n 0, 1) rfl
theorem dX5_seek_140 : decode cX5_seek 140 = .ok (.getfield 28, 3) := dr9 dk9_dX5_seek_0_0.2.2.1 21 (140, .getfield 28, 3) rfl
theorem dX5_seek_143 : decode cX5_seek 143 = .ok (.iload 6, 2) := dr9 dk9_dX5_seek_0_0.2.2.1 22 (143, .iload 6, 2) rfl
theorem dX5_seek_145 : decode cX5_seek 145 = .ok (.invokevirtual 200, 3) := dr9 dk9_dX5_seek_0_0.2.2.1 23 (145, .invokevirtual 200, 3) rfl
theorem dX5_seek_148 : decode cX5_seek 148 = .ok (.ifCond .eq 12, 3) := dr9 dk9_dX5_seek_0_0.2.2.2 0 (148, .ifCond .eq 12, 3) rfl
theorem dX5_seek_160 : decode cX5_seek 160 = .ok (.aload_n 0, 1) := dr9 dk9_dX5_seek_0_0.2.2.2 1 (160, .aload_n 0, 1) rfl
theorem dX5_seek_161 : decode cX5_seek 161 = .ok (.iconst 0, 1) := dr9 dk9_dX5_seek_0_0.2.2.2 2 (161, .iconst 0, 1) rfl
theorem dX5_seek_162 : decode cX5_seek 162 = .ok (.bipush 12, 2) := dr9 dk9_dX5_seek_0_0.2.2.2 3 (162, .bipush 12, 2) rfl
theorem dX5_seek_164 : decode cX5_seek 164 = .ok (.invokevirtual 169, 3) := dr9 dk9_dX5_seek_0_0.2.2.2 4 (164, .invokevirtual 169, 3) rfl
theorem dX5_seek_151 : decode cX5_seek 151 = .ok (.aload_n 0, 1) := dr9 dk9_dX5_seek_0_0.2.2.2 5 (151, .aload_n 0, 1) rfl
theorem dX5_seek_152 : decode cX5_seek 152 = .ok (.iload 6, 2) := dr9 dk9_dX5_seek_0_0.2.2.2 6 (152, .iload 6, 2) rfl
theorem dX5_seek_154 : decode cX5_seek 154 = .ok (.invokevirtual 203, 3) := dr9 dk9_dX5_seek_0_0.2.2.2 7 (154, .invokevirtual 203, 3) rfl
theorem dX5_seek_157 : decode cX5_seek 157 = .ok (.goto 10, 3) := dr9 dk9_dX5_seek_0_0.2.2.2 8 (157, .goto 10, 3) rfl
theorem dX5_seek_11 : decode cX5_seek 11 = .ok (.aload_n 0, 1) := dr9 dk9_dX5_seek_0_0.2.2.2 9 (11, .aload_n 0, 1) rfl
theorem dX5_seek_12 : decode cX5_seek 12 = .ok (.iconst 0, 1) := dr9 dk9_dX5_seek_0_0.2.2.2 10 (12, .iconst 0, 1) rfl
theorem dX5_seek_13 : decode cX5_seek 13 = .ok (.bipush 14, 2) := dr9 dk9_dX5_seek_0_0.2.2.2 11 (13, .bipush 14, 2) rfl
theorem dX5_seek_15 : decode cX5_seek 15 = .ok (.invokevirtual 169, 3) := dr9 dk9_dX5_seek_0_0.2.2.2 12 (15, .invokevirtual 169, 3) rfl
theorem dX5_seek_18 : decode cX5_seek 18 = .ok (.return_, 1) := dr9 dk9_dX5_seek_0_0.2.2.2 13 (18, .return_, 1) rfl
theorem dk9_dX5_undoNext_0_0 : dOk cX5_undoNext [(0, .aload_n 0, 1), (1, .getfield 46, 3), (4, .aload_n 1, 1), (5, .getfield 123, 3), (8, .if_icmp .le 31, 3), (39, .aload_n 0, 1), (40, .aload_n 1, 1), (41, .getfield 147, 3), (44, .aload_n 1, 1), (45, .getfield 148, 3), (48, .invokevirtual 169, 3), (51, .aload_n 1, 1), (52, .getfield 115, 3), (55, .ifCond .eq 8, 3), (63, .aload_n 0, 1), (64, .invokevirtual 157, 3), (67, .return_, 1), (58, .aload_n 0, 1), (59, .iconst 3, 1), (60, .putfield 49, 3), (11, .aload_n 0, 1), (12, .dup, 1), (13, .getfield 46, 3), (16, .iconst 1, 1)] = true ∧ dOk cX5_undoNext [(17, .isub, 1), (18, .putfield 46, 3), (21, .aload_n 0, 1), (22, .aload_n 0, 1), (23, .getfield 21, 3), (26, .aload_n 0, 1), (27, .getfield 46, 3), (30, .iaload, 1), (31, .aload_n 1, 1), (32, .getfield 97, 3), (35, .invokevirtual 166, 3), (38, .return_, 1)] = true := by decide +kernel
theorem dX5_undoNext_0 : decode cX5_undoNext 0 = .ok (.aload_n 0, 1) := dr9 dk9_dX5_undoNext_0_0.1 0 (0, .aload_n 0, 1) rfl
theorem dX5_undoNext_1 : decode cX5_undoNext 1 = .ok (.getfield 46, 3) := dr9 dk9_dX5_undoNext_0_0.1 1 (1, .getfield 46, 3) rfl
theorem dX5_undoNext_4 : decode cX5_undoNext 4 = .ok (.aload_n 1, 1) := dr9 dk9_dX5_undoNext_0_0.1 2 (4, .aload_n 1, 1) rfl
theorem dX5_undoNext_5 : decode cX5_undoNext 5 = .ok (.getfield 123, 3) := dr9 dk9_dX5_undoNext_0_0.1 3 (5, .getfield 123, 3) rfl
theorem dX5_undoNext_8 : decode cX5_undoNext 8 = .ok (.if_icmp .le 31, 3) := dr9 dk9_dX5_undoNext_0_0.1 4 (8, .if_icmp .le 31, 3) rfl
theorem dX5_undoNext_39 : decode cX5_undoNext 39 = .ok (.aload_n 0, 1) := dr9 dk9_dX5_undoNext_0_0.1 5 (39, .aload_n 0, 1) rfl
theorem dX5_undoNext_40 : decode cX5_undoNext 40 = .ok (.aload_n 1, 1) := dr9 dk9_dX5_undoNext_0_0.1 6 (40, .aload_n 1, 1) rfl
theorem dX5_undoNext_41 : decode cX5_undoNext 41 = .ok (.getfield 147, 3) := dr9 dk9_dX5_undoNext_0_0.1 7 (41, .getfield 147, 3) rfl
theorem dX5_undoNext_44 : decode cX5_undoNext 44 = .ok (.aload_n 1, 1) := dr9 dk9_dX5_undoNext_0_0.1 8 (44, .aload_n 1, 1) rfl
theorem dX5_undoNext_45 : decode cX5_undoNext 45 = .ok (.getfield 148, 3) := dr9 dk9_dX5_undoNext_0_0.1 9 (45, .getfield 148, 3) rfl
theorem dX5_undoNext_48 : decode cX5_undoNext 48 = .ok (.invokevirtual 169, 3) := dr9 dk9_dX5_undoNext_0_0.1 10 (48, .invokevirtual 169, 3) rfl
theorem dX5_undoNext_51 : decode cX5_undoNext 51 = .ok (.aload_n 1, 1) := dr9 dk9_dX5_undoNext_0_0.1 11 (51, .aload_n 1, 1) rfl
theorem dX5_undoNext_52 : decode cX5_undoNext 52 = .ok (.getfield 115, 3) := dr9 dk9_dX5_undoNext_0_0.1 12 (52, .getfield 115, 3) rfl
theorem dX5_undoNext_55 : decode cX5_undoNext 55 = .ok (.ifCond .eq 8, 3) := dr9 dk9_dX5_undoNext_0_0.1 13 (55, .ifCond .eq 8, 3) rfl
theorem dX5_undoNext_63 : decode cX5_undoNext 63 = .ok (.aload_n 0, 1) := dr9 dk9_dX5_undoNext_0_0.1 14 (63, .aload_n 0, 1) rfl
theorem dX5_undoNext_64 : decode cX5_undoNext 64 = .ok (.invokevirtual 157, 3) := dr9 dk9_dX5_undoNext_0_0.1 15 (64, .invokevirtual 157, 3) rfl
theorem dX5_undoNext_67 : decode cX5_undoNext 67 = .ok (.return_, 1) := dr9 dk9_dX5_undoNext_0_0.1 16 (67, .return_, 1) rfl
theorem dX5_undoNext_58 : decode cX5_undoNext 58 = .ok (.aload_n 0, 1) := dr9 dk9_dX5_undoNext_0_0.1 17 (58, .aload_n 0, 1) rfl
theorem dX5_undoNext_59 : decode cX5_undoNext 59 = .ok (.iconst 3, 1) := dr9 dk9_dX5_undoNext_0_0.1 18 (59, .iconst 3, 1) rfl
theorem dX5_undoNext_60 : decode cX5_undoNext 60 = .ok (.putfield 49, 3) := dr9 dk9_dX5_undoNext_0_0.1 19 (60, .putfield 49, 3) rfl
theorem dX5_undoNext_11 : decode cX5_undoNext 11 = .ok (.aload_n 0, 1) := dr9 dk9_dX5_undoNext_0_0.1 20 (11, .aload_n 0, 1) rfl
theorem dX5_undoNext_12 : decode cX5_undoNext 12 = .ok (.dup, 1) := dr9 dk9_dX5_undoNext_0_0.1 21 (12, .dup, 1) rfl
theorem dX5_undoNext_13 : decode cX5_undoNext 13 = .ok (.getfield 46, 3) := dr9 dk9_dX5_undoNext_0_0.1 22 (13, .getfield 46, 3) rfl
theorem dX5_undoNext_16 : decode cX5_undoNext 16 = .ok (.iconst 1, 1) := dr9 dk9_dX5_undoNext_0_0.1 23 (16, .iconst 1, 1) rfl
theorem dX5_undoNext_17 : decode cX5_undoNext 17 = .ok (.isub, 1) := dr9 dk9_dX5_undoNext_0_0.2 0 (17, .isub, 1) rfl
theorem dX5_undoNext_18 : decode cX5_undoNext 18 = .ok (.putfield 46, 3) := dr9 dk9_dX5_undoNext_0_0.2 1 (18, .putfield 46, 3) rfl
theorem dX5_undoNext_21 : decode cX5_undoNext 21 = .ok (.aload_n 0, 1) := dr9 dk9_dX5_undoNext_0_0.2 2 (21, .aload_n 0, 1) rfl
theorem dX5_undoNext_22 : decode cX5_undoNext 22 = .ok (.aload_n 0, 1) := dr9 dk9_dX5_undoNext_0_0.2 3 (22, .aload_n 0, 1) rfl
theorem dX5_undoNext_23 : decode cX5_undoNext 23 = .ok (.getfield 21, 3) := dr9 dk9_dX5_undoNext_0_0.2 4 (23, .getfield 21, 3) rfl
theorem dX5_undoNext_26 : decode cX5_undoNext 26 = .ok (.aload_n 0, 1) := dr9 dk9_dX5_undoNext_0_0.2 5 (26, .aload_n 0, 1) rfl
theorem dX5_undoNext_27 : decode cX5_undoNext 27 = .ok (.getfield 46, 3) := dr9 dk9_dX5_undoNext_0_0.2 6 (27, .getfield 46, 3) rfl
theorem dX5_undoNext_30 : decode cX5_undoNext 30 = .ok (.iaload, 1) := dr9 dk9_dX5_undoNext_0_0.2 7 (30, .iaload, 1) rfl
theorem dX5_undoNext_31 : decode cX5_undoNext 31 = .ok (.aload_n 1, 1) := dr9 dk9_dX5_undoNext_0_0.2 8 (31, .aload_n 1, 1) rfl
theorem dX5_undoNext_32 : decode cX5_undoNext 32 = .ok (.getfield 97, 3) := dr9 dk9_dX5_undoNext_0_0.2 9 (32, .getfield 97, 3) rfl
theorem dX5_undoNext_35 : decode cX5_undoNext 35 = .ok (.invokevirtual 166, 3) := dr9 dk9_dX5_undoNext_0_0.2 10 (35, .invokevirtual 166, 3) rfl
theorem dX5_undoNext_38 : decode cX5_undoNext 38 = .ok (.return_, 1) := dr9 dk9_dX5_undoNext_0_0.2 11 (38, .return_, 1) rfl
theorem dk9_dX5_goOnGetting_0_0 : dOk cX5_goOnGetting [(0, .aload_n 1, 1), (1, .getfield 94, 3), (4, .ifCond .ne 25, 3), (29, .aload_n 1, 1), (30, .getfield 94, 3), (33, .iconst 1, 1), (34, .if_icmp .ne 37, 3), (71, .aload_n 0, 1), (72, .getfield 49, 3), (75, .iconst 3, 1), (76, .if_icmp .ne 8, 3), (84, .aload_n 0, 1), (85, .aload_n 1, 1), (86, .invokevirtual 163, 3), (89, .return_, 1), (79, .aload_n 1, 1), (80, .iconst 1, 1), (81, .putfield 115, 3), (37, .aload_n 0, 1), (38, .getfield 49, 3), (41, .iconst 2, 1), (42, .if_icmp .eq 16, 3), (58, .aload_n 0, 1), (59, .aload_n 1, 1)] = true ∧ dOk cX5_goOnGetting [(60, .invokevirtual 160, 3), (63, .aload_n 1, 1), (64, .iconst 2, 1), (65, .putfield 94, 3), (68, .goto 16, 3), (45, .aload_n 0, 1), (46, .aload_n 1, 1), (47, .getfield 123, 3), (50, .putfield 46, 3), (53, .aload_n 0, 1), (54, .invokevirtual 157, 3), (57, .return_, 1), (7, .aload_n 1, 1), (8, .iconst 1, 1), (9, .putfield 94, 3), (12, .aload_n 0, 1), (13, .aload_n 1, 1), (14, .getfield 103, 3), (17, .aload_n 1, 1), (18, .getfield 106, 3), (21, .aload_n 1, 1), (22, .getfield 97, 3), (25, .invokevirtual 153, 3), (28, .return_, 1)] = true := by decide +kernel
theorem dX5_goOnGetting_0 : decode cX5_goOnGetting 0 = .ok (.aload_n 1, 1) := dr9 dk9_dX5_goOnGetting_0_0.1 0 (0, .aload_n 1, 1) rfl
theorem dX5_goOnGetting_1 : decode cX5_goOnGetting 1 = .ok (.getfield 94, 3) := dr9 dk9_dX5_goOnGetting_0_0.1 1 (1, .getfield 94, 3) rfl
theorem dX5_goOnGetting_4 : decode cX5_goOnGetting 4 = .ok (.ifCond .ne 25, 3) := dr9 dk9_dX5_goOnGetting_0_0.1 2 (4, .ifCond .ne 25, 3) rfl
theorem dX5_goOnGetting_29 : decode cX5_goOnGetting 29 = .ok (.aload_n 1, 1) := dr9 dk9_dX5_goOnGetting_0_0.1 3 (29, .aload_n 1, 1) rfl
theorem dX5_goOnGetting_30 : decode cX5_goOnGetting 30 = .ok (.getfield 94, 3) := dr9 dk9_dX5_goOnGetting_0_0.1 4 (30, .getfield 94, 3) rfl
theorem dX5_goOnGetting_33 : decode cX5_goOnGetting 33 = .ok (.iconst 1, 1) := dr9 dk9_dX5_goOnGetting_0_0.1 5 (33, .iconst 1, 1) rfl
theorem dX5_goOnGetting_34 : decode cX5_goOnGetting 34 = .ok (.if_icmp .ne 37, 3) := dr9 dk9_dX5_goOnGetting_0_0.1 6 (34, .if_icmp .ne 37, 3) rfl
theorem dX5_goOnGetting_71 : decode cX5_goOnGetting 71 = .ok (.aload_n 0, 1) := dr9 dk9_dX5_goOnGetting_0_0.1 7 (71, .aload_n 0, 1) rfl
theorem dX5_goOnGetting_72 : decode cX5_goOnGetting 72 = .ok (.getfield 49, 3) := dr9 dk9_dX5_goOnGetting_0_0.1 8 (72, .getfield 49, 3) rfl
theorem dX5_goOnGetting_75 : decode cX5_goOnGetting 75 = .ok (.iconst 3, 1) := dr9 dk9_dX5_goOnGetting_0_0.1 9 (75, .iconst 3, 1) rfl
theorem dX5_goOnGetting_76 : decode cX5_goOnGetting 76 = .ok (.if_icmp .ne 8, 3) := dr9 dk9_dX5_goOnGetting_0_0.1 10 (76, .if_icmp .ne 8, 3) rfl
theorem dX5_goOnGetting_84 : decode cX5_goOnGetting 84 = .ok (.aload_n 0, 1) := dr9 dk9_dX5_goOnGetting_0_0.1 11 (84, .aload_n 0, 1) rfl
theorem dX5_goOnGetting_85 : decode cX5_goOnGetting 85 = .ok (.aload_n 1, 1) := dr9 dk9_dX5_goOnGetting_0_0.1 12 (85, .aload_n 1, 1) rfl
theorem dX5_goOnGetting_86 : decode cX5_goOnGetting 86 = .ok (.invokevirtual 163, 3) := dr9 dk9_dX5_goOnGetting_0_0.1 13 (86, .invokevirtual 163, 3) rfl
theorem dX5_goOnGetting_89 : decode cX5_goOnGetting 89 = .ok (.return_, 1) := dr9 dk9_dX5_goOnGetting_0_0.1 14 (89, .return_, 1) rfl
theorem dX5_goOnGetting_79 : decode cX5_goOnGetting 79 = .ok (.aload_n 1, 1) := dr9 dk9_dX5_goOnGetting_0_0.1 15 (79, .aload_n 1, 1) rfl
theorem dX5_goOnGetting_80 : decode cX5_goOnGetting 80 = .ok (.iconst 1, 1) := dr9 dk9_dX5_goOnGetting_0_0.1 16 (80, .iconst 1, 1) rfl
theorem dX5_goOnGetting_81 : decode cX5_goOnGetting 81 = .ok (.putfield 115, 3) := dr9 dk9_dX5_goOnGetting_0_0.1 17 (81, .putfield 115, 3) rfl
theorem dX5_goOnGetting_37 : decode cX5_goOnGetting 37 = .ok (.aload_n 0, 1) := dr9 dk9_dX5_goOnGetting_0_0.1 18 (37, .aload_n 0, 1) rfl
theorem dX5_goOnGetting_38 : decode cX5_goOnGetting 38 = .ok (.getfield 49, 3) := dr9 dk9_dX5_goOnGetting_0_0.1 19 (38, .getfield 49, 3) rfl
theorem dX5_goOnGetting_41 : decode cX5_goOnGetting 41 = .ok (.iconst 2, 1) := dr9 dk9_dX5_goOnGetting_0_0.1 20 (41, .iconst 2, 1) rfl
theorem dX5_goOnGetting_42 : decode cX5_goOnGetting 42 = .ok (.if_icmp .eq 16, 3) := dr9 dk9_dX5_goOnGetting_0_0.1 21 (42, .if_icmp .eq 16, 3) rfl
theorem dX5_goOnGetting_58 : decode cX5_goOnGetting 58 = .ok (.aload_n 0, 1) := dr9 dk9_dX5_goOnGetting_0_0.1 22 (58, .aload_n 0, 1) rfl
theorem dX5_goOnGetting_59 : decode cX5_goOnGetting 59 = .ok (.aload_n 1, 1) := dr9 dk9_dX5_goOnGetting_0_0.1 23 (59, .aload_n 1, 1) rfl
theorem dX5_goOnGetting_60 : decode cX5_goOnGetting 60 = .ok (.invokevirtual 160, 3) := dr9 dk9_dX5_goOnGetting_0_0.2 0 (60, .invokevirtual 160, 3) rfl
theorem dX5_goOnGetting_63 : decode cX5_goOnGetting 63 = .ok (.aload_n 1, 1) := dr9 dk9_dX5_goOnGetting_0_0.2 1 (63, .aload_n 1, 1) rfl
theorem dX5_goOnGetting_64 : decode cX5_goOnGetting 64 = .ok (.iconst 2, 1) := dr9 dk9_dX5_goOnGetting_0_0.2 2 (64, .iconst 2, 1) rfl
theorem dX5_goOnGetting_65 : decode cX5_goOnGetting 65 = .ok (.putfield 94, 3) := dr9 dk9_dX5_goOnGetting_0_0.2 3 (65, .putfield 94, 3) rfl
theorem dX5_goOnGetting_68 : decode cX5_goOnGetting 68 = .ok (.goto 16, 3) := dr9 dk9_dX5_goOnGetting_0_0.2 4 (68, .goto 16, 3) rfl
theorem dX5_goOnGetting_45 : decode cX5_goOnGetting 45 = .ok (.aload_n 0, 1) := dr9 dk9_dX5_goOnGetting_0_0.2 5 (45, .aload_n 0, 1) rfl
theorem dX5_goOnGetting_46 : decode cX5_goOnGetting 46 = .ok (.aload_n 1, 1) := dr9 dk9_dX5_goOnGetting_0_0.2 6 (46, .aload_n 1, 1) rfl
theorem dX5_goOnGetting_47 : decode cX5_goOnGetting 47 = .ok (.getfield 123, 3) := dr9 dk9_dX5_goOnGetting_0_0.2 7 (47, .getfield 123, 3) rfl
theorem dX5_goOnGetting_50 : decode cX5_goOnGetting 50 = .ok (.putfield 46, 3) := dr9 dk9_dX5_goOnGetting_0_0.2 8 (50, .putfield 46, 3) rfl
theorem dX5_goOnGetting_53 : decode cX5_goOnGetting 53 = .ok (.aload_n 0, 1) := dr9 dk9_dX5_goOnGetting_0_0.2 9 (53, .aload_n 0, 1) rfl
theorem dX5_goOnGetting_54 : decode cX5_goOnGetting 54 = .ok (.invokevirtual 157, 3) := dr9 dk9_dX5_goOnGetting_0_0.2 10 (54, .invokevirtual 157, 3) rfl
theorem dX5_goOnGetting_57 : decode cX5_goOnGetting 57 = .ok (.return_, 1) := dr9 dk9_dX5_goOnGetting_0_0.2 11 (57, .return_, 1) rfl
theorem dX5_goOnGetting_7 : decode cX5_goOnGetting 7 = .ok (.aload_n 1, 1) := dr9 dk9_dX5_goOnGetting_0_0.2 12 (7, .aload_n 1, 1) rfl
theorem dX5_goOnGetting_8 : decode cX5_goOnGetting 8 = .ok (.iconst 1, 1) := dr9 dk9_dX5_goOnGetting_0_0.2 13 (8, .iconst 1, 1) rfl
theorem dX5_goOnGetting_9 : decode cX5_goOnGetting 9 = .ok (.putfield 94, 3) := dr9 dk9_dX5_goOnGetting_0_0.2 14 (9, .putfield 94, 3) rfl
theorem dX5_goOnGetting_12 : decode cX5_goOnGetting 12 = .ok (.aload_n 0, 1) := dr9 dk9_dX5_goOnGetting_0_0.2 15 (12, .aload_n 0, 1) rfl
theorem dX5_goOnGetting_13 : decode cX5_goOnGetting 13 = .ok (.aload_n 1, 1) := dr9 dk9_dX5_goOnGetting_0_0.2 16 (13, .aload_n 1, 1) rfl
theorem dX5_goOnGetting_14 : decode cX5_goOnGetting 14 = .ok (.getfield 103, 3) := dr9 dk9_dX5_goOnGetting_0_0.2 17 (14, .getfield 103, 3) rfl
theorem dX5_goOnGetting_17 : decode cX5_goOnGetting 17 = .ok (.aload_n 1, 1) := dr9 dk9_dX5_goOnGetting_0_0.2 18 (17, .aload_n 1, 1) rfl
theorem dX5_goOnGetting_18 : decode cX5_goOnGetting 18 = .ok (.getfield 106, 3) := dr9 dk9_dX5_goOnGetting_0_0.2 19 (18, .getfield 106, 3) rfl
theorem dX5_goOnGetting_21 : decode cX5_goOnGetting 21 = .ok (.aload_n 1, 1) := dr9 dk9_dX5_goOnGetting_0_0.2 20 (21, .aload_n 1, 1) rfl
theorem dX5_goOnGetting_22 : decode cX5_goOnGetting 22 = .ok (.getfield 97, 3) := dr9 dk9_dX5_goOnGetting_0_0.2 21 (22, .getfield 97, 3) rfl
theorem dX5_goOnGetting_25 : decode cX5_goOnGetting 25 = .ok (.invokevirtual 153, 3) := dr9 dk9_dX5_goOnGetting_0_0.2 22 (25, .invokevirtual 153, 3) rfl
theorem dX5_goOnGetting_28 : decode cX5_goOnGetting 28 = .ok (.return_, 1) := dr9 dk9_dX5_goOnGetting_0_0.2 23 (28, .return_, 1) rfl
abbrev r_x_answerWith2 : Room := { frames := 0, cells := 0, slots := 0, locals := 0 }
abbrev q_x_answerWith2 (D : va_G) (ks : KS) (ad : Nat → Nat) (kk : Nat → ClassId) (V : Vf) (L : Lf) (Z : XZ) (p0 : Int32) (A : Nat → Prop) : Array Value → State → Outcome → State → Prop := va_Qv (fun (u : Vf × Lf) => rgd bX u.1 ∧ agr [(5, 9), (5, 10)] [] V u.1 ∧ u.2 = L ∧ ((u.1 5 9).toInt = 1) ∧ ((u.1 5 10).toInt = p0.toInt)) (fun u t => gq D A (xw ad kk u.1 u.2 Z) (xty kk Z) t) A
set_option maxHeartbeats 4000000 in
set_option maxRecDepth 100000 in
theorem x_answerWith2 (l : Launch) (D : va_G) (ks : KS) (sz : Nat) (ad : Nat → Nat) (kk : Nat → ClassId) (V : Vf) (L : Lf) (Z : XZ) (p0 : Int32) (hMV : rgd bX V)  : Met l yX5_answerWith (Cond.code yX5_answerWith cX5_answerWith 2 none :: GW) r_x_answerWith2 (va_Pc [.ref (ad 5), .int p0] (gp D ks (xw ad kk V L Z) (xty kk Z) sz)) (q_x_answerWith2 D ks ad kk V L Z p0 (va_A (xw ad kk V L Z) sz)) 0 0 (va_A (xw ad kk V L Z) sz) := by
  refine g_met (q_x_answerWith2 D ks ad kk V L Z p0) (by decide) (Nat.le_of_ble_eq_true rfl) ?_
  intro p e s m below meth c A ls H locs hx hb hr hml hown hg hlocks hin hnw hgk hP hK hD hS hA hl
  have hown : s.vm.findClass RX5 = some m.cls := hown
  have hl : lv_has ls 2 [(0, .ref (ad 5)), (1, .int p0)] := hl
  have hP : va_P D vwCl (xw ad kk V L Z) H := hP
  have hD : va_D A (xw ad kk V L Z) := hD
  have hK : va_K D vwCl (xty kk Z) s := hK
  have agV : agr [(5, 9), (5, 10)] [] V V := agr.rf
  refine lv_aload_n hx hb dX5_answerWith_0 rfl (lv_at hl 0 rfl) ?_
  refine lv_iconst (v := 1) hx hb dX5_answerWith_1 (by decide) ?_
  refine va_put (D := D) (ci := 5) (v := .int 1) (ty := tyX5 9) (fs := (xfMachine ad V L Z)) (C := RX5) (T := TX5) (N := 15) hx hb hg inX5 tyX5 tyX5_ok nmX5 hown hK hP hD hS 5 xgMachine rfl 9 (by decide) (hg _ w676) (fun _ h9 => h9) rfl (tyX5_ok 9 (by decide)) rfl rfl (Nat.le_of_ble_eq_true rfl) dX5_answerWith_2 (fun H locs hP hD hS => ?_)
  obtain ⟨V1, hV1⟩ : ∃ z, z = up2 V 5 9 1 := ⟨_, rfl⟩
  have ew2 : (xw ad kk V L Z).set 5 ((ad 5), .inr (5, (xfMachine ad V L Z).set 9 (.int 1))) = xw ad kk V1 L Z := by rw [hV1]; exact xw_ss (by decide) rfl (xb_si (by decide))
  have hP : va_P D vwCl (xw ad kk V1 L Z) H := by rw [← ew2]; exact hP
  have hD : va_D A (xw ad kk V1 L Z) := by rw [← ew2]; exact hD
  have hMV1 : rgd bX V1 := hMV.put hV1 (by decide)
  have agV1 : agr [(5, 9), (5, 10)] [] V V1 := agV.up hV1 rfl
  refine lv_aload_n hx hb dX5_answerWith_5 rfl (lv_at hl 0 rfl) ?_
  refine lv_iload_n hx hb dX5_answerWith_6 rfl (lv_at hl 1 rfl) ?_
  refine va_put (D := D) (ci := 5) (v := .int p0) (ty := tyX5 10) (fs := (xfMachine ad V1 L Z)) (C := RX5) (T := TX5) (N := 15) hx hb hg inX5 tyX5 tyX5_ok nmX5 hown hK hP hD hS 5 xgMachine rfl 10 (by decide) (hg _ w677) (fun _ h9 => h9) rfl (tyX5_ok 10 (by decide)) rfl rfl (Nat.le_of_ble_eq_true rfl) dX5_answerWith_7 (fun H locs hP hD hS => ?_)
  obtain ⟨V3, hV3⟩ : ∃ z, z = up2 V1 5 10 p0 := ⟨_, rfl⟩
  have ew4 : (xw ad kk V1 L Z).set 5 ((ad 5), .inr (5, (xfMachine ad V1 L Z).set 10 (.int p0))) = xw ad kk V3 L Z := by rw [hV3]; exact xw_ss (by decide) rfl (xb_si (by decide))
  have hP : va_P D vwCl (xw ad kk V3 L Z) H := by rw [← ew4]; exact hP
  have hD : va_D A (xw ad kk V3 L Z) := by rw [← ew4]; exact hD
  have hMV3 : rgd bX V3 := hMV1.put hV3 (i_full _)
  have agV3 : agr [(5, 9), (5, 10)] [] V V3 := agV1.up hV3 rfl
  have pq5 : (V3 5 9).toInt = 1 := (congrArg Int32.toInt ((up2_k hV3 (by decide)).trans (up2_s hV1))).trans (by decide)
  have pq6 : (V3 5 10).toInt = p0.toInt := congrArg Int32.toInt (up2_s hV3)
  exact W.vret hx hb hr (fun t ht hW => ⟨⟨(V3, L), rfl, ⟨hMV3, agV3, rfl, (show (V3 5 9).toInt = 1 from by (first | exact om_710535a98d88 pq5 | omega)), (show (V3 5 10).toInt = p0.toInt from by (first | exact om_570b691c1130 pq6 | omega))⟩, by rw [ht]; exact hP, va_K.moved hW.alike hK, hD⟩, hS.F ht⟩) hS.2.2 dX5_answerWith_10
abbrev r_x_objectAt2 : Room := { frames := 0, cells := 0, slots := 0, locals := 0 }
abbrev q_x_objectAt2 (D : va_G) (ks : KS) (ad : Nat → Nat) (kk : Nat → ClassId) (V : Vf) (L : Lf) (Z : XZ) (p0 : Int32) (p1 : Int32) (A : Nat → Prop) : Array Value → State → Outcome → State → Prop := va_Qi (fun (r : Int32) (_ : Unit) => ((-1) ≤ r.toInt ∧ r.toInt ≤ 299) ∧ (r = V 25 (24 * Int32.toNatClampNeg p0 + Int32.toNatClampNeg p1))) (fun _ t => gq D A (xw ad kk V L Z) (xty kk Z) t) A
set_option maxHeartbeats 4000000 in
set_option maxRecDepth 100000 in
theorem x_objectAt2 (l : Launch) (D : va_G) (ks : KS) (sz : Nat) (ad : Nat → Nat) (kk : Nat → ClassId) (V : Vf) (L : Lf) (Z : XZ) (p0 : Int32) (p1 : Int32) (hMV : rgd bX V) (rg_p0 : 0 ≤ p0.toInt ∧ p0.toInt ≤ 39) (rg_p1 : 0 ≤ p1.toInt ∧ p1.toInt ≤ 23)  : Met l yX8_objectAt (Cond.code yX8_objectAt cX8_objectAt 3 (some .int) :: GW) r_x_objectAt2 (va_Pc [.ref (ad 3), .int p0, .int p1] (gp D ks (xw ad kk V L Z) (xty kk Z) sz)) (q_x_objectAt2 D ks ad kk V L Z p0 p1 (va_A (xw ad kk V L Z) sz)) 0 0 (va_A (xw ad kk V L Z) sz) := by
  refine g_met (q_x_objectAt2 D ks ad kk V L Z p0 p1) (by decide) (Nat.le_of_ble_eq_true rfl) ?_
  intro p e s m below meth c A ls H locs hx hb hr hml hown hg hlocks hin hnw hgk hP hK hD hS hA hl
  have hown : s.vm.findClass RX8 = some m.cls := hown
  have hl : lv_has ls 3 [(0, .ref (ad 3)), (1, .int p0), (2, .int p1)] := hl
  have hP : va_P D vwCl (xw ad kk V L Z) H := hP
  have hD : va_D A (xw ad kk V L Z) := hD
  have hK : va_K D vwCl (xty kk Z) s := hK
  refine lv_aload_n hx hb dX8_objectAt_0 rfl (lv_at hl 0 rfl) ?_
  refine va_get (D := D) (ci := 8) (v := .ref (ad 22)) (fs := (xfStock ad V L Z)) (C := RX8) (T := TX8) (N := 16) hx hb hg inX8 hown hK hP 3 xgStock rfl 4 (by decide) (hg _ w378) (fun _ h9 => h9) rfl dX8_objectAt_1 ?_
  refine lv_iload_n hx hb dX8_objectAt_4 rfl (lv_at hl 1 rfl) ?_
  refine lv_bipush (v := 24) hx hb dX8_objectAt_5 (by decide) ?_
  refine lv_imul hx hb dX8_objectAt_7 ?_
  refine lv_topi (fun z1 ez1 => ?_)
  have hz1 : z1.toInt = p0.toInt * 24 := i_mul ez1 rfl (by decide) (by (first | exact om_1c6a8f74b4b6 rg_p0.1 rg_p0.2 | omega))
  refine lv_iload_n hx hb dX8_objectAt_8 rfl (lv_at hl 2 rfl) ?_
  refine lv_iadd hx hb dX8_objectAt_9 ?_
  refine lv_topi (fun z2 ez2 => ?_)
  have hz2 : z2.toInt = z1.toInt + p1.toInt := i_add ez2 rfl rfl (by (first | exact om_efd5f9e1113c rg_p0.1 rg_p0.2 rg_p1.1 rg_p1.2 hz1 | omega))
  refine va_iald (D := D) (i := z2) hx hb hK hP 22 15 rfl rfl (i_in (a := z2.toInt) rfl (by (first | exact om_8cac2fcdd7d1 rg_p0.1 rg_p0.2 rg_p1.1 rg_p1.2 hz1 hz2 | omega))) dX8_objectAt_10 ?_
  have r3 : (-1) ≤ ((V 25 (Int32.toNatClampNeg z2))).toInt ∧ ((V 25 (Int32.toNatClampNeg z2))).toInt ≤ 299 := hMV 25 (Int32.toNatClampNeg z2)
  have k1 := i_clamp (x := z2) rfl (by (first | exact om_6a6e19407997 rg_p0.1 rg_p1.1 hz1 hz2 | omega))
  have k2 := i_clamp (x := p0) rfl (by (first | exact om_eafa9039069c rg_p0.1 | omega))
  have k3 := i_clamp (x := p1) rfl (by (first | exact om_eafa9039069c rg_p1.1 | omega))
  exact W.iret (v := (V 25 (Int32.toNatClampNeg z2))) hx hb hr (fun t ht hW => ⟨⟨(V 25 (Int32.toNatClampNeg z2)), (), rfl, ⟨(show (-1) ≤ ((V 25 (Int32.toNatClampNeg z2))).toInt ∧ ((V 25 (Int32.toNatClampNeg z2))).toInt ≤ 299 from by (first | exact om_0fcd3dacd231 r3.1 r3.2 | omega)), (congrArg (V 25) (by omega))⟩, by rw [ht]; exact hP, va_K.moved hW.alike hK, hD⟩, hS.F ht⟩) hS.2.2 dX8_objectAt_11
abbrev r_x_holdFailure2 : Room := { frames := 0, cells := 0, slots := 0, locals := 0 }
abbrev q_x_holdFailure2 (D : va_G) (ks : KS) (ad : Nat → Nat) (kk : Nat → ClassId) (V : Vf) (L : Lf) (Z : XZ) (gf : Nat) (A : Nat → Prop) : Array Value → State → Outcome → State → Prop := va_Qv (fun (u : Vf × Lf) => rgd bX u.1 ∧ agr [] [81, 82] V u.1 ∧ u.2 = L ∧ (ME V u.1 gf)) (fun u t => gq D A (xw ad kk u.1 u.2 Z) (xty kk Z) t) A
set_option maxHeartbeats 4000000 in
set_option maxRecDepth 100000 in
theorem x_holdFailure2 (l : Launch) (D : va_G) (ks : KS) (sz : Nat) (ad : Nat → Nat) (kk : Nat → ClassId) (V : Vf) (L : Lf) (Z : XZ) (gf : Nat) (hMV : rgd bX V) (hgf : gf < Z.nf)  : Met l yX5_holdFailure (Cond.code yX5_holdFailure cX5_holdFailure 2 none :: GW) r_x_holdFailure2 (va_Pc [.ref (ad 5), .ref (Z.fa gf)] (gp D ks (xw ad kk V L Z) (xty kk Z) sz)) (q_x_holdFailure2 D ks ad kk V L Z  gf (va_A (xw ad kk V L Z) sz)) 0 0 (va_A (xw ad kk V L Z) sz) := by
  refine g_met (q_x_holdFailure2 D ks ad kk V L Z  gf) (by decide) (Nat.le_of_ble_eq_true rfl) ?_
  intro p e s m below meth c A ls H locs hx hb hr hml hown hg hlocks hin hnw hgk hP hK hD hS hA hl
  have hown : s.vm.findClass RX5 = some m.cls := hown
  have hl : lv_has ls 2 [(0, .ref (ad 5)), (1, .ref (Z.fa gf))] := hl
  have hP : va_P D vwCl (xw ad kk V L Z) H := hP
  have hD : va_D A (xw ad kk V L Z) := hD
  have hK : va_K D vwCl (xty kk Z) s := hK
  have agV : agr [] [81, 82] V V := agr.rf
  refine lv_aload_n hx hb dX5_holdFailure_0 rfl (lv_at hl 1 rfl) ?_
  refine lv_aload_n hx hb dX5_holdFailure_1 rfl (lv_at hl 0 rfl) ?_
  refine va_get (D := D) (ci := 5) (v := .int (V 5 11)) (fs := (xfMachine ad V L Z)) (C := RX5) (T := TX5) (N := 15) hx hb hg inX5 hown hK hP 5 xgMachine rfl 11 (by decide) (hg _ w678) (fun _ h9 => h9) rfl dX5_holdFailure_2 ?_
  refine va_putN (D := D) (ci := 4) (v := .int (V 5 11)) (ty := tyX4 14) (fs := (xfFrame V gf)) (C := RX4) (T := TX4) (N := 19) hx hb hg inX4 tyX4 tyX4_ok nmX4 hown hK hP hD hS (336 + gf) (xgFrame hgf) rfl 14 (by decide) (hnw.use 1203 n1203 rfl) (fun _ h9 => h9) rfl (tyX4_ok 14 (by decide)) rfl rfl (Nat.le_of_ble_eq_true rfl) dX5_holdFailure_5 (fun H locs hP hD hS => ?_)
  obtain ⟨V1, hV1⟩ : ∃ z, z = up2 V 81 gf (V 5 11) := ⟨_, rfl⟩
  have ew2 : (xw ad kk V L Z).set (336 + gf) ((Z.fa gf), .inr (4, (xfFrame V gf).set 14 (.int (V 5 11)))) = xw ad kk V1 L Z := by rw [hV1]; exact xpFrame_needs hgf
  have hP : va_P D vwCl (xw ad kk V1 L Z) H := by rw [← ew2]; exact hP
  have hD : va_D A (xw ad kk V1 L Z) := by rw [← ew2]; exact hD
  have hMV1 : rgd bX V1 := hMV.put hV1 (i_full _)
  have agV1 : agr [] [81, 82] V V1 := agV.up hV1 rfl
  refine lv_aload_n hx hb dX5_holdFailure_8 rfl (lv_at hl 1 rfl) ?_
  refine lv_aload_n hx hb dX5_holdFailure_9 rfl (lv_at hl 0 rfl) ?_
  refine va_get (D := D) (ci := 5) (v := .int (V1 5 12)) (fs := (xfMachine ad V1 L Z)) (C := RX5) (T := TX5) (N := 15) hx hb hg inX5 hown hK hP 5 xgMachine rfl 12 (by decide) (hg _ w679) (fun _ h9 => h9) rfl dX5_holdFailure_10 ?_
  refine g_top (v := (V 5 12)) (up2_o hV1 (by decide)) ?_
  refine va_putN (D := D) (ci := 4) (v := .int (V 5 12)) (ty := tyX4 15) (fs := (xfFrame V1 gf)) (C := RX4) (T := TX4) (N := 19) hx hb hg inX4 tyX4 tyX4_ok nmX4 hown hK hP hD hS (336 + gf) (xgFrame hgf) rfl 15 (by decide) (hnw.use 1204 n1204 rfl) (fun _ h9 => h9) rfl (tyX4_ok 15 (by decide)) rfl rfl (Nat.le_of_ble_eq_true rfl) dX5_holdFailure_13 (fun H locs hP hD hS => ?_)
  obtain ⟨V3, hV3⟩ : ∃ z, z = up2 V1 82 gf (V 5 12) := ⟨_, rfl⟩
  have ew4 : (xw ad kk V1 L Z).set (336 + gf) ((Z.fa gf), .inr (4, (xfFrame V1 gf).set 15 (.int (V 5 12)))) = xw ad kk V3 L Z := by rw [hV3]; exact xpFrame_failure hgf
  have hP : va_P D vwCl (xw ad kk V3 L Z) H := by rw [← ew4]; exact hP
  have hD : va_D A (xw ad kk V3 L Z) := by rw [← ew4]; exact hD
  have hMV3 : rgd bX V3 := hMV1.put hV3 (i_full _)
  have agV3 : agr [] [81, 82] V V3 := agV1.up hV3 rfl
  have me5 : ME V V3 gf := (ME.up (ME.up ME.rf hV1 (Or.inl ⟨by decide, by decide, Nat.le_refl _⟩)) hV3 (Or.inl ⟨by decide, by decide, Nat.le_refl _⟩))
  exact W.vret hx hb hr (fun t ht hW => ⟨⟨(V3, L), rfl, ⟨hMV3, agV3, rfl, me5⟩, by rw [ht]; exact hP, va_K.moved hW.alike hK, hD⟩, hS.F ht⟩) hS.2.2 dX5_holdFailure_16
abbrev r_x_beginObject2 : Room := { frames := 2, cells := 0, slots := 0, locals := 46 }
abbrev q_x_beginObject2 (D : va_G) (ks : KS) (ad : Nat → Nat) (kk : Nat → ClassId) (V : Vf) (L : Lf) (Z : XZ) (p0 : Int32) (p1 : Int32) (p2 : Int32) (A : Nat → Prop) : Array Value → State → Outcome → State → Prop := va_Qi (fun (r : Int32) (u : Vf × Lf) => rgd bX u.1 ∧ agr [(3, 13)] [25, 26, 27, 28, 30] V u.1 ∧ u.2 = L ∧ ((-1) ≤ r.toInt ∧ r.toInt ≤ 299) ∧ (SL u.1 Z) ∧ (Imp (0 ≤ r.toInt) (∀ q : Nat, 8 * Int32.toNatClampNeg (V 3 13) ≤ q → q < 8 * Int32.toNatClampNeg (V 3 13) + 8 → (u.1 30 q).toInt = -1)) ∧ (Imp (0 ≤ r.toInt) (∀ q : Nat, ¬ (8 * Int32.toNatClampNeg (V 3 13) ≤ q ∧ q < 8 * Int32.toNatClampNeg (V 3 13) + 8) → u.1 30 q = V 30 q)) ∧ (Imp (0 ≤ r.toInt) (∀ q : Nat, ¬ q = Int32.toNatClampNeg (V 3 13) → u.1 26 q = V 26 q)) ∧ (Imp (0 ≤ r.toInt) (r.toInt = (V 3 13).toInt ∧ (u.1 3 13).toInt = (V 3 13).toInt + 1)) ∧ (Imp (r.toInt = -1) ((u.1 3 13).toInt = (V 3 13).toInt)) ∧ (Imp (0 ≤ r.toInt) (u.1 26 (Int32.toNatClampNeg (V 3 13)) = p0)) ∧ (Imp (r.toInt = -1) (u.1 = V)) ∧ (Imp (0 ≤ r.toInt) (∀ k : Nat, k < 960 → u.1 25 k = V 25 k ∨ ((u.1 25 k).toInt = r.toInt ∧ p0.toInt = ((k % 24 : Nat) : Int))))) (fun u t => gq D A (xw ad kk u.1 u.2 Z) (xty kk Z) t) A
set_option maxHeartbeats 4000000 in
set_option maxRecDepth 100000 in
theorem x_beginObject2 (l : Launch) (D : va_G) (ks : KS) (sz : Nat) (ad : Nat → Nat) (kk : Nat → ClassId) (V : Vf) (L : Lf) (Z : XZ) (p0 : Int32) (p1 : Int32) (p2 : Int32) (hMV : rgd bX V) (rg_p0 : 0 ≤ p0.toInt ∧ p0.toInt ≤ 23) (rg_p1 : 0 ≤ p1.toInt ∧ p1.toInt ≤ 39) (rg_p2 : 0 ≤ p2.toInt ∧ p2.toInt ≤ 1) (sl : SL V Z)  : Met l yX8_beginObject (Cond.code yX8_beginObject cX8_beginObject 5 (some .int) :: GW) r_x_beginObject2 (va_Pc [.ref (ad 3), .int p0, .int p1, .int p2] (gp D ks (xw ad kk V L Z) (xty kk Z) sz)) (q_x_beginObject2 D ks ad kk V L Z p0 p1 p2 (va_A (xw ad kk V L Z) sz)) 0 0 (va_A (xw ad kk V L Z) sz) := by
  refine g_met (q_x_beginObject2 D ks ad kk V L Z p0 p1 p2) (by decide) (Nat.le_of_ble_eq_true rfl) ?_
  intro p e s m below meth c A ls H locs hx hb hr hml hown hg hlocks hin hnw hgk hP hK hD hS hA hl
  have hown : s.vm.findClass RX8 = some m.cls := hown
  have hl : lv_has ls 5 [(0, .ref (ad 3)), (1, .int p0), (2, .int p1), (3, .int p2)] := hl
  have hP : va_P D vwCl (xw ad kk V L Z) H := hP
  have hD : va_D A (xw ad kk V L Z) := hD
  have hK : va_K D vwCl (xty kk Z) s := hK
  have agV : agr [(3, 13)] [25, 26, 27, 28, 30] V V := agr.rf
  refine lv_aload_n hx hb dX8_beginObject_0 rfl (lv_at hl 0 rfl) ?_
  refine va_get (D := D) (ci := 8) (v := .int (V 3 13)) (fs := (xfStock ad V L Z)) (C := RX8) (T := TX8) (N := 16) hx hb hg inX8 hown hK hP 3 xgStock rfl 13 (by decide) (hg _ w391) (fun _ h9 => h9) rfl dX8_beginObject_1 ?_
  have r1 : 0 ≤ ((V 3 13)).toInt ∧ ((V 3 13)).toInt ≤ 300 := hMV 3 13
  refine lv_sipush (v := 300) hx hb dX8_beginObject_4 (by decide) ?_
  refine lv_icmp_lt (tgt := 12) hx hb dX8_beginObject_7 (by decide) (fun c2 => ?_) (fun c2 => ?_)
  · skip
    have f3 : ((V 3 13)).toInt < 300 := b_lt rfl (by decide) c2
    refine lv_aload_n hx hb dX8_beginObject_12 rfl (lv_at hl 0 rfl) ?_
    refine lv_dup hx hb dX8_beginObject_13 rfl ?_
    refine va_get (D := D) (ci := 8) (v := .int (V 3 13)) (fs := (xfStock ad V L Z)) (C := RX8) (T := TX8) (N := 16) hx hb hg inX8 hown hK hP 3 xgStock rfl 13 (by decide) (hg _ w391) (fun _ h9 => h9) rfl dX8_beginObject_14 ?_
    refine lv_dup_x1 hx hb dX8_beginObject_17 rfl rfl ?_
    refine lv_iconst (v := 1) hx hb dX8_beginObject_18 (by decide) ?_
    refine lv_iadd hx hb dX8_beginObject_19 ?_
    refine lv_topi (fun z4 ez4 => ?_)
    have hz4 : z4.toInt = ((V 3 13)).toInt + 1 := i_add ez4 rfl (by decide) (by (first | exact om_e89c2ae064a9 r1.1 f3 | omega))
    refine va_put (D := D) (ci := 8) (v := .int z4) (ty := tyX8 13) (fs := (xfStock ad V L Z)) (C := RX8) (T := TX8) (N := 16) hx hb hg inX8 tyX8 tyX8_ok nmX8 hown hK hP hD hS 3 xgStock rfl 13 (by decide) (hg _ w391) (fun _ h9 => h9) rfl (tyX8_ok 13 (by decide)) rfl rfl (Nat.le_of_ble_eq_true rfl) dX8_beginObject_20 (fun H locs hP hD hS => ?_)
    obtain ⟨V5, hV5⟩ : ∃ z, z = up2 V 3 13 z4 := ⟨_, rfl⟩
    have ew6 : (xw ad kk V L Z).set 3 ((ad 3), .inr (8, (xfStock ad V L Z).set 13 (.int z4))) = xw ad kk V5 L Z := by rw [hV5]; exact xw_ss (by decide) rfl (xb_si (by decide))
    have hP : va_P D vwCl (xw ad kk V5 L Z) H := by rw [← ew6]; exact hP
    have hD : va_D A (xw ad kk V5 L Z) := by rw [← ew6]; exact hD
    have hMV5 : rgd bX V5 := hMV.put hV5 (show 0 ≤ z4.toInt ∧ z4.toInt ≤ 300 from by first | exact om_59cf3ec53513 r1.1 f3 hz4 | first | omega | ((try (have i_sl := Imp.go sl (by omega))); omega))
    have agV5 : agr [(3, 13)] [25, 26, 27, 28, 30] V V5 := agV.up hV5 rfl
    refine lv_istore (lv' := [(4, .int (V 3 13)), (0, .ref (ad 3)), (1, .int p0), (2, .int p1), (3, .int p2)]) hx hb dX8_beginObject_23 hl (by decide) rfl (fun ls hl => ?_)
    refine lv_aload_n hx hb dX8_beginObject_25 rfl (lv_at hl 1 rfl) ?_
    refine va_get (D := D) (ci := 8) (v := .ref (ad 23)) (fs := (xfStock ad V5 L Z)) (C := RX8) (T := TX8) (N := 16) hx hb hg inX8 hown hK hP 3 xgStock rfl 5 (by decide) (hg _ w379) (fun _ h9 => h9) rfl dX8_beginObject_26 ?_
    refine lv_iload hx hb dX8_beginObject_29 (lv_at hl 0 rfl) ?_
    refine lv_iload_n hx hb dX8_beginObject_31 rfl (lv_at hl 2 rfl) ?_
    refine va_iast (D := D) (i := (V 3 13)) (x := p0) hx hb hK hP hD hS 23 16 rfl rfl (i_in (a := ((V 3 13)).toInt) rfl (by first | exact om_5b0e5b7d98b0 r1.1 f3 | first | omega | ((try (have i_sl := Imp.go sl (by omega))); omega))) dX8_beginObject_32 (fun H locs hP hD hS => ?_)
    obtain ⟨V7, hV7⟩ : ∃ z, z = up2 V5 26 (Int32.toNatClampNeg (V 3 13)) p0 := ⟨_, rfl⟩
    have ew8 : (xw ad kk V5 L Z).set 23 ((ad 23), .inl ((kk 23), 300, .inl (upd (V5 26) (Int32.toNatClampNeg (V 3 13)) p0))) = xw ad kk V7 L Z := by rw [hV7]; exact xw_ss (by decide) rfl (xb_si (by decide))
    have hP : va_P D vwCl (xw ad kk V7 L Z) H := by rw [← ew8]; exact hP
    have hD : va_D A (xw ad kk V7 L Z) := by rw [← ew8]; exact hD
    have hMV7 : rgd bX V7 := hMV5.put hV7 (show 0 ≤ p0.toInt ∧ p0.toInt ≤ 23 from by first | exact om_d3435e1acec6 rg_p0.1 rg_p0.2 | first | omega | ((try (have i_sl := Imp.go sl (by omega))); omega))
    have agV7 : agr [(3, 13)] [25, 26, 27, 28, 30] V V7 := agV5.up hV7 rfl
    refine lv_aload_n hx hb dX8_beginObject_33 rfl (lv_at hl 1 rfl) ?_
    refine va_get (D := D) (ci := 8) (v := .ref (ad 24)) (fs := (xfStock ad V7 L Z)) (C := RX8) (T := TX8) (N := 16) hx hb hg inX8 hown hK hP 3 xgStock rfl 6 (by decide) (hg _ w381) (fun _ h9 => h9) rfl dX8_beginObject_34 ?_
    refine lv_iload hx hb dX8_beginObject_37 (lv_at hl 0 rfl) ?_
    refine lv_iload_n hx hb dX8_beginObject_39 rfl (lv_at hl 3 rfl) ?_
    refine va_iast (D := D) (i := (V 3 13)) (x := p1) hx hb hK hP hD hS 24 17 rfl rfl (i_in (a := ((V 3 13)).toInt) rfl (by first | exact om_5b0e5b7d98b0 r1.1 f3 | first | omega | ((try (have i_sl := Imp.go sl (by omega))); omega))) dX8_beginObject_40 (fun H locs hP hD hS => ?_)
    obtain ⟨V9, hV9⟩ : ∃ z, z = up2 V7 27 (Int32.toNatClampNeg (V 3 13)) p1 := ⟨_, rfl⟩
    have ew10 : (xw ad kk V7 L Z).set 24 ((ad 24), .inl ((kk 24), 300, .inl (upd (V7 27) (Int32.toNatClampNeg (V 3 13)) p1))) = xw ad kk V9 L Z := by rw [hV9]; exact xw_ss (by decide) rfl (xb_si (by decide))
    have hP : va_P D vwCl (xw ad kk V9 L Z) H := by rw [← ew10]; exact hP
    have hD : va_D A (xw ad kk V9 L Z) := by rw [← ew10]; exact hD
    have hMV9 : rgd bX V9 := hMV7.put hV9 (show 0 ≤ p1.toInt ∧ p1.toInt ≤ 39 from by first | exact om_13ba01c174fe rg_p1.1 rg_p1.2 | first | omega | ((try (have i_sl := Imp.go sl (by omega))); omega))
    have agV9 : agr [(3, 13)] [25, 26, 27, 28, 30] V V9 := agV7.up hV9 rfl
    refine lv_aload_n hx hb dX8_beginObject_41 rfl (lv_at hl 1 rfl) ?_
    refine va_get (D := D) (ci := 8) (v := .ref (ad 25)) (fs := (xfStock ad V9 L Z)) (C := RX8) (T := TX8) (N := 16) hx hb hg inX8 hown hK hP 3 xgStock rfl 7 (by decide) (hg _ w384) (fun _ h9 => h9) rfl dX8_beginObject_42 ?_
    refine lv_iload hx hb dX8_beginObject_45 (lv_at hl 0 rfl) ?_
    refine lv_iconst (v := 0) hx hb dX8_beginObject_47 (by decide) ?_
    refine va_iast (D := D) (i := (V 3 13)) (x := 0) hx hb hK hP hD hS 25 18 rfl rfl (i_in (a := ((V 3 13)).toInt) rfl (by first | exact om_5b0e5b7d98b0 r1.1 f3 | first | omega | ((try (have i_sl := Imp.go sl (by omega))); omega))) dX8_beginObject_48 (fun H locs hP hD hS => ?_)
    obtain ⟨V11, hV11⟩ : ∃ z, z = up2 V9 28 (Int32.toNatClampNeg (V 3 13)) 0 := ⟨_, rfl⟩
    have ew12 : (xw ad kk V9 L Z).set 25 ((ad 25), .inl ((kk 25), 300, .inl (upd (V9 28) (Int32.toNatClampNeg (V 3 13)) 0))) = xw ad kk V11 L Z := by rw [hV11]; exact xw_ss (by decide) rfl (xb_si (by decide))
    have hP : va_P D vwCl (xw ad kk V11 L Z) H := by rw [← ew12]; exact hP
    have hD : va_D A (xw ad kk V11 L Z) := by rw [← ew12]; exact hD
    have hMV11 : rgd bX V11 := hMV9.put hV11 (i_full _)
    have agV11 : agr [(3, 13)] [25, 26, 27, 28, 30] V V11 := agV9.up hV11 rfl
    refine lv_aload_n hx hb dX8_beginObject_49 rfl (lv_at hl 1 rfl) ?_
    refine va_get (D := D) (ci := 8) (v := .ref (ad 27)) (fs := (xfStock ad V11 L Z)) (C := RX8) (T := TX8) (N := 16) hx hb hg inX8 hown hK hP 3 xgStock rfl 9 (by decide) (hg _ w387) (fun _ h9 => h9) rfl dX8_beginObject_50 ?_
    refine lv_iload hx hb dX8_beginObject_53 (lv_at hl 0 rfl) ?_
    refine lv_bipush (v := 8) hx hb dX8_beginObject_55 (by decide) ?_
    refine lv_imul hx hb dX8_beginObject_57 ?_
    refine lv_topi (fun z13 ez13 => ?_)
    have hz13 : z13.toInt = ((V 3 13)).toInt * 8 := i_mul ez13 rfl (by decide) (by (first | exact om_fb983384b73c r1.1 f3 | omega))
    refine lv_iload hx hb dX8_beginObject_58 (lv_at hl 0 rfl) ?_
    refine lv_bipush (v := 8) hx hb dX8_beginObject_60 (by decide) ?_
    refine lv_imul hx hb dX8_beginObject_62 ?_
    refine lv_topi (fun z14 ez14 => ?_)
    have hz14 : z14.toInt = ((V 3 13)).toInt * 8 := i_mul ez14 rfl (by decide) (by (first | exact om_fb983384b73c r1.1 f3 | omega))
    refine lv_bipush (v := 8) hx hb dX8_beginObject_63 (by decide) ?_
    refine lv_iadd hx hb dX8_beginObject_65 ?_
    refine lv_topi (fun z15 ez15 => ?_)
    have hz15 : z15.toInt = z14.toInt + 8 := i_add ez15 rfl (by decide) (by (first | exact om_438d47d7348e r1.1 f3 hz14 | omega))
    refine lv_iconst (v := (-1)) hx hb dX8_beginObject_66 (by decide) ?_
    have r16 : Int32.toInt (-1) = (-1) := by decide
    refine gA_void (gA_runS (As := [.ref (ad 27), .int z13, .int z15, .int (-1)]) (rest := []) hx hb hml hown hg hP hD hK hS hA hnw hgk (x_fillChains l D ks H.size ad kk V11 L Z z13 z15 (-1) hMV11 (by first | exact om_cf3ce3a8143f r1.1 f3 hz13 | first | omega | ((try (have i_sl := Imp.go sl (by omega))); omega)) (by first | exact om_f84b3797aa63 r1.1 f3 hz14 hz15 | first | omega | ((try (have i_sl := Imp.go sl (by omega))); omega)) (by decide) (show z13.toInt ≤ z15.toInt from by first | exact om_8d4dcf0abdd0 hz13 hz14 hz15 | first | omega | ((try (have i_sl := Imp.go sl (by omega))); omega))) w1290 w1291 w165 w1292 hdS_yJ7_fill_fda19 ⟨Nat.le_of_ble_eq_true rfl, Nat.le_of_ble_eq_true rfl⟩ rfl hl.1 rfl (Nat.le_of_ble_eq_true rfl) dX8_beginObject_67 ⟨Nat.le_of_ble_eq_true rfl, Nat.le_of_ble_eq_true rfl⟩) hP hD hK hS hA (fun u18 H locs w19 hP hD hK hS => ?_)
    obtain ⟨V22, L23⟩ := u18
    obtain ⟨hMV22, ajV22, axL23, t20, t21⟩ := w19
    have axL23 : L = L23 := Eq.symm axL23
    subst axL23
    have hP : va_P D vwCl (xw ad kk V22 L Z) H := hP
    have hD : va_D A (xw ad kk V22 L Z) := hD
    have hMV22 : rgd bX V22 := hMV22
    have ajV22 : agr [] [30] V11 V22 := ajV22
    have agV22 : agr [(3, 13)] [25, 26, 27, 28, 30] V V22 := agV11.tr ajV22 (by decide) (by decide)
    have t20 : (∀ q : Nat, z13.toInt ≤ (q : Int) → (q : Int) < z15.toInt → V22 30 (q) = (-1)) := t20
    have t21 : (∀ q : Nat, ¬ (Int32.toNatClampNeg z13 ≤ q ∧ q < Int32.toNatClampNeg z15) → V22 30 q = V11 30 q) := t21
    refine lv_iload_n hx hb dX8_beginObject_70 rfl (lv_at hl 4 rfl) ?_
    refine lv_if_eq (tgt := 87) hx hb dX8_beginObject_71 (by decide) (fun c24 => ?_) (fun c24 => ?_)
    · skip
      have f25 : p2.toInt = 0 := b_eq rfl (by decide) c24
      refine lv_iload hx hb dX8_beginObject_87 (lv_at hl 0 rfl) ?_
      have pq26 : (V22 3 13).toInt = z4.toInt := congrArg Int32.toInt ((ajV22 3 13 rfl).trans ((up2_o hV11 (by decide)).trans ((up2_o hV9 (by decide)).trans ((up2_o hV7 (by decide)).trans (up2_s hV5)))))
      have ko9 := i_clamp (x := V 3 13) rfl (by (first | exact om_eafa9039069c r1.1 | omega))
      have k81 := i_clamp (x := z13) rfl (by (first | exact om_e2aed66a0329 r1.1 hz13 | omega))
      have k82 := i_clamp (x := z15) rfl (by (first | exact om_75dff009eb56 r1.1 hz14 hz15 | omega))
      have bn : ∀ q : Nat, 8 * Int32.toNatClampNeg (V 3 13) ≤ q → q < 8 * Int32.toNatClampNeg (V 3 13) + 8 → (V22 30 q).toInt = -1 := fun q h1 h2 => by rw [(show agr [] [] V22 V22 from agr.rf) 30 _ rfl, t20 q (by omega) (by omega)]; decide
      have be : ∀ q : Nat, ¬ (8 * Int32.toNatClampNeg (V 3 13) ≤ q ∧ q < 8 * Int32.toNatClampNeg (V 3 13) + 8) → V22 30 q = V 30 q := fun q hq => (((show agr [] [] V22 V22 from agr.rf) 30 _ rfl).trans (t21 q (by omega))).trans ((show agr [(3, 13)] [26, 27, 28] V V11 from (agr.up (agr.up (agr.up (agr.up agr.rf hV5 rfl) hV7 rfl) hV9 rfl) hV11 rfl)) 30 _ rfl)
      have rp27 : SL V22 Z := SL.new (o := Int32.toNatClampNeg (V 3 13)) sl agV22 rfl (fun _ => rfl) (by omega) (by omega) bn be (hMV 3 15).1
      have rp28 : Imp (0 ≤ ((V 3 13)).toInt) (∀ q : Nat, ¬ q = Int32.toNatClampNeg (V 3 13) → V22 26 q = V 26 q) := Imp.mk (fun _ q hq => (((((ajV22 26 _ rfl).trans (up2_o hV11 (by decide))).trans (up2_o hV9 (by decide))).trans (up2_k hV7 hq)).trans (up2_o hV5 (by decide))))
      exact W.iret (v := (V 3 13)) hx hb hr (fun t ht hW => ⟨⟨(V 3 13), (V22, L), rfl, ⟨hMV22, agV22, rfl, (show (-1) ≤ ((V 3 13)).toInt ∧ ((V 3 13)).toInt ≤ 299 from by first | exact om_89495db99b5a r1.1 f3 | first | omega | ((try (have i_sl := Imp.go sl (by omega))); omega)), rp27, (Imp.mk (fun _ => bn)), (Imp.mk (fun _ => be)), rp28, (Imp.mk (fun hp => have hp : 0 ≤ ((V 3 13)).toInt := hp; (show ((V 3 13)).toInt = (V 3 13).toInt ∧ (V22 3 13).toInt = (V 3 13).toInt + 1 from by first | exact om_973282c118df hz4 pq26 | first | omega | ((try (have i_sl := Imp.go sl (by omega))); omega)))), (Imp.mk (fun hp => have hp : ((V 3 13)).toInt = -1 := hp; (show (V22 3 13).toInt = (V 3 13).toInt from by first | omega | ((try (have i_sl := Imp.go sl (by omega))); omega)))), (Imp.mk (fun _ => ((ajV22 26 (Int32.toNatClampNeg (V 3 13)) rfl).trans ((up2_o hV11 (by decide)).trans ((up2_o hV9 (by decide)).trans (up2_s hV7)))))), (Imp.mk (fun hp => absurd hp (by omega))), (Imp.mk (fun _ k hk => Or.inl ((ajV22 25 _ rfl).trans ((up2_o hV11 (by decide)).trans ((up2_o hV9 (by decide)).trans ((up2_o hV7 (by decide)).trans (up2_o hV5 (by decide))))))))⟩, by rw [ht]; exact hP, va_K.moved hW.alike hK, hD⟩, hS.F ht⟩) hS.2.2 dX8_beginObject_89
    · skip
      have f29 : p2.toInt ≠ 0 := b_neq rfl (by decide) c24
      refine lv_aload_n hx hb dX8_beginObject_74 rfl (lv_at hl 1 rfl) ?_
      refine va_get (D := D) (ci := 8) (v := .ref (ad 22)) (fs := (xfStock ad V22 L Z)) (C := RX8) (T := TX8) (N := 16) hx hb hg inX8 hown hK hP 3 xgStock rfl 4 (by decide) (hg _ w378) (fun _ h9 => h9) rfl dX8_beginObject_75 ?_
      refine lv_iload_n hx hb dX8_beginObject_78 rfl (lv_at hl 3 rfl) ?_
      refine lv_bipush (v := 24) hx hb dX8_beginObject_79 (by decide) ?_
      refine lv_imul hx hb dX8_beginObject_81 ?_
      refine lv_topi (fun z30 ez30 => ?_)
      have hz30 : z30.toInt = p1.toInt * 24 := i_mul ez30 rfl (by decide) (by (first | exact om_1c6a8f74b4b6 rg_p1.1 rg_p1.2 | omega))
      refine lv_iload_n hx hb dX8_beginObject_82 rfl (lv_at hl 2 rfl) ?_
      refine lv_iadd hx hb dX8_beginObject_83 ?_
      refine lv_topi (fun z31 ez31 => ?_)
      have hz31 : z31.toInt = z30.toInt + p0.toInt := i_add ez31 rfl rfl (by (first | exact om_7ffda8569b0d rg_p0.1 rg_p0.2 rg_p1.1 rg_p1.2 hz30 | omega))
      refine lv_iload hx hb dX8_beginObject_84 (lv_at hl 0 rfl) ?_
      refine va_iast (D := D) (i := z31) (x := (V 3 13)) hx hb hK hP hD hS 22 15 rfl rfl (i_in (a := z31.toInt) rfl (by first | exact om_a05674d1bef4 rg_p0.1 rg_p0.2 rg_p1.1 rg_p1.2 hz30 hz31 | first | omega | ((try (have i_sl := Imp.go sl (by omega))); omega))) dX8_beginObject_86 (fun H locs hP hD hS => ?_)
      obtain ⟨V32, hV32⟩ : ∃ z, z = up2 V22 25 (Int32.toNatClampNeg z31) (V 3 13) := ⟨_, rfl⟩
      have ew33 : (xw ad kk V22 L Z).set 22 ((ad 22), .inl ((kk 22), 960, .inl (upd (V22 25) (Int32.toNatClampNeg z31) (V 3 13)))) = xw ad kk V32 L Z := by rw [hV32]; exact xw_ss (by decide) rfl (xb_si (by decide))
      have hP : va_P D vwCl (xw ad kk V32 L Z) H := by rw [← ew33]; exact hP
      have hD : va_D A (xw ad kk V32 L Z) := by rw [← ew33]; exact hD
      have hMV32 : rgd bX V32 := hMV22.put hV32 (show (-1) ≤ ((V 3 13)).toInt ∧ ((V 3 13)).toInt ≤ 299 from by first | exact om_89495db99b5a r1.1 f3 | first | omega | ((try (have i_sl := Imp.go sl (by omega))); omega))
      have agV32 : agr [(3, 13)] [25, 26, 27, 28, 30] V V32 := agV22.up hV32 rfl
      refine lv_iload hx hb dX8_beginObject_87 (lv_at hl 0 rfl) ?_
      have pq34 : (V32 3 13).toInt = z4.toInt := congrArg Int32.toInt ((up2_o hV32 (by decide)).trans ((ajV22 3 13 rfl).trans ((up2_o hV11 (by decide)).trans ((up2_o hV9 (by decide)).trans ((up2_o hV7 (by decide)).trans (up2_s hV5))))))
      have ko9 := i_clamp (x := V 3 13) rfl (by (first | exact om_eafa9039069c r1.1 | omega))
      have k81 := i_clamp (x := z13) rfl (by (first | exact om_e2aed66a0329 r1.1 hz13 | omega))
      have k82 := i_clamp (x := z15) rfl (by (first | exact om_75dff009eb56 r1.1 hz14 hz15 | omega))
      have bn : ∀ q : Nat, 8 * Int32.toNatClampNeg (V 3 13) ≤ q → q < 8 * Int32.toNatClampNeg (V 3 13) + 8 → (V32 30 q).toInt = -1 := fun q h1 h2 => by rw [(show agr [] [25] V22 V32 from (agr.up agr.rf hV32 rfl)) 30 _ rfl, t20 q (by omega) (by omega)]; decide
      have be : ∀ q : Nat, ¬ (8 * Int32.toNatClampNeg (V 3 13) ≤ q ∧ q < 8 * Int32.toNatClampNeg (V 3 13) + 8) → V32 30 q = V 30 q := fun q hq => (((show agr [] [25] V22 V32 from (agr.up agr.rf hV32 rfl)) 30 _ rfl).trans (t21 q (by omega))).trans ((show agr [(3, 13)] [26, 27, 28] V V11 from (agr.up (agr.up (agr.up (agr.up agr.rf hV5 rfl) hV7 rfl) hV9 rfl) hV11 rfl)) 30 _ rfl)
      have rp35 : SL V32 Z := SL.new (o := Int32.toNatClampNeg (V 3 13)) sl agV32 rfl (fun _ => rfl) (by omega) (by omega) bn be (hMV 3 15).1
      have rp36 : Imp (0 ≤ ((V 3 13)).toInt) (∀ q : Nat, ¬ q = Int32.toNatClampNeg (V 3 13) → V32 26 q = V 26 q) := Imp.mk (fun _ q hq => ((((((up2_o hV32 (by decide)).trans (ajV22 26 _ rfl)).trans (up2_o hV11 (by decide))).trans (up2_o hV9 (by decide))).trans (up2_k hV7 hq)).trans (up2_o hV5 (by decide))))
      have kb1 := i_clamp (x := z31) rfl (by (first | exact om_b4d5075f46c7 rg_p0.1 rg_p1.1 hz30 hz31 | omega))
      have kb2 := i_clamp (x := p0) rfl (by (first | exact om_eafa9039069c rg_p0.1 | omega))
      have kb3 := i_clamp (x := p1) rfl (by (first | exact om_eafa9039069c rg_p1.1 | omega))
      have rp37 : Imp (0 ≤ ((V 3 13)).toInt) (∀ k : Nat, k < 960 → V32 25 k = V 25 k ∨ ((V32 25 k).toInt = ((V 3 13)).toInt ∧ p0.toInt = ((k % 24 : Nat) : Int))) := Imp.mk (fun _ k hk => (Nat.decEq k (Int32.toNatClampNeg z31)).byCases (fun q => Or.inr ⟨by rw [q, (up2_s hV32)], by omega⟩) (fun q => Or.inl ((up2_k hV32 q).trans ((ajV22 25 _ rfl).trans ((up2_o hV11 (by decide)).trans ((up2_o hV9 (by decide)).trans ((up2_o hV7 (by decide)).trans (up2_o hV5 (by decide)))))))))
      exact W.iret (v := (V 3 13)) hx hb hr (fun t ht hW => ⟨⟨(V 3 13), (V32, L), rfl, ⟨hMV32, agV32, rfl, (show (-1) ≤ ((V 3 13)).toInt ∧ ((V 3 13)).toInt ≤ 299 from by first | exact om_89495db99b5a r1.1 f3 | first | omega | ((try (have i_sl := Imp.go sl (by omega))); omega)), rp35, (Imp.mk (fun _ => bn)), (Imp.mk (fun _ => be)), rp36, (Imp.mk (fun hp => have hp : 0 ≤ ((V 3 13)).toInt := hp; (show ((V 3 13)).toInt = (V 3 13).toInt ∧ (V32 3 13).toInt = (V 3 13).toInt + 1 from by first | exact om_973282c118df hz4 pq34 | first | omega | ((try (have i_sl := Imp.go sl (by omega))); omega)))), (Imp.mk (fun hp => have hp : ((V 3 13)).toInt = -1 := hp; (show (V32 3 13).toInt = (V 3 13).toInt from by first | omega | ((try (have i_sl := Imp.go sl (by omega))); omega)))), (Imp.mk (fun _ => ((up2_o hV32 (by decide)).trans ((ajV22 26 (Int32.toNatClampNeg (V 3 13)) rfl).trans ((up2_o hV11 (by decide)).trans ((up2_o hV9 (by decide)).trans (up2_s hV7))))))), (Imp.mk (fun hp => absurd hp (by omega))), rp37⟩, by rw [ht]; exact hP, va_K.moved hW.alike hK, hD⟩, hS.F ht⟩) hS.2.2 dX8_beginObject_89
  · skip
    have f38 : 300 ≤ ((V 3 13)).toInt := b_nlt rfl (by decide) c2
    refine lv_iconst (v := (-1)) hx hb dX8_beginObject_10 (by decide) ?_
    exact W.iret (v := (-1)) hx hb hr (fun t ht hW => ⟨⟨(-1), (V, L), rfl, ⟨hMV, agV, rfl, (by decide), sl, (Imp.mk (fun hp => absurd hp (by decide))), (Imp.mk (fun hp => absurd hp (by decide))), (Imp.mk (fun hp => absurd hp (by decide))), (Imp.mk (fun hp => absurd hp (by decide))), (Imp.mk (fun _ => (show (V 3 13).toInt = (V 3 13).toInt from by first | exact om_4c2c879c4424 | first | omega | ((try (have i_sl := Imp.go sl (by omega))); omega)))), (Imp.mk (fun hp => absurd hp (by decide))), (Imp.mk (fun _ => rfl)), (Imp.mk (fun hp => absurd hp (by decide)))⟩, by rw [ht]; exact hP, va_K.moved hW.alike hK, hD⟩, hS.F ht⟩) hS.2.2 dX8_beginObject_11
abbrev r_x_dropObject2 : Room := { frames := 0, cells := 0, slots := 0, locals := 0 }
abbrev q_x_dropObject2 (D : va_G) (ks : KS) (ad : Nat → Nat) (kk : Nat → ClassId) (V : Vf) (L : Lf) (Z : XZ) (p0 : Int32) (A : Nat → Prop) : Array Value → State → Outcome → State → Prop := va_Qv (fun (u : Vf × Lf) => rgd bX u.1 ∧ agr [] [25, 28] V u.1 ∧ u.2 = L ∧ (∀ n, ME V u.1 n)) (fun u t => gq D A (xw ad kk u.1 u.2 Z) (xty kk Z) t) A
set_option maxHeartbeats 4000000 in
set_option maxRecDepth 100000 in
theorem x_dropObject2 (l : Launch) (D : va_G) (ks : KS) (sz : Nat) (ad : Nat → Nat) (kk : Nat → ClassId) (V : Vf) (L : Lf) (Z : XZ) (p0 : Int32) (hMV : rgd bX V) (rg_p0 : 0 ≤ p0.toInt ∧ p0.toInt ≤ 299)  : Met l yX8_dropObject (Cond.code yX8_dropObject cX8_dropObject 3 none :: GW) r_x_dropObject2 (va_Pc [.ref (ad 3), .int p0] (gp D ks (xw ad kk V L Z) (xty kk Z) sz)) (q_x_dropObject2 D ks ad kk V L Z p0 (va_A (xw ad kk V L Z) sz)) 0 0 (va_A (xw ad kk V L Z) sz) := by
  refine g_met (q_x_dropObject2 D ks ad kk V L Z p0) (by decide) (Nat.le_of_ble_eq_true rfl) ?_
  intro p e s m below meth c A ls H locs hx hb hr hml hown hg hlocks hin hnw hgk hP hK hD hS hA hl
  have hown : s.vm.findClass RX8 = some m.cls := hown
  have hl : lv_has ls 3 [(0, .ref (ad 3)), (1, .int p0)] := hl
  have hP : va_P D vwCl (xw ad kk V L Z) H := hP
  have hD : va_D A (xw ad kk V L Z) := hD
  have hK : va_K D vwCl (xty kk Z) s := hK
  have agV : agr [] [25, 28] V V := agr.rf
  refine lv_aload_n hx hb dX8_dropObject_0 rfl (lv_at hl 0 rfl) ?_
  refine va_get (D := D) (ci := 8) (v := .ref (ad 24)) (fs := (xfStock ad V L Z)) (C := RX8) (T := TX8) (N := 16) hx hb hg inX8 hown hK hP 3 xgStock rfl 6 (by decide) (hg _ w381) (fun _ h9 => h9) rfl dX8_dropObject_1 ?_
  refine lv_iload_n hx hb dX8_dropObject_4 rfl (lv_at hl 1 rfl) ?_
  refine va_iald (D := D) (i := p0) hx hb hK hP 24 17 rfl rfl (i_in (a := p0.toInt) rfl (by (first | exact om_375eda9ff8f1 rg_p0.1 rg_p0.2 | omega))) dX8_dropObject_5 ?_
  have r1 : 0 ≤ ((V 27 (Int32.toNatClampNeg p0))).toInt ∧ ((V 27 (Int32.toNatClampNeg p0))).toInt ≤ 39 := hMV 27 (Int32.toNatClampNeg p0)
  refine lv_bipush (v := 24) hx hb dX8_dropObject_6 (by decide) ?_
  refine lv_imul hx hb dX8_dropObject_8 ?_
  refine lv_topi (fun z2 ez2 => ?_)
  have hz2 : z2.toInt = ((V 27 (Int32.toNatClampNeg p0))).toInt * 24 := i_mul ez2 rfl (by decide) (by (first | exact om_1c6a8f74b4b6 r1.1 r1.2 | omega))
  refine lv_aload_n hx hb dX8_dropObject_9 rfl (lv_at hl 0 rfl) ?_
  refine va_get (D := D) (ci := 8) (v := .ref (ad 23)) (fs := (xfStock ad V L Z)) (C := RX8) (T := TX8) (N := 16) hx hb hg inX8 hown hK hP 3 xgStock rfl 5 (by decide) (hg _ w379) (fun _ h9 => h9) rfl dX8_dropObject_10 ?_
  refine lv_iload_n hx hb dX8_dropObject_13 rfl (lv_at hl 1 rfl) ?_
  refine va_iald (D := D) (i := p0) hx hb hK hP 23 16 rfl rfl (i_in (a := p0.toInt) rfl (by (first | exact om_375eda9ff8f1 rg_p0.1 rg_p0.2 | omega))) dX8_dropObject_14 ?_
  have r3 : 0 ≤ ((V 26 (Int32.toNatClampNeg p0))).toInt ∧ ((V 26 (Int32.toNatClampNeg p0))).toInt ≤ 23 := hMV 26 (Int32.toNatClampNeg p0)
  refine lv_iadd hx hb dX8_dropObject_15 ?_
  refine lv_topi (fun z4 ez4 => ?_)
  have hz4 : z4.toInt = z2.toInt + ((V 26 (Int32.toNatClampNeg p0))).toInt := i_add ez4 rfl rfl (by (first | exact om_9248ba120274 r1.1 r1.2 hz2 r3.1 r3.2 | omega))
  refine lv_istore_n (lv' := [(2, .int z4), (0, .ref (ad 3)), (1, .int p0)]) hx hb dX8_dropObject_16 rfl hl (by decide) rfl (fun ls hl => ?_)
  refine lv_aload_n hx hb dX8_dropObject_17 rfl (lv_at hl 1 rfl) ?_
  refine va_get (D := D) (ci := 8) (v := .ref (ad 25)) (fs := (xfStock ad V L Z)) (C := RX8) (T := TX8) (N := 16) hx hb hg inX8 hown hK hP 3 xgStock rfl 7 (by decide) (hg _ w384) (fun _ h9 => h9) rfl dX8_dropObject_18 ?_
  refine lv_iload_n hx hb dX8_dropObject_21 rfl (lv_at hl 2 rfl) ?_
  refine lv_iconst (v := 2) hx hb dX8_dropObject_22 (by decide) ?_
  refine va_iast (D := D) (i := p0) (x := 2) hx hb hK hP hD hS 25 18 rfl rfl (i_in (a := p0.toInt) rfl (by (first | exact om_375eda9ff8f1 rg_p0.1 rg_p0.2 | omega))) dX8_dropObject_23 (fun H locs hP hD hS => ?_)
  obtain ⟨V5, hV5⟩ : ∃ z, z = up2 V 28 (Int32.toNatClampNeg p0) 2 := ⟨_, rfl⟩
  have ew6 : (xw ad kk V L Z).set 25 ((ad 25), .inl ((kk 25), 300, .inl (upd (V 28) (Int32.toNatClampNeg p0) 2))) = xw ad kk V5 L Z := by rw [hV5]; exact xw_ss (by decide) rfl (xb_si (by decide))
  have hP : va_P D vwCl (xw ad kk V5 L Z) H := by rw [← ew6]; exact hP
  have hD : va_D A (xw ad kk V5 L Z) := by rw [← ew6]; exact hD
  have hMV5 : rgd bX V5 := hMV.put hV5 (i_full _)
  have agV5 : agr [] [25, 28] V V5 := agV.up hV5 rfl
  refine lv_aload_n hx hb dX8_dropObject_24 rfl (lv_at hl 1 rfl) ?_
  refine va_get (D := D) (ci := 8) (v := .ref (ad 22)) (fs := (xfStock ad V5 L Z)) (C := RX8) (T := TX8) (N := 16) hx hb hg inX8 hown hK hP 3 xgStock rfl 4 (by decide) (hg _ w378) (fun _ h9 => h9) rfl dX8_dropObject_25 ?_
  refine lv_iload_n hx hb dX8_dropObject_28 rfl (lv_at hl 0 rfl) ?_
  refine va_iald (D := D) (i := z4) hx hb hK hP 22 15 rfl rfl (i_in (a := z4.toInt) rfl (by (first | exact om_05b08aa47414 r1.1 r1.2 hz2 r3.1 r3.2 hz4 | omega))) dX8_dropObject_29 ?_
  refine g_top (v := (V 25 (Int32.toNatClampNeg z4))) (up2_o hV5 (by decide)) ?_
  have r7 : (-1) ≤ ((V 25 (Int32.toNatClampNeg z4))).toInt ∧ ((V 25 (Int32.toNatClampNeg z4))).toInt ≤ 299 := hMV 25 (Int32.toNatClampNeg z4)
  refine lv_iload_n hx hb dX8_dropObject_30 rfl (lv_at hl 2 rfl) ?_
  refine lv_icmp_ne (tgt := 41) hx hb dX8_dropObject_31 (by decide) (fun c8 => ?_) (fun c8 => ?_)
  · skip
    have f9 : ((V 25 (Int32.toNatClampNeg z4))).toInt ≠ p0.toInt := b_neq rfl rfl c8
    have m1 : Int32.toInt (-1) = -1 := by decide
    have me10 : ∀ n, ME V V5 n := fun n => (ME.up ME.rf hV5 (Or.inr (by omega)))
    exact W.vret hx hb hr (fun t ht hW => ⟨⟨(V5, L), rfl, ⟨hMV5, agV5, rfl, me10⟩, by rw [ht]; exact hP, va_K.moved hW.alike hK, hD⟩, hS.F ht⟩) hS.2.2 dX8_dropObject_41
  · skip
    have f11 : ((V 25 (Int32.toNatClampNeg z4))).toInt = p0.toInt := b_eq rfl rfl c8
    refine lv_aload_n hx hb dX8_dropObject_34 rfl (lv_at hl 1 rfl) ?_
    refine va_get (D := D) (ci := 8) (v := .ref (ad 22)) (fs := (xfStock ad V5 L Z)) (C := RX8) (T := TX8) (N := 16) hx hb hg inX8 hown hK hP 3 xgStock rfl 4 (by decide) (hg _ w378) (fun _ h9 => h9) rfl dX8_dropObject_35 ?_
    refine lv_iload_n hx hb dX8_dropObject_38 rfl (lv_at hl 0 rfl) ?_
    refine lv_iconst (v := (-1)) hx hb dX8_dropObject_39 (by decide) ?_
    refine va_iast (D := D) (i := z4) (x := (-1)) hx hb hK hP hD hS 22 15 rfl rfl (i_in (a := z4.toInt) rfl (by (first | exact om_05b08aa47414 r1.1 r1.2 hz2 r3.1 r3.2 hz4 | omega))) dX8_dropObject_40 (fun H locs hP hD hS => ?_)
    obtain ⟨V12, hV12⟩ : ∃ z, z = up2 V5 25 (Int32.toNatClampNeg z4) (-1) := ⟨_, rfl⟩
    have ew13 : (xw ad kk V5 L Z).set 22 ((ad 22), .inl ((kk 22), 960, .inl (upd (V5 25) (Int32.toNatClampNeg z4) (-1)))) = xw ad kk V12 L Z := by rw [hV12]; exact xw_ss (by decide) rfl (xb_si (by decide))
    have hP : va_P D vwCl (xw ad kk V12 L Z) H := by rw [← ew13]; exact hP
    have hD : va_D A (xw ad kk V12 L Z) := by rw [← ew13]; exact hD
    have hMV12 : rgd bX V12 := hMV5.put hV12 (show (-1) ≤ Int32.toInt (-1) ∧ Int32.toInt (-1) ≤ 299 from by decide)
    have agV12 : agr [] [25, 28] V V12 := agV5.up hV12 rfl
    have m1 : Int32.toInt (-1) = -1 := by decide
    have me14 : ∀ n, ME V V12 n := fun n => (ME.up (ME.up ME.rf hV5 (Or.inr (by omega))) hV12 (Or.inr (by omega)))
    exact W.vret hx hb hr (fun t ht hW => ⟨⟨(V12, L), rfl, ⟨hMV12, agV12, rfl, me14⟩, by rw [ht]; exact hP, va_K.moved hW.alike hK, hD⟩, hS.F ht⟩) hS.2.2 dX8_dropObject_41
abbrev r_x_wrapFrom2 : Room := { frames := 1, cells := 0, slots := 0, locals := 24 }
abbrev q_x_wrapFrom2 (D : va_G) (ks : KS) (ad : Nat → Nat) (kk : Nat → ClassId) (V : Vf) (L : Lf) (Z : XZ) (p0 : Int32) (p1 : Int32) (p2 : Int32) (p3 : Int32) (b : Nat) (A : Nat → Prop) : Array Value → State → Outcome → State → Prop := va_Qi (fun (r : Int32) (_ : Unit) => ((-1) ≤ r.toInt ∧ r.toInt ≤ 11) ∧ (Imp (0 ≤ r.toInt) (r.toInt < (V 41 b).toInt))) (fun _ t => gq D A (xw ad kk V L Z) (xty kk Z) t) A
set_option maxHeartbeats 4000000 in
set_option maxRecDepth 100000 in
theorem x_wrapFrom2 (l : Launch) (D : va_G) (ks : KS) (sz : Nat) (ad : Nat → Nat) (kk : Nat → ClassId) (V : Vf) (L : Lf) (Z : XZ) (p0 : Int32) (p1 : Int32) (p2 : Int32) (p3 : Int32) (b : Nat) (hMV : rgd bX V) (rg_p0 : 0 ≤ p0.toInt ∧ p0.toInt ≤ 12) (rg_p2 : 0 ≤ p2.toInt ∧ p2.toInt ≤ 23) (hb2 : b < 2)  : Met l yX0_wrapFrom (Cond.code yX0_wrapFrom cX0_wrapFrom 6 (some .int) :: GW) r_x_wrapFrom2 (va_Pc [.ref (ad (38 + b)), .int p0, .int p1, .int p2, .int p3] (gp D ks (xw ad kk V L Z) (xty kk Z) sz)) (q_x_wrapFrom2 D ks ad kk V L Z p0 p1 p2 p3 b (va_A (xw ad kk V L Z) sz)) 0 0 (va_A (xw ad kk V L Z) sz) := by
  refine g_met (q_x_wrapFrom2 D ks ad kk V L Z p0 p1 p2 p3 b) (by decide) (Nat.le_of_ble_eq_true rfl) ?_
  intro p e s m below meth c A ls H locs hx hb hr hml hown hg hlocks hin hnw hgk hP hK hD hS hA hl
  have hown : s.vm.findClass RX0 = some m.cls := hown
  have hl : lv_has ls 6 [(0, .ref (ad (38 + b))), (1, .int p0), (2, .int p1), (3, .int p2), (4, .int p3)] := hl
  have hP : va_P D vwCl (xw ad kk V L Z) H := hP
  have hD : va_D A (xw ad kk V L Z) := hD
  have hK : va_K D vwCl (xty kk Z) s := hK
  refine lv_iload_n hx hb dX0_wrapFrom_0 rfl (lv_at hl 1 rfl) ?_
  refine lv_istore (lv' := [(5, .int p0), (0, .ref (ad (38 + b))), (1, .int p0), (2, .int p1), (3, .int p2), (4, .int p3)]) hx hb dX0_wrapFrom_1 hl (by decide) rfl (fun ls hl => ?_)
  have lp2 : ∀ (fulp2 : Nat) (y1 : Int32) (H : Heap) (locs : List Loc) (ls : Array Slot), 0 ≤ y1.toInt ∧ y1.toInt ≤ 12 → 12 - y1.toInt < (fulp2 : Int) → va_P D vwCl (xw ad kk V L Z) H → va_D A (xw ad kk V L Z) → va_S A s.heap H locs → lv_has ls 6 [(5, .int y1), (0, .ref (ad (38 + b))), (1, .int p0), (2, .int p1), (3, .int p2), (4, .int p3)] → W p l e r_x_wrapFrom2 s m ([.ref (ad (38 + b)), .int p0, .int p1, .int p2, .int p3] : List Value).toArray below meth c H locs 0 0 (MQ below (q_x_wrapFrom2 D ks ad kk V L Z p0 p1 p2 p3 b A) ([.ref (ad (38 + b)), .int p0, .int p1, .int p2, .int p3] : List Value).toArray s 0 0 A) (F0 m 3 ls []) := by
    intro fulp2
    induction fulp2 with
    | zero =>
      intro y1 H locs ls klp2_0 hn  hP hD hS hl
      exfalso; (first | exact om_b9de4c342026 klp2_0.2 hn | omega)
    | succ fulp2 ihlp2 =>
      intro y1 H locs ls klp2_0 hn  hP hD hS hl
      refine lv_iload hx hb dX0_wrapFrom_3 (lv_at hl 0 rfl) ?_
      refine lv_aload_n hx hb dX0_wrapFrom_5 rfl (lv_at hl 1 rfl) ?_
      refine va_get (D := D) (ci := 0) (v := .int (V 41 b)) (fs := (xfBook ad V b)) (C := RX0) (T := TX0) (N := 13) hx hb hg inX0 hown hK hP (38 + b) (xgBook hb2) rfl 11 (by decide) (hg _ w625) (fun _ h9 => h9) rfl dX0_wrapFrom_6 ?_
      have r3 : 0 ≤ ((V 41 b)).toInt ∧ ((V 41 b)).toInt ≤ 12 := hMV 41 b
      refine lv_icmp_ge (tgt := 44) hx hb dX0_wrapFrom_9 (by decide) (fun c4 => ?_) (fun c4 => ?_)
      · skip
        have f5 : ((V 41 b)).toInt ≤ y1.toInt := b_le rfl rfl c4
        refine lv_iconst (v := (-1)) hx hb dX0_wrapFrom_44 (by decide) ?_
        exact W.iret (v := (-1)) hx hb hr (fun t ht hW => ⟨⟨(-1), (), rfl, ⟨(by decide), (Imp.mk (fun hp => absurd hp (by decide)))⟩, by rw [ht]; exact hP, va_K.moved hW.alike hK, hD⟩, hS.F ht⟩) hS.2.2 dX0_wrapFrom_45
      · skip
        have f6 : y1.toInt < ((V 41 b)).toInt := b_nle rfl rfl c4
        refine lv_aload_n hx hb dX0_wrapFrom_12 rfl (lv_at hl 1 rfl) ?_
        refine lv_aload_n hx hb dX0_wrapFrom_13 rfl (lv_at hl 1 rfl) ?_
        refine va_get (D := D) (ci := 0) (v := .ref (ad (66 + b))) (fs := (xfBook ad V b)) (C := RX0) (T := TX0) (N := 13) hx hb hg inX0 hown hK hP (38 + b) (xgBook hb2) rfl 8 (by decide) (hg _ w619) (fun _ h9 => h9) rfl dX0_wrapFrom_14 ?_
        refine lv_aload_n hx hb dX0_wrapFrom_17 rfl (lv_at hl 1 rfl) ?_
        refine va_get (D := D) (ci := 0) (v := .ref (ad (68 + b))) (fs := (xfBook ad V b)) (C := RX0) (T := TX0) (N := 13) hx hb hg inX0 hown hK hP (38 + b) (xgBook hb2) rfl 9 (by decide) (hg _ w621) (fun _ h9 => h9) rfl dX0_wrapFrom_18 ?_
        refine lv_iload hx hb dX0_wrapFrom_21 (lv_at hl 0 rfl) ?_
        have il7 : b < 2 := by (first | exact om_f940a4667dd6 hb2 | omega)
        refine va_iald (D := D) (i := y1) hx hb hK hP (68 + b) (61 + b) (xgwrapOrder il7) (xtwrapOrder il7) (i_in (a := y1.toInt) rfl (by (first | exact om_90c9ae59974b klp2_0.1 r3.2 f6 | omega))) dX0_wrapFrom_23 ?_
        have kc8 := i_clamp (x := y1) rfl (by (first | exact om_eafa9039069c klp2_0.1 | omega))
        refine g_top (v := V 47 (12 * b + (Int32.toNatClampNeg y1))) (if_pos (by omega)) ?_
        have r9 : 0 ≤ ((V 47 (12 * b + (Int32.toNatClampNeg y1)))).toInt ∧ ((V 47 (12 * b + (Int32.toNatClampNeg y1)))).toInt ≤ 11 := hMV 47 (12 * b + (Int32.toNatClampNeg y1))
        have il10 : b < 2 := by (first | exact om_f940a4667dd6 hb2 | omega)
        refine va_aldq (D := D) (i := (V 47 (12 * b + (Int32.toNatClampNeg y1)))) hx hb hK hP (66 + b) (59 + b) (xgwrapsA il10) (xtwrapsA il10) (i_in (a := ((V 47 (12 * b + (Int32.toNatClampNeg y1)))).toInt) rfl (by (first | exact om_da83cce65d18 r9.1 r9.2 | omega))) dX0_wrapFrom_24 ?_
        have kc11 := i_clamp (x := (V 47 (12 * b + (Int32.toNatClampNeg y1)))) rfl (by (first | exact om_eafa9039069c r9.1 | omega))
        refine g_topv (v := .ref (ad (312 + (12 * b + (Int32.toNatClampNeg (V 47 (12 * b + (Int32.toNatClampNeg y1)))))))) (congrArg va_rf (if_pos (by omega))) ?_
        have il12 : (12 * b + (Int32.toNatClampNeg (V 47 (12 * b + (Int32.toNatClampNeg y1))))) < 24 := by (first | exact om_a98cd8d2da4e hb2 r9.2 kc11 | omega)
        refine lv_iload_n hx hb dX0_wrapFrom_25 rfl (lv_at hl 3 rfl) ?_
        refine lv_iload_n hx hb dX0_wrapFrom_26 rfl (lv_at hl 4 rfl) ?_
        refine lv_iload hx hb dX0_wrapFrom_27 (lv_at hl 5 rfl) ?_
        refine gA_int (gA_runV (As := [.ref (ad (312 + (12 * b + (Int32.toNatClampNeg (V 47 (12 * b + (Int32.toNatClampNeg y1))))))), .int p1, .int p2, .int p3]) (rest := []) (ci := 0) (q0 := (38 + b)) hx hb hml hown hg hP hD hK hS hA hnw hgk (x_isFor l D ks H.size ad kk V L Z p1 p2 p3 (b) ((12 * b + (Int32.toNatClampNeg (V 47 (12 * b + (Int32.toNatClampNeg y1)))))) hMV (by (first | exact om_d3435e1acec6 rg_p2.1 rg_p2.2 | omega)) (show b < 2 from by (first | exact om_f940a4667dd6 hb2 | omega)) (show (12 * b + (Int32.toNatClampNeg (V 47 (12 * b + (Int32.toNatClampNeg y1))))) < 24 from by (first | exact om_a98cd8d2da4e hb2 r9.2 kc11 | omega))) w1396 w1398 w61 w167 w1399 rfl (xgBook hb2) hdV_yX0_isFor ⟨Nat.le_of_ble_eq_true rfl, Nat.le_of_ble_eq_true rfl⟩ rfl hl.1 rfl (Nat.le_of_ble_eq_true rfl) dX0_wrapFrom_29 ⟨Nat.le_of_ble_eq_true rfl, Nat.le_of_ble_eq_true rfl⟩) hP hD hK hS hA (fun z13 u14 H locs w15 hP hD hK hS => ?_)
        have rgz13 := w15
        have rgz13 : 0 ≤ z13.toInt ∧ z13.toInt ≤ 1 := rgz13
        refine lv_if_eq (tgt := 38) hx hb dX0_wrapFrom_32 (by decide) (fun c16 => ?_) (fun c16 => ?_)
        · skip
          have f17 : z13.toInt = 0 := b_eq rfl (by decide) c16
          obtain ⟨z18, ez18⟩ : ∃ y : Int32, y = y1 + 1 := ⟨_, rfl⟩
          have hz18 : z18.toInt = y1.toInt + 1 := i_add ez18 rfl (by decide) (by (first | exact om_7992c83b4b8b klp2_0.1 r3.2 f6 | omega))
          refine lv_iinc (v := z18) (lv' := [(5, .int z18), (0, .ref (ad (38 + b))), (1, .int p0), (2, .int p1), (3, .int p2), (4, .int p3)]) hx hb dX0_wrapFrom_38 hl (k := 0) rfl (by rw [ez18]; rfl) (by decide) rfl (fun ls hl => ?_)
          refine lv_goto (tgt := 3) hx hb dX0_wrapFrom_41 (by decide) ?_
          exact ihlp2 z18 H locs ls (by (first | exact om_56249b68a5fe klp2_0.1 r3.2 f6 hz18 | omega)) (by (first | exact om_95514e7aa9e9 hn hz18 | omega)) hP hD hS (lv_sub hl [0, 1, 2, 3, 4, 5] rfl)
        · skip
          have f19 : z13.toInt ≠ 0 := b_neq rfl (by decide) c16
          refine lv_iload hx hb dX0_wrapFrom_35 (lv_at hl 0 rfl) ?_
          exact W.iret (v := y1) hx hb hr (fun t ht hW => ⟨⟨y1, (), rfl, ⟨(show (-1) ≤ y1.toInt ∧ y1.toInt ≤ 11 from by (first | exact om_d1bc3f41d2f0 klp2_0.1 r3.2 f6 | omega)), (Imp.mk (fun hp => have hp : 0 ≤ y1.toInt := hp; (show y1.toInt < (V 41 b).toInt from by (first | exact om_0e9116797efb f6 | omega))))⟩, by rw [ht]; exact hP, va_K.moved hW.alike hK, hD⟩, hS.F ht⟩) hS.2.2 dX0_wrapFrom_37
  exact lp2 ((12 - p0.toInt + 1 : Int).toNat) p0 H locs ls (by (first | exact om_8dd06492493b rg_p0.1 rg_p0.2 | omega)) (by (first | exact om_10cc180fa1f4 | omega)) hP hD hS (lv_sub hl [0, 1, 2, 3, 4, 5] rfl)
abbrev r_x_wrapBackFrom2 : Room := { frames := 1, cells := 0, slots := 0, locals := 24 }
abbrev q_x_wrapBackFrom2 (D : va_G) (ks : KS) (ad : Nat → Nat) (kk : Nat → ClassId) (V : Vf) (L : Lf) (Z : XZ) (p0 : Int32) (p1 : Int32) (p2 : Int32) (p3 : Int32) (b : Nat) (A : Nat → Prop) : Array Value → State → Outcome → State → Prop := va_Qi (fun (r : Int32) (_ : Unit) => ((-1) ≤ r.toInt ∧ r.toInt ≤ 11) ∧ (Imp (0 ≤ r.toInt) (r.toInt < (V 41 b).toInt))) (fun _ t => gq D A (xw ad kk V L Z) (xty kk Z) t) A
set_option maxHeartbeats 4000000 in
set_option maxRecDepth 100000 in
theorem x_wrapBackFrom2 (l : Launch) (D : va_G) (ks : KS) (sz : Nat) (ad : Nat → Nat) (kk : Nat → ClassId) (V : Vf) (L : Lf) (Z : XZ) (p0 : Int32) (p1 : Int32) (p2 : Int32) (p3 : Int32) (b : Nat) (hMV : rgd bX V) (rg_p0 : (-1) ≤ p0.toInt ∧ p0.toInt ≤ 11) (rg_p2 : 0 ≤ p2.toInt ∧ p2.toInt ≤ 23) (hb2 : b < 2) (wbf : p0.toInt < (V 41 b).toInt)  : Met l yX0_wrapBackFrom (Cond.code yX0_wrapBackFrom cX0_wrapBackFrom 6 (some .int) :: GW) r_x_wrapBackFrom2 (va_Pc [.ref (ad (38 + b)), .int p0, .int p1, .int p2, .int p3] (gp D ks (xw ad kk V L Z) (xty kk Z) sz)) (q_x_wrapBackFrom2 D ks ad kk V L Z p0 p1 p2 p3 b (va_A (xw ad kk V L Z) sz)) 0 0 (va_A (xw ad kk V L Z) sz) := by
  refine g_met (q_x_wrapBackFrom2 D ks ad kk V L Z p0 p1 p2 p3 b) (by decide) (Nat.le_of_ble_eq_true rfl) ?_
  intro p e s m below meth c A ls H locs hx hb hr hml hown hg hlocks hin hnw hgk hP hK hD hS hA hl
  have hown : s.vm.findClass RX0 = some m.cls := hown
  have hl : lv_has ls 6 [(0, .ref (ad (38 + b))), (1, .int p0), (2, .int p1), (3, .int p2), (4, .int p3)] := hl
  have hP : va_P D vwCl (xw ad kk V L Z) H := hP
  have hD : va_D A (xw ad kk V L Z) := hD
  have hK : va_K D vwCl (xty kk Z) s := hK
  have r1 : 0 ≤ ((V 41 b)).toInt ∧ ((V 41 b)).toInt ≤ 12 := hMV 41 b
  refine lv_iload_n hx hb dX0_wrapBackFrom_0 rfl (lv_at hl 1 rfl) ?_
  refine lv_istore (lv' := [(5, .int p0), (0, .ref (ad (38 + b))), (1, .int p0), (2, .int p1), (3, .int p2), (4, .int p3)]) hx hb dX0_wrapBackFrom_1 hl (by decide) rfl (fun ls hl => ?_)
  have lp3 : ∀ (fulp3 : Nat) (y2 : Int32) (H : Heap) (locs : List Loc) (ls : Array Slot), (-1) ≤ y2.toInt ∧ y2.toInt ≤ 11 → y2.toInt < (V 41 b).toInt → y2.toInt + 1 < (fulp3 : Int) → va_P D vwCl (xw ad kk V L Z) H → va_D A (xw ad kk V L Z) → va_S A s.heap H locs → lv_has ls 6 [(5, .int y2), (0, .ref (ad (38 + b))), (1, .int p0), (2, .int p1), (3, .int p2), (4, .int p3)] → W p l e r_x_wrapBackFrom2 s m ([.ref (ad (38 + b)), .int p0, .int p1, .int p2, .int p3] : List Value).toArray below meth c H locs 0 0 (MQ below (q_x_wrapBackFrom2 D ks ad kk V L Z p0 p1 p2 p3 b A) ([.ref (ad (38 + b)), .int p0, .int p1, .int p2, .int p3] : List Value).toArray s 0 0 A) (F0 m 3 ls []) := by
    intro fulp3
    induction fulp3 with
    | zero =>
      intro y2 H locs ls klp3_0 xlp3_0 hn  hP hD hS hl
      exfalso; (first | exact om_f8ddf9becbdf klp3_0.1 hn | omega)
    | succ fulp3 ihlp3 =>
      intro y2 H locs ls klp3_0 xlp3_0 hn  hP hD hS hl
      refine lv_iload hx hb dX0_wrapBackFrom_3 (lv_at hl 0 rfl) ?_
      refine lv_if_lt (tgt := 40) hx hb dX0_wrapBackFrom_5 (by decide) (fun c4 => ?_) (fun c4 => ?_)
      · skip
        have f5 : y2.toInt < 0 := b_lt rfl (by decide) c4
        refine lv_iconst (v := (-1)) hx hb dX0_wrapBackFrom_40 (by decide) ?_
        exact W.iret (v := (-1)) hx hb hr (fun t ht hW => ⟨⟨(-1), (), rfl, ⟨(by decide), (Imp.mk (fun hp => absurd hp (by decide)))⟩, by rw [ht]; exact hP, va_K.moved hW.alike hK, hD⟩, hS.F ht⟩) hS.2.2 dX0_wrapBackFrom_41
      · skip
        have f6 : 0 ≤ y2.toInt := b_nlt rfl (by decide) c4
        refine lv_aload_n hx hb dX0_wrapBackFrom_8 rfl (lv_at hl 1 rfl) ?_
        refine lv_aload_n hx hb dX0_wrapBackFrom_9 rfl (lv_at hl 1 rfl) ?_
        refine va_get (D := D) (ci := 0) (v := .ref (ad (66 + b))) (fs := (xfBook ad V b)) (C := RX0) (T := TX0) (N := 13) hx hb hg inX0 hown hK hP (38 + b) (xgBook hb2) rfl 8 (by decide) (hg _ w619) (fun _ h9 => h9) rfl dX0_wrapBackFrom_10 ?_
        refine lv_aload_n hx hb dX0_wrapBackFrom_13 rfl (lv_at hl 1 rfl) ?_
        refine va_get (D := D) (ci := 0) (v := .ref (ad (68 + b))) (fs := (xfBook ad V b)) (C := RX0) (T := TX0) (N := 13) hx hb hg inX0 hown hK hP (38 + b) (xgBook hb2) rfl 9 (by decide) (hg _ w621) (fun _ h9 => h9) rfl dX0_wrapBackFrom_14 ?_
        refine lv_iload hx hb dX0_wrapBackFrom_17 (lv_at hl 0 rfl) ?_
        have il7 : b < 2 := by (first | exact om_f940a4667dd6 hb2 | omega)
        refine va_iald (D := D) (i := y2) hx hb hK hP (68 + b) (61 + b) (xgwrapOrder il7) (xtwrapOrder il7) (i_in (a := y2.toInt) rfl (by (first | exact om_a01a769b2043 klp3_0.2 f6 | omega))) dX0_wrapBackFrom_19 ?_
        have kc8 := i_clamp (x := y2) rfl (by (first | exact om_eafa9039069c f6 | omega))
        refine g_top (v := V 47 (12 * b + (Int32.toNatClampNeg y2))) (if_pos (by omega)) ?_
        have r9 : 0 ≤ ((V 47 (12 * b + (Int32.toNatClampNeg y2)))).toInt ∧ ((V 47 (12 * b + (Int32.toNatClampNeg y2)))).toInt ≤ 11 := hMV 47 (12 * b + (Int32.toNatClampNeg y2))
        have il10 : b < 2 := by (first | exact om_f940a4667dd6 hb2 | omega)
        refine va_aldq (D := D) (i := (V 47 (12 * b + (Int32.toNatClampNeg y2)))) hx hb hK hP (66 + b) (59 + b) (xgwrapsA il10) (xtwrapsA il10) (i_in (a := ((V 47 (12 * b + (Int32.toNatClampNeg y2)))).toInt) rfl (by (first | exact om_da83cce65d18 r9.1 r9.2 | omega))) dX0_wrapBackFrom_20 ?_
        have kc11 := i_clamp (x := (V 47 (12 * b + (Int32.toNatClampNeg y2)))) rfl (by (first | exact om_eafa9039069c r9.1 | omega))
        refine g_topv (v := .ref (ad (312 + (12 * b + (Int32.toNatClampNeg (V 47 (12 * b + (Int32.toNatClampNeg y2)))))))) (congrArg va_rf (if_pos (by omega))) ?_
        have il12 : (12 * b + (Int32.toNatClampNeg (V 47 (12 * b + (Int32.toNatClampNeg y2))))) < 24 := by (first | exact om_a98cd8d2da4e hb2 r9.2 kc11 | omega)
        refine lv_iload_n hx hb dX0_wrapBackFrom_21 rfl (lv_at hl 3 rfl) ?_
        refine lv_iload_n hx hb dX0_wrapBackFrom_22 rfl (lv_at hl 4 rfl) ?_
        refine lv_iload hx hb dX0_wrapBackFrom_23 (lv_at hl 5 rfl) ?_
        refine gA_int (gA_runV (As := [.ref (ad (312 + (12 * b + (Int32.toNatClampNeg (V 47 (12 * b + (Int32.toNatClampNeg y2))))))), .int p1, .int p2, .int p3]) (rest := []) (ci := 0) (q0 := (38 + b)) hx hb hml hown hg hP hD hK hS hA hnw hgk (x_isFor l D ks H.size ad kk V L Z p1 p2 p3 (b) ((12 * b + (Int32.toNatClampNeg (V 47 (12 * b + (Int32.toNatClampNeg y2)))))) hMV (by (first | exact om_d3435e1acec6 rg_p2.1 rg_p2.2 | omega)) (show b < 2 from by (first | exact om_f940a4667dd6 hb2 | omega)) (show (12 * b + (Int32.toNatClampNeg (V 47 (12 * b + (Int32.toNatClampNeg y2))))) < 24 from by (first | exact om_a98cd8d2da4e hb2 r9.2 kc11 | omega))) w1396 w1398 w61 w167 w1399 rfl (xgBook hb2) hdV_yX0_isFor ⟨Nat.le_of_ble_eq_true rfl, Nat.le_of_ble_eq_true rfl⟩ rfl hl.1 rfl (Nat.le_of_ble_eq_true rfl) dX0_wrapBackFrom_25 ⟨Nat.le_of_ble_eq_true rfl, Nat.le_of_ble_eq_true rfl⟩) hP hD hK hS hA (fun z13 u14 H locs w15 hP hD hK hS => ?_)
        have rgz13 := w15
        have rgz13 : 0 ≤ z13.toInt ∧ z13.toInt ≤ 1 := rgz13
        refine lv_if_eq (tgt := 34) hx hb dX0_wrapBackFrom_28 (by decide) (fun c16 => ?_) (fun c16 => ?_)
        · skip
          have f17 : z13.toInt = 0 := b_eq rfl (by decide) c16
          obtain ⟨z18, ez18⟩ : ∃ y : Int32, y = y2 + (-1) := ⟨_, rfl⟩
          have hz18 : z18.toInt = y2.toInt + (-1) := i_add ez18 rfl (by decide) (by (first | exact om_3da4b0e1dba1 klp3_0.2 f6 | omega))
          refine lv_iinc (v := z18) (lv' := [(5, .int z18), (0, .ref (ad (38 + b))), (1, .int p0), (2, .int p1), (3, .int p2), (4, .int p3)]) hx hb dX0_wrapBackFrom_34 hl (k := 0) rfl (by rw [ez18]; rfl) (by decide) rfl (fun ls hl => ?_)
          refine lv_goto (tgt := 3) hx hb dX0_wrapBackFrom_37 (by decide) ?_
          exact ihlp3 z18 H locs ls (by (first | exact om_c29ac0d04c46 klp3_0.2 f6 hz18 | omega)) (show z18.toInt < (V 41 b).toInt from by (first | exact om_1e2998b5d70c xlp3_0 hz18 | omega)) (by (first | exact om_2e0ce331b730 hn hz18 | omega)) hP hD hS (lv_sub hl [0, 1, 2, 3, 4, 5] rfl)
        · skip
          have f19 : z13.toInt ≠ 0 := b_neq rfl (by decide) c16
          refine lv_iload hx hb dX0_wrapBackFrom_31 (lv_at hl 0 rfl) ?_
          exact W.iret (v := y2) hx hb hr (fun t ht hW => ⟨⟨y2, (), rfl, ⟨(show (-1) ≤ y2.toInt ∧ y2.toInt ≤ 11 from by (first | exact om_451ae73b5ddd klp3_0.2 f6 | omega)), (Imp.mk (fun hp => have hp : 0 ≤ y2.toInt := hp; (show y2.toInt < (V 41 b).toInt from by (first | exact om_0e9116797efb xlp3_0 | omega))))⟩, by rw [ht]; exact hP, va_K.moved hW.alike hK, hD⟩, hS.F ht⟩) hS.2.2 dX0_wrapBackFrom_33
  exact lp3 ((p0.toInt + 1 + 1 : Int).toNat) p0 H locs ls (by (first | exact om_ae154f491ccb rg_p0.1 rg_p0.2 | omega)) (show p0.toInt < (V 41 b).toInt from by (first | exact om_0e9116797efb wbf | omega)) (by (first | exact om_3b297d515ebe | omega)) hP hD hS (lv_sub hl [0, 1, 2, 3, 4, 5] rfl)
abbrev r_x_beginMaking (Z : XZ) : Room := { frames := 3, cells := zcc Z, slots := zss Z, locals := 70 }
abbrev q_x_beginMaking (D : va_G) (ks : KS) (ad : Nat → Nat) (kk : Nat → ClassId) (V : Vf) (L : Lf) (Z : XZ) (p0 : Int32) (p1 : Int32) (p2 : Int32) (p3 : Int32) (b : Nat) (A : Nat → Prop) : Array Value → State → Outcome → State → Prop := qZv D (fun (u : Vf × Lf × XZ) => rgd bX u.1 ∧ agr [(3, 13), (5, 6), (5, 9), (5, 11), (5, 12), (5, 13), (5, 14)] [25, 26, 27, 28, 30, 67, 68, 69, 70, 71, 72, 73, 74, 75, 76, 77, 78, 79, 80, 81, 82, 83, 84, 85] V u.1 ∧ u.2.1 = L ∧ ZL Z u.2.2 ∧ (MJ u.1 u.2.2 b)) (fun u => xw ad kk u.1 u.2.1 u.2.2) (fun u => xty kk u.2.2) (fun u => zcc Z - zcc u.2.2) (fun u => zss Z - zss u.2.2) A
set_option maxHeartbeats 4000000 in
set_option maxRecDepth 100000 in
theorem x_beginMaking (l : Launch) (D : va_G) (ks : KS) (sz : Nat) (ad : Nat → Nat) (kk : Nat → ClassId) (V : Vf) (L : Lf) (Z : XZ) (p0 : Int32) (p1 : Int32) (p2 : Int32) (p3 : Int32) (b : Nat) (hMV : rgd bX V) (rg_p0 : 0 ≤ p0.toInt ∧ p0.toInt ≤ 23) (rg_p1 : 0 ≤ p1.toInt ∧ p1.toInt ≤ 39) (rg_p3 : 0 ≤ p3.toInt ∧ p3.toInt ≤ 1) (hb2 : b < 2) (mt : MTw V Z b) (hcm : p0.toInt < (V 43 (5 * b + 2)).toInt)  : Met l yX5_beginMaking (Cond.code yX5_beginMaking cX5_beginMaking 6 none :: GW) (r_x_beginMaking Z) (va_Pc [.ref (ad 5), .int p0, .int p1, .int p2, .int p3] (gp D ks (xw ad kk V L Z) (xty kk Z) sz)) (q_x_beginMaking D ks ad kk V L Z p0 p1 p2 p3 b (va_A (xw ad kk V L Z) sz)) (zcc Z) (zss Z) (va_A (xw ad kk V L Z) sz) := by
  refine g_met (q_x_beginMaking D ks ad kk V L Z p0 p1 p2 p3 b) (by decide) (Nat.le_of_ble_eq_true rfl) ?_
  intro p e s m below meth c A ls H locs hx hb hr hml hown hg hlocks hin hnw hgk hP hK hD hS hA hl
  have hown : s.vm.findClass RX5 = some m.cls := hown
  have hl : lv_has ls 6 [(0, .ref (ad 5)), (1, .int p0), (2, .int p1), (3, .int p2), (4, .int p3)] := hl
  have hP : va_P D vwCl (xw ad kk V L Z) H := hP
  have hD : va_D A (xw ad kk V L Z) := hD
  have hK : va_K D vwCl (xty kk Z) s := hK
  have agV : agr [(3, 13), (5, 6), (5, 9), (5, 11), (5, 12), (5, 13), (5, 14)] [25, 26, 27, 28, 30, 67, 68, 69, 70, 71, 72, 73, 74, 75, 76, 77, 78, 79, 80, 81, 82, 83, 84, 85] V V := agr.rf
  have zoZ : ZL Z Z := ZL.rf
  refine W.know (fun ka kb => ?_)
  refine W.tight (k := zcc Z - zcc Z) (n := zss Z - zss Z) (by omega) (by omega) ?_
  have r1 : 0 ≤ ((V 43 (5 * b + 2))).toInt ∧ ((V 43 (5 * b + 2))).toInt ≤ ((xcap (5 * b + 2) : Nat) : Int) := hMV 43 (5 * b + 2)
  have r2 : xcap (5 * b + 2) = 24 := xcap_2
  have r3 : 0 ≤ ((V 5 6)).toInt ∧ ((V 5 6)).toInt ≤ 400 := hMV 5 6
  have kdp := i_clamp (x := V 5 6) rfl (by (first | exact om_eafa9039069c r3.1 | omega))
  have hdn := MTw.dn mt (by (first | exact om_eafa9039069c r3.1 | omega))
  have mup := MTw.up mt
  have msz := mup.1
  have mbk := mup.2.2.2.1
  refine lv_aload_n hx hb dX5_beginMaking_0 rfl (lv_at hl 0 rfl) ?_
  refine gA_int (gA_runV (As := []) (rest := []) (ci := 5) (q0 := 5) hx hb hml hown hg hP hD hK hS hA hnw hgk (x_takesStep l D ks H.size ad kk V L Z  hMV ) w1281 w1283 w48 w171 w1284 rfl xgMachine hdV_yX5_takesStep ⟨Nat.le_of_ble_eq_true rfl, Nat.le_of_ble_eq_true rfl⟩ rfl hl.1 rfl (Nat.le_of_ble_eq_true rfl) dX5_beginMaking_1 ⟨z0, z0⟩) hP hD hK hS hA (fun z4 u5 H locs w6 hP hD hK hS => ?_)
  obtain ⟨V9, L10⟩ := u5
  obtain ⟨hMV9, ajV9, axL10, rgz4, t7, t8⟩ := w6
  have axL10 : L = L10 := Eq.symm axL10
  subst axL10
  have hP : va_P D vwCl (xw ad kk V9 L Z) H := hP
  have hD : va_D A (xw ad kk V9 L Z) := hD
  have hMV9 : rgd bX V9 := hMV9
  have ajV9 : agr [(5, 9), (5, 13), (5, 14)] [] V V9 := ajV9
  have agV9 : agr [(3, 13), (5, 6), (5, 9), (5, 11), (5, 12), (5, 13), (5, 14)] [25, 26, 27, 28, 30, 67, 68, 69, 70, 71, 72, 73, 74, 75, 76, 77, 78, 79, 80, 81, 82, 83, 84, 85] V V9 := agV.tr ajV9 (by decide) (by decide)
  have rgz4 : 0 ≤ z4.toInt ∧ z4.toInt ≤ 1 := rgz4
  have t7 : Imp (z4.toInt = 0) ((V9 5 9).toInt = 3) := t7
  have t8 : Imp (z4.toInt = 1) ((V9 5 9).toInt = (V 5 9).toInt) := t8
  have r11 : 0 ≤ ((V9 5 9)).toInt ∧ ((V9 5 9)).toInt ≤ 3 := hMV9 5 9
  have r12 : 0 ≤ ((V 5 9)).toInt ∧ ((V 5 9)).toInt ≤ 3 := hMV 5 9
  refine lv_if_ne (tgt := 8) hx hb dX5_beginMaking_4 (by decide) (fun c13 => ?_) (fun c13 => ?_)
  · skip
    have f14 : z4.toInt ≠ 0 := b_neq rfl (by decide) c13
    refine lv_aload_n hx hb dX5_beginMaking_8 rfl (lv_at hl 0 rfl) ?_
    refine va_get (D := D) (ci := 5) (v := .ref (ad 3)) (fs := (xfMachine ad V9 L Z)) (C := RX5) (T := TX5) (N := 15) hx hb hg inX5 hown hK hP 5 xgMachine rfl 0 (by decide) (hg _ w667) (fun _ h9 => h9) rfl dX5_beginMaking_9 ?_
    refine lv_iload_n hx hb dX5_beginMaking_12 rfl (lv_at hl 1 rfl) ?_
    refine lv_iload_n hx hb dX5_beginMaking_13 rfl (lv_at hl 2 rfl) ?_
    refine lv_iload hx hb dX5_beginMaking_14 (lv_at hl 4 rfl) ?_
    have me15 : ME V V9 0 := (ME.tr ME.rf (ME.ag ajV9 (by decide)))
    have sl16 : SL V9 Z := by unfold SL; rw [me15.2.2.1.2.1, me15.2.2.1.1]; exact ⟨mup.2.2.2.2.1.1, mup.2.2.2.2.1.2.1, fun o k a1 a2 => by rw [me15.2.2.2.2.1]; exact mup.2.2.2.2.1.2.2.1 o k a1 a2, fun i a1 => by rw [me15.2.2.2.2.2.1]; exact mup.2.2.2.2.1.2.2.2 i a1⟩
    refine gA_int (gA_runV (As := [.int p0, .int p1, .int p3]) (rest := []) (ci := 8) (q0 := 3) hx hb hml hown hg hP hD hK hS hA hnw hgk (x_beginObject2 l D ks H.size ad kk V9 L Z p0 p1 p3 hMV9 (by first | exact om_d3435e1acec6 rg_p0.1 rg_p0.2 | first | omega | ((try (have i_t8 := Imp.go t8 (by omega))); (try (have i_t7 := Imp.go t7 (by omega))); (try (have i_t7 := Imp.go t7 (by omega))); (try (have i_t8 := Imp.go t8 (by omega))); omega)) (by first | exact om_13ba01c174fe rg_p1.1 rg_p1.2 | first | omega | ((try (have i_t8 := Imp.go t8 (by omega))); (try (have i_t7 := Imp.go t7 (by omega))); (try (have i_t7 := Imp.go t7 (by omega))); (try (have i_t8 := Imp.go t8 (by omega))); omega)) (by first | exact om_eb7af9d60398 rg_p3.1 rg_p3.2 | first | omega | ((try (have i_t8 := Imp.go t8 (by omega))); (try (have i_t7 := Imp.go t7 (by omega))); (try (have i_t7 := Imp.go t7 (by omega))); (try (have i_t8 := Imp.go t8 (by omega))); omega)) sl16) w1286 w1287 w1288 w164 w1289 rfl xgStock hdV_yX8_beginObject ⟨Nat.le_of_ble_eq_true rfl, Nat.le_of_ble_eq_true rfl⟩ rfl hl.1 rfl (Nat.le_of_ble_eq_true rfl) dX5_beginMaking_16 ⟨z0, z0⟩) hP hD hK hS hA (fun z17 u18 H locs w19 hP hD hK hS => ?_)
    obtain ⟨V29, L30⟩ := u18
    obtain ⟨hMV29, ajV29, axL30, rgz17, t20, t21, t22, t23, t24, t25, t26, t27, t28⟩ := w19
    have axL30 : L = L30 := Eq.symm axL30
    subst axL30
    have hP : va_P D vwCl (xw ad kk V29 L Z) H := hP
    have hD : va_D A (xw ad kk V29 L Z) := hD
    have hMV29 : rgd bX V29 := hMV29
    have ajV29 : agr [(3, 13)] [25, 26, 27, 28, 30] V9 V29 := ajV29
    have agV29 : agr [(3, 13), (5, 6), (5, 9), (5, 11), (5, 12), (5, 13), (5, 14)] [25, 26, 27, 28, 30, 67, 68, 69, 70, 71, 72, 73, 74, 75, 76, 77, 78, 79, 80, 81, 82, 83, 84, 85] V V29 := agV9.tr ajV29 (by decide) (by decide)
    have rgz17 : (-1) ≤ z17.toInt ∧ z17.toInt ≤ 299 := rgz17
    have t20 : SL V29 Z := t20
    have t21 : Imp (0 ≤ z17.toInt) (∀ q : Nat, 8 * Int32.toNatClampNeg (V9 3 13) ≤ q → q < 8 * Int32.toNatClampNeg (V9 3 13) + 8 → (V29 30 q).toInt = -1) := t21
    have t22 : Imp (0 ≤ z17.toInt) (∀ q : Nat, ¬ (8 * Int32.toNatClampNeg (V9 3 13) ≤ q ∧ q < 8 * Int32.toNatClampNeg (V9 3 13) + 8) → V29 30 q = V9 30 q) := t22
    have t23 : Imp (0 ≤ z17.toInt) (∀ q : Nat, ¬ q = Int32.toNatClampNeg (V9 3 13) → V29 26 q = V9 26 q) := t23
    have t24 : Imp (0 ≤ z17.toInt) (z17.toInt = (V9 3 13).toInt ∧ (V29 3 13).toInt = (V9 3 13).toInt + 1) := t24
    have t25 : Imp (z17.toInt = -1) ((V29 3 13).toInt = (V9 3 13).toInt) := t25
    have t26 : Imp (0 ≤ z17.toInt) (V29 26 (Int32.toNatClampNeg (V9 3 13)) = p0) := t26
    have t27 : Imp (z17.toInt = -1) (V29 = V9) := t27
    have t28 : Imp (0 ≤ z17.toInt) (∀ k : Nat, k < 960 → V29 25 k = V9 25 k ∨ ((V29 25 k).toInt = z17.toInt ∧ p0.toInt = ((k % 24 : Nat) : Int))) := t28
    have pq31 : (V9 3 13).toInt = ((V 3 13)).toInt := congrArg Int32.toInt (ajV9 3 13 rfl)
    have r32 : 0 ≤ ((V 3 13)).toInt ∧ ((V 3 13)).toInt ≤ 300 := hMV 3 13
    have r33 : 0 ≤ ((V29 3 13)).toInt ∧ ((V29 3 13)).toInt ≤ 300 := hMV29 3 13
    refine lv_istore (lv' := [(5, .int z17), (0, .ref (ad 5)), (1, .int p0), (2, .int p1), (3, .int p2), (4, .int p3)]) hx hb dX5_beginMaking_19 hl (by decide) rfl (fun ls hl => ?_)
    refine lv_iload hx hb dX5_beginMaking_21 (lv_at hl 0 rfl) ?_
    refine lv_iconst (v := (-1)) hx hb dX5_beginMaking_23 (by decide) ?_
    refine lv_icmp_ne (tgt := 35) hx hb dX5_beginMaking_24 (by decide) (fun c34 => ?_) (fun c34 => ?_)
    · skip
      have f35 : z17.toInt ≠ (-1) := b_neq rfl (by decide) c34
      refine lv_aload_n hx hb dX5_beginMaking_35 rfl (lv_at hl 1 rfl) ?_
      refine lv_iconst (v := 1) hx hb dX5_beginMaking_36 (by decide) ?_
      refine lv_iload_n hx hb dX5_beginMaking_37 rfl (lv_at hl 4 rfl) ?_
      refine lv_iload hx hb dX5_beginMaking_38 (lv_at hl 0 rfl) ?_
      refine lv_iload_n hx hb dX5_beginMaking_40 rfl (lv_at hl 2 rfl) ?_
      refine lv_iload_n hx hb dX5_beginMaking_41 rfl (lv_at hl 3 rfl) ?_
      have r36 : Int32.toInt 1 = 1 := by decide
      have pq37 : (V29 5 6).toInt = ((V 5 6)).toInt := congrArg Int32.toInt ((ajV29 5 6 rfl).trans (ajV9 5 6 rfl))
      refine W.know (fun k39 k40 => ?_)
      obtain ⟨Hk38, hHk38⟩ : ∃ z, z = H := ⟨_, rfl⟩
      have k39 : Hk38.size ≤ s.heap.size + (zcc Z - zcc Z) := by rw [hHk38]; exact k39
      have k40 : tot Hk38 ≤ tot s.heap + (zss Z - zss Z) := by rw [hHk38]; exact k40
      refine gZ_ref (gA_runV (As := [.int 1, .int p2, .int z17, .int p0, .int p1]) (rest := []) (ci := 5) (q0 := 5) hx hb hml hown hg hP hD hK hS hA hnw hgk (x_push l D ks H.size ad kk V29 L Z 1 p2 z17 p0 p1 hMV29 (by first | exact om_f52419b73d7d rg_p0.1 rg_p0.2 | first | omega | ((try (have i_t8 := Imp.go t8 (imp_a (rgz4.1) (rgz4.2) (f14)))); omega) | ((try (have i_t25 := Imp.go t25 (by omega))); (try (have i_t24 := Imp.go t24 (by omega))); (try (have i_t8 := Imp.go t8 (by omega))); (try (have i_t7 := Imp.go t7 (by omega))); first | omega | ((try (have i_t7 := Imp.go t7 (by omega))); (try (have i_t8 := Imp.go t8 (by omega))); (try (have i_t24 := Imp.go t24 (by omega))); (try (have i_t25 := Imp.go t25 (by omega))); omega))) (by first | exact om_13ba01c174fe rg_p1.1 rg_p1.2 | first | omega | ((try (have i_t8 := Imp.go t8 (imp_a (rgz4.1) (rgz4.2) (f14)))); omega) | ((try (have i_t25 := Imp.go t25 (by omega))); (try (have i_t24 := Imp.go t24 (by omega))); (try (have i_t8 := Imp.go t8 (by omega))); (try (have i_t7 := Imp.go t7 (by omega))); first | omega | ((try (have i_t7 := Imp.go t7 (by omega))); (try (have i_t8 := Imp.go t8 (by omega))); (try (have i_t24 := Imp.go t24 (by omega))); (try (have i_t25 := Imp.go t25 (by omega))); omega))) (show (V29 5 6).toInt ≤ (Z.nf : Int) from by first | exact om_c80643d76d53 hdn.1 pq37 | first | omega | ((try (have i_t8 := Imp.go t8 (imp_a (rgz4.1) (rgz4.2) (f14)))); omega) | ((try (have i_t25 := Imp.go t25 (by omega))); (try (have i_t24 := Imp.go t24 (by omega))); (try (have i_t8 := Imp.go t8 (by omega))); (try (have i_t7 := Imp.go t7 (by omega))); first | omega | ((try (have i_t7 := Imp.go t7 (by omega))); (try (have i_t8 := Imp.go t8 (by omega))); (try (have i_t24 := Imp.go t24 (by omega))); (try (have i_t25 := Imp.go t25 (by omega))); omega))) (show (Z.nf : Int) ≤ 400 from by first | exact om_16a0bbaa0b2a hdn.2 | first | omega | ((try (have i_t8 := Imp.go t8 (imp_a (rgz4.1) (rgz4.2) (f14)))); omega) | ((try (have i_t25 := Imp.go t25 (by omega))); (try (have i_t24 := Imp.go t24 (by omega))); (try (have i_t8 := Imp.go t8 (by omega))); (try (have i_t7 := Imp.go t7 (by omega))); first | omega | ((try (have i_t7 := Imp.go t7 (by omega))); (try (have i_t8 := Imp.go t8 (by omega))); (try (have i_t24 := Imp.go t24 (by omega))); (try (have i_t25 := Imp.go t25 (by omega))); omega)))) w1180 w1182 w43 w171 w1183 rfl xgMachine hdV_yX5_push ⟨Nat.le_of_ble_eq_true rfl, Nat.le_of_ble_eq_true rfl⟩ rfl hl.1 rfl (Nat.le_of_ble_eq_true rfl) dX5_beginMaking_42 ⟨z1 zoZ.1, z1 zoZ.2.1⟩) hD hS hA (fun u42 H locs w43 hP hD hK hS y44 y45 => ?_)
      obtain ⟨V46, L47, Z48, f49⟩ := u42
      obtain ⟨hMV46, ajV46, axL47, zlZ48, ilf49, t50, t51, t52, t53, t54, t55⟩ := w43
      have axL47 : L = L47 := Eq.symm axL47
      subst axL47
      have hP : va_P D vwCl (xw ad kk V46 L Z48) H := hP
      have hD : va_D A (xw ad kk V46 L Z48) := hD
      have hK : va_K D vwCl (xty kk Z48) s := hK
      have hMV46 : rgd bX V46 := hMV46
      have ajV46 : agr [(5, 6), (5, 9)] [67, 68, 69, 70, 71, 72, 73, 74, 75, 76, 77, 78, 79, 80, 81, 82, 83, 84, 85] V29 V46 := ajV46
      have agV46 : agr [(3, 13), (5, 6), (5, 9), (5, 11), (5, 12), (5, 13), (5, 14)] [25, 26, 27, 28, 30, 67, 68, 69, 70, 71, 72, 73, 74, 75, 76, 77, 78, 79, 80, 81, 82, 83, 84, 85] V V46 := agV29.tr ajV46 (by decide) (by decide)
      have zlZ48 : ZL Z Z48 := zlZ48
      have zoZ48 : ZL Z Z48 := ZL.tr zoZ zlZ48
      have ziZ48 := zlZ48.1
      have zjZ48 := zlZ48.2.1
      have zkZ48 := zlZ48.2.2.1
      have zmZ48 := zoZ48.1
      have znZ48 := zoZ48.2.1
      have zpZ_Z48 := zoZ.1
      have zqZ_Z48 := zoZ.2.1
      have y44 : H.size ≤ Hk38.size + (zcc Z - zcc Z48) := by rw [hHk38]; exact y44
      have y45 : tot H ≤ tot Hk38 + (zss Z - zss Z48) := by rw [hHk38]; exact y45
      refine W.tight (k := zcc Z - zcc Z48) (n := zss Z - zss Z48) (by first | exact tg9 y44 k39 zlZ48.1 zoZ.1 | omega) (by first | exact tg9 y45 k40 zlZ48.2.1 zoZ.2.1 | omega) ?_
      have ilf49 : f49 < Z48.nf := ilf49
      have t50 : ME V29 V46 f49 := t50
      have t51 : V46 67 f49 = 1 ∧ V46 68 f49 = 0 ∧ V46 70 f49 = z17 ∧ V46 71 f49 = p0 ∧ V46 75 f49 = 0 ∧ V46 76 f49 = 0 := t51
      have t52 : (f49 : Int) + 1 = (V46 5 6).toInt := t52
      have t53 : (f49 : Int) ≤ (V29 5 6).toInt ∧ (V29 5 6).toInt ≤ (f49 : Int) + 1 := t53
      have t54 : (V46 5 9).toInt = 0 := t54
      have t55 : Z48.ln = Z.ln ∧ Z48.nf ≤ 400 := t55
      have r56 : 0 ≤ ((V46 5 6)).toInt ∧ ((V46 5 6)).toInt ≤ 400 := hMV46 5 6
      have r57 : 0 ≤ ((V46 5 9)).toInt ∧ ((V46 5 9)).toInt ≤ 3 := hMV46 5 9
      have pr58 : (V46 67 f49).toInt = 1 := (congrArg Int32.toInt t51.1).trans (by decide)
      have pr59 : (V46 68 f49).toInt = 0 := (congrArg Int32.toInt t51.2.1).trans (by decide)
      have pr60 : (V46 70 f49).toInt = z17.toInt := (congrArg Int32.toInt t51.2.2.1)
      have pr61 : (V46 71 f49).toInt = p0.toInt := (congrArg Int32.toInt t51.2.2.2.1)
      have pr62 : (V46 75 f49).toInt = 0 := (congrArg Int32.toInt t51.2.2.2.2.1).trans (by decide)
      have pr63 : (V46 76 f49).toInt = 0 := (congrArg Int32.toInt t51.2.2.2.2.2).trans (by decide)
      refine lv_pop hx hb dX5_beginMaking_45 rfl ?_
      have me64 : ME V V9 400 := (ME.tr ME.rf (ME.ag ajV9 (by decide)))
      have mt65 : MTw V9 Z b := MTw.me mt me64 (ajV9 5 6 rfl)
      have pq66 : (V9 43 (5 * b + 2)).toInt = ((V 43 (5 * b + 2))).toInt := congrArg Int32.toInt (ajV9 43 (5 * b + 2) rfl)
      have ko1 := i_clamp (x := V9 3 13) rfl (by (first | exact om_ec2623e552ae pq31 r32.1 | omega))
      have mx : MTx V29 Z b 202 := MTw.ob (o := Int32.toNatClampNeg (V9 3 13)) mt65 ajV29 (by decide) t20 (by omega) (by first | omega | ((try (have i_t8 := Imp.go t8 (imp_a (rgz4.1) (rgz4.2) (f14)))); omega) | ((try (have i_t25 := Imp.go t25 (by omega))); (try (have i_t24 := Imp.go t24 (by omega))); (try (have i_t8 := Imp.go t8 (by omega))); (try (have i_t7 := Imp.go t7 (by omega))); first | omega | ((try (have i_t7 := Imp.go t7 (by omega))); (try (have i_t8 := Imp.go t8 (by omega))); (try (have i_t24 := Imp.go t24 (by omega))); (try (have i_t25 := Imp.go t25 (by omega))); omega))) (by first | omega | ((try (have i_t8 := Imp.go t8 (imp_a (rgz4.1) (rgz4.2) (f14)))); omega) | ((try (have i_t25 := Imp.go t25 (by omega))); (try (have i_t24 := Imp.go t24 (by omega))); (try (have i_t8 := Imp.go t8 (by omega))); (try (have i_t7 := Imp.go t7 (by omega))); first | omega | ((try (have i_t7 := Imp.go t7 (by omega))); (try (have i_t8 := Imp.go t8 (by omega))); (try (have i_t24 := Imp.go t24 (by omega))); (try (have i_t25 := Imp.go t25 (by omega))); omega))) (Imp.go t23 (by (first | exact om_e3b1d6ac9ce8 rgz17.1 f35 | omega))) (by rw [Imp.go t26 (by omega)]; omega) (fun k hk => Or.elim (Imp.go t28 (by (first | exact om_e3b1d6ac9ce8 rgz17.1 f35 | omega)) k hk) Or.inl (fun z => Or.inr ⟨by obtain ⟨z1, z2⟩ := z; first | omega | ((try (have i_t8 := Imp.go t8 (imp_a (rgz4.1) (rgz4.2) (f14)))); omega) | ((try (have i_t25 := Imp.go t25 (by omega))); (try (have i_t24 := Imp.go t24 (by omega))); (try (have i_t8 := Imp.go t8 (by omega))); (try (have i_t7 := Imp.go t7 (by omega))); first | omega | ((try (have i_t7 := Imp.go t7 (by omega))); (try (have i_t8 := Imp.go t8 (by omega))); (try (have i_t24 := Imp.go t24 (by omega))); (try (have i_t25 := Imp.go t25 (by omega))); omega)), by obtain ⟨z1, z2⟩ := z; rw [Imp.go t26 (by omega)]; omega⟩))
      have me67 : ME V29 V46 f49 := (ME.tr ME.rf t50)
      have r68 : (-1) ≤ ((V46 71 f49)).toInt ∧ ((V46 71 f49)).toInt ≤ 23 := hMV46 71 f49
      have r69 : 0 ≤ ((V46 75 f49)).toInt ∧ ((V46 75 f49)).toInt ≤ 12 := hMV46 75 f49
      have r70 : 0 ≤ ((V46 80 f49)).toInt ∧ ((V46 80 f49)).toInt ≤ 300 := hMV46 80 f49
      have r71 : 0 ≤ ((V46 84 f49)).toInt ∧ ((V46 84 f49)).toInt ≤ 2147483647 := hMV46 84 f49
      have pq72 : (V46 5 8).toInt = ((V 5 8)).toInt := congrArg Int32.toInt ((ajV46 5 8 rfl).trans ((ajV29 5 8 rfl).trans (ajV9 5 8 rfl)))
      have r73 : 0 ≤ ((V 5 8)).toInt ∧ ((V 5 8)).toInt ≤ 300 := hMV 5 8
      have pq74 : (V46 3 13).toInt = ((V29 3 13)).toInt := congrArg Int32.toInt (ajV46 3 13 rfl)
      have pq75 : (V46 43 (5 * b + 2)).toInt = ((V 43 (5 * b + 2))).toInt := congrArg Int32.toInt ((ajV46 43 (5 * b + 2) rfl).trans ((ajV29 43 (5 * b + 2) rfl).trans (ajV9 43 (5 * b + 2) rfl)))
      have pq76 : (V46 42 b).toInt = ((V 42 b)).toInt := congrArg Int32.toInt ((ajV46 42 b rfl).trans ((ajV29 42 b rfl).trans (ajV9 42 b rfl)))
      have r77 : 0 ≤ ((V 42 b)).toInt ∧ ((V 42 b)).toInt ≤ 8200 := hMV 42 b
      have pq78 : (V46 41 b).toInt = ((V 41 b)).toInt := congrArg Int32.toInt ((ajV46 41 b rfl).trans ((ajV29 41 b rfl).trans (ajV9 41 b rfl)))
      have r79 : 0 ≤ ((V 41 b)).toInt ∧ ((V 41 b)).toInt ≤ 12 := hMV 41 b
      have rp80 : MJ V46 Z48 b := MTx.pu (v := False) mx (by omega) me67 t55.1 (by omega) t55.2 (FK.k1 (by omega) (by omega) (by first | omega | ((try (have i_t8 := Imp.go t8 (imp_a (rgz4.1) (rgz4.2) (f14)))); omega) | ((try (have i_t25 := Imp.go t25 (by omega))); (try (have i_t24 := Imp.go t24 (by omega))); (try (have i_t8 := Imp.go t8 (by omega))); (try (have i_t7 := Imp.go t7 (by omega))); first | omega | ((try (have i_t7 := Imp.go t7 (by omega))); (try (have i_t8 := Imp.go t8 (by omega))); (try (have i_t24 := Imp.go t24 (by omega))); (try (have i_t25 := Imp.go t25 (by omega))); omega))) (by omega) (by omega) (fun _ => ⟨by omega, fun _ => ⟨by omega, by omega⟩⟩)) (fun h => absurd h (by omega)) (by omega) (by omega)
      refine W.know (fun kr1 kr2 => ?_)
      refine W.widen (k := zcc Z) (n := zss Z) (Nat.sub_le _ _) (Nat.sub_le _ _) ?_
      exact W.vret hx hb hr (fun t ht hW => ⟨⟨(V46, L, Z48), rfl, ⟨hMV46, agV46, rfl, zoZ48, rp80⟩, ⟨by rw [ht]; exact hP, va_K.moved hW.alike hK, hD⟩, by rw [ht]; exact kr1, by rw [ht]; exact kr2⟩, hS.F ht⟩) hS.2.2 dX5_beginMaking_46
    · skip
      have f81 : z17.toInt = (-1) := b_eq rfl (by decide) c34
      have meb : ∀ n, ME V9 V29 n := fun n => by rw [Imp.go t27 (by omega)]; exact ME.rf
      refine lv_aload_n hx hb dX5_beginMaking_27 rfl (lv_at hl 1 rfl) ?_
      refine lv_iconst (v := 0) hx hb dX5_beginMaking_28 (by decide) ?_
      refine lv_bipush (v := 16) hx hb dX5_beginMaking_29 (by decide) ?_
      have r82 : Int32.toInt 0 = 0 := by decide
      have r83 : Int32.toInt 16 = 16 := by decide
      refine gA_void (gA_runV (As := [.int 0, .int 16]) (rest := []) (ci := 5) (q0 := 5) hx hb hml hown hg hP hD hK hS hA hnw hgk (x_failWith l D ks H.size ad kk V29 L Z 0 16 hMV29 ) w1261 w1263 w46 w171 w1264 rfl xgMachine hdV_yX5_failWith ⟨Nat.le_of_ble_eq_true rfl, Nat.le_of_ble_eq_true rfl⟩ rfl hl.1 rfl (Nat.le_of_ble_eq_true rfl) dX5_beginMaking_31 ⟨z0, z0⟩) hP hD hK hS hA (fun u85 H locs w86 hP hD hK hS => ?_)
      obtain ⟨V88, L89⟩ := u85
      obtain ⟨hMV88, ajV88, axL89, t87⟩ := w86
      have axL89 : L = L89 := Eq.symm axL89
      subst axL89
      have hP : va_P D vwCl (xw ad kk V88 L Z) H := hP
      have hD : va_D A (xw ad kk V88 L Z) := hD
      have hMV88 : rgd bX V88 := hMV88
      have ajV88 : agr [(5, 9), (5, 11), (5, 12)] [] V29 V88 := ajV88
      have agV88 : agr [(3, 13), (5, 6), (5, 9), (5, 11), (5, 12), (5, 13), (5, 14)] [25, 26, 27, 28, 30, 67, 68, 69, 70, 71, 72, 73, 74, 75, 76, 77, 78, 79, 80, 81, 82, 83, 84, 85] V V88 := agV29.tr ajV88 (by decide) (by decide)
      have t87 : (V88 5 9).toInt = 2 := t87
      have r90 : 0 ≤ ((V88 5 9)).toInt ∧ ((V88 5 9)).toInt ≤ 3 := hMV88 5 9
      have me91 : ME V V88 400 := (ME.tr (ME.tr (ME.tr ME.rf (ME.ag ajV9 (by decide))) (meb _)) (ME.ag ajV88 (by decide)))
      have mt92 : MTw V88 Z b := MTw.me mt me91 ((ajV88 5 6 rfl).trans ((ajV29 5 6 rfl).trans (ajV9 5 6 rfl)))
      have rp93 : MJ V88 Z b := MTw.mj mt92 (fun q => absurd q.1 (by first | omega | ((try (have i_t25 := Imp.go t25 (f81))); (try (have i_t8 := Imp.go t8 (imp_a (rgz4.1) (rgz4.2) (f14)))); omega) | ((try (have i_t25 := Imp.go t25 (by omega))); (try (have i_t24 := Imp.go t24 (by omega))); (try (have i_t8 := Imp.go t8 (by omega))); (try (have i_t7 := Imp.go t7 (by omega))); first | omega | ((try (have i_t7 := Imp.go t7 (by omega))); (try (have i_t8 := Imp.go t8 (by omega))); (try (have i_t24 := Imp.go t24 (by omega))); (try (have i_t25 := Imp.go t25 (by omega))); omega))))
      refine W.know (fun kr1 kr2 => ?_)
      refine W.widen (k := zcc Z) (n := zss Z) (Nat.sub_le _ _) (Nat.sub_le _ _) ?_
      exact W.vret hx hb hr (fun t ht hW => ⟨⟨(V88, L, Z), rfl, ⟨hMV88, agV88, rfl, zoZ, rp93⟩, ⟨by rw [ht]; exact hP, va_K.moved hW.alike hK, hD⟩, by rw [ht]; exact kr1, by rw [ht]; exact kr2⟩, hS.F ht⟩) hS.2.2 dX5_beginMaking_34
  · skip
    have f94 : z4.toInt = 0 := b_eq rfl (by decide) c13
    have me95 : ME V V9 400 := (ME.tr ME.rf (ME.ag ajV9 (by decide)))
    have mt96 : MTw V9 Z b := MTw.me mt me95 (ajV9 5 6 rfl)
    have rp97 : MJ V9 Z b := MTw.mj mt96 (fun q => absurd q.1 (by first | omega | ((try (have i_t8 := Imp.go t8 (by omega))); (try (have i_t7 := Imp.go t7 (by omega))); (try (have i_t7 := Imp.go t7 (by omega))); (try (have i_t8 := Imp.go t8 (by omega))); omega)))
    refine W.know (fun kr1 kr2 => ?_)
    refine W.widen (k := zcc Z) (n := zss Z) (Nat.sub_le _ _) (Nat.sub_le _ _) ?_
    exact W.vret hx hb hr (fun t ht hW => ⟨⟨(V9, L, Z), rfl, ⟨hMV9, agV9, rfl, zoZ, rp97⟩, ⟨by rw [ht]; exact hP, va_K.moved hW.alike hK, hD⟩, by rw [ht]; exact kr1, by rw [ht]; exact kr2⟩, hS.F ht⟩) hS.2.2 dX5_beginMaking_7
abbrev r_x_seek (Z : XZ) : Room := { frames := 4, cells := zcc Z, slots := zss Z, locals := 95 }
abbrev q_x_seek (D : va_G) (ks : KS) (ad : Nat → Nat) (kk : Nat → ClassId) (V : Vf) (L : Lf) (Z : XZ) (p0 : Int32) (p1 : Int32) (p2 : Int32) (b : Nat) (A : Nat → Prop) : Array Value → State → Outcome → State → Prop := qZv D (fun (u : Vf × Lf × XZ) => rgd bX u.1 ∧ agr [(3, 13), (5, 6), (5, 9), (5, 10), (5, 11), (5, 12), (5, 13), (5, 14)] [25, 26, 27, 28, 30, 67, 68, 69, 70, 71, 72, 73, 74, 75, 76, 77, 78, 79, 80, 81, 82, 83, 84, 85] V u.1 ∧ u.2.1 = L ∧ ZL Z u.2.2 ∧ (MJ u.1 u.2.2 b)) (fun u => xw ad kk u.1 u.2.1 u.2.2) (fun u => xty kk u.2.2) (fun u => zcc Z - zcc u.2.2) (fun u => zss Z - zss u.2.2) A
set_option maxHeartbeats 4000000 in
set_option maxRecDepth 100000 in
theorem x_seek (l : Launch) (D : va_G) (ks : KS) (sz : Nat) (ad : Nat → Nat) (kk : Nat → ClassId) (V : Vf) (L : Lf) (Z : XZ) (p0 : Int32) (p1 : Int32) (p2 : Int32) (b : Nat) (hMV : rgd bX V) (rg_p0 : (-1) ≤ p0.toInt ∧ p0.toInt ≤ 24) (rg_p1 : 0 ≤ p1.toInt ∧ p1.toInt ≤ 39) (hb2 : b < 2) (mt : MTw V Z b)  : Met l yX5_seek (Cond.code yX5_seek cX5_seek 7 none :: GW) (r_x_seek Z) (va_Pc [.ref (ad 5), .int p0, .int p1, .int p2] (gp D ks (xw ad kk V L Z) (xty kk Z) sz)) (q_x_seek D ks ad kk V L Z p0 p1 p2 b (va_A (xw ad kk V L Z) sz)) (zcc Z) (zss Z) (va_A (xw ad kk V L Z) sz) := by
  refine g_met (q_x_seek D ks ad kk V L Z p0 p1 p2 b) (by decide) (Nat.le_of_ble_eq_true rfl) ?_
  intro p e s m below meth c A ls H locs hx hb hr hml hown hg hlocks hin hnw hgk hP hK hD hS hA hl
  have hown : s.vm.findClass RX5 = some m.cls := hown
  have hl : lv_has ls 7 [(0, .ref (ad 5)), (1, .int p0), (2, .int p1), (3, .int p2)] := hl
  have hP : va_P D vwCl (xw ad kk V L Z) H := hP
  have hD : va_D A (xw ad kk V L Z) := hD
  have hK : va_K D vwCl (xty kk Z) s := hK
  have agV : agr [(3, 13), (5, 6), (5, 9), (5, 10), (5, 11), (5, 12), (5, 13), (5, 14)] [25, 26, 27, 28, 30, 67, 68, 69, 70, 71, 72, 73, 74, 75, 76, 77, 78, 79, 80, 81, 82, 83, 84, 85] V V := agr.rf
  have zoZ : ZL Z Z := ZL.rf
  refine W.know (fun ka kb => ?_)
  refine W.tight (k := zcc Z - zcc Z) (n := zss Z - zss Z) (by omega) (by omega) ?_
  have r1 : 0 ≤ ((V 5 6)).toInt ∧ ((V 5 6)).toInt ≤ 400 := hMV 5 6
  have kdp := i_clamp (x := V 5 6) rfl (by (first | exact om_eafa9039069c r1.1 | omega))
  have hdn := MTw.dn mt (by (first | exact om_eafa9039069c r1.1 | omega))
  have mup := MTw.up mt
  have msz := mup.1
  have mbk := mup.2.2.2.1
  refine lv_aload_n hx hb dX5_seek_0 rfl (lv_at hl 0 rfl) ?_
  refine va_get (D := D) (ci := 5) (v := .ref (ad (38 + Int32.toNatClampNeg (V 5 5)))) (fs := (xfMachine ad V L Z)) (C := RX5) (T := TX5) (N := 15) hx hb hg inX5 hown hK hP 5 xgMachine rfl 5 (by decide) (hg _ w672) (fun _ h9 => h9) rfl dX5_seek_1 ?_
  have r2 : 0 ≤ ((V 5 5)).toInt ∧ ((V 5 5)).toInt ≤ 1 := hMV 5 5
  refine g_topv (v := .ref (ad (38 + b))) (rfP (by omega)) ?_
  refine lv_iload_n hx hb dX5_seek_4 rfl (lv_at hl 1 rfl) ?_
  refine gA_int (gA_runV (As := [.int p0]) (rest := []) (ci := 0) (q0 := (38 + b)) hx hb hml hown hg hP hD hK hS hA hnw hgk (x_bhas l D ks H.size ad kk V L Z p0 (b) hMV (show b < 2 from by (first | exact om_f940a4667dd6 hb2 | omega))) w1260 w1138 w1139 w167 w1140 rfl (xgBook hb2) hdV_yX0_has ⟨Nat.le_of_ble_eq_true rfl, Nat.le_of_ble_eq_true rfl⟩ rfl hl.1 rfl (Nat.le_of_ble_eq_true rfl) dX5_seek_5 ⟨z0, z0⟩) hP hD hK hS hA (fun z3 u4 H locs w5 hP hD hK hS => ?_)
  obtain ⟨rgz3, t6⟩ := w5
  have rgz3 : 0 ≤ z3.toInt ∧ z3.toInt ≤ 1 := rgz3
  have t6 : Imp (z3.toInt = 1) (0 ≤ p0.toInt ∧ p0.toInt < (V 43 (5 * b + 2)).toInt) := t6
  refine lv_if_ne (tgt := 19) hx hb dX5_seek_8 (by decide) (fun c7 => ?_) (fun c7 => ?_)
  · skip
    have f8 : z3.toInt ≠ 0 := b_neq rfl (by decide) c7
    have rh9 := Imp.go t6 (by (first | exact om_2ebe32d50835 rgz3.1 rgz3.2 f8 | omega))
    have r10 : 0 ≤ ((V 43 (5 * b + 2))).toInt ∧ ((V 43 (5 * b + 2))).toInt ≤ ((xcap (5 * b + 2) : Nat) : Int) := hMV 43 (5 * b + 2)
    have r11 : xcap (5 * b + 2) = 24 := xcap_2
    refine lv_aload_n hx hb dX5_seek_19 rfl (lv_at hl 0 rfl) ?_
    refine va_get (D := D) (ci := 5) (v := .ref (ad (38 + Int32.toNatClampNeg (V 5 5)))) (fs := (xfMachine ad V L Z)) (C := RX5) (T := TX5) (N := 15) hx hb hg inX5 hown hK hP 5 xgMachine rfl 5 (by decide) (hg _ w672) (fun _ h9 => h9) rfl dX5_seek_20 ?_
    refine g_topv (v := .ref (ad (38 + b))) (rfP (by first | omega | ((try (have i_t6 := Imp.go t6 (by omega))); omega))) ?_
    refine va_getN (D := D) (ci := 0) (v := .ref (ad (64 + b))) (fs := (xfBook ad V b)) (C := RX0) (T := TX0) (N := 13) hx hb hg inX0 hown hK hP (38 + b) (xgBook hb2) rfl 7 (by decide) (hnw.use 618 n618 rfl) (fun _ h9 => h9) rfl dX5_seek_23 ?_
    refine lv_iload_n hx hb dX5_seek_26 rfl (lv_at hl 1 rfl) ?_
    have il12 : b < 2 := by first | exact om_f940a4667dd6 hb2 | first | omega | ((try (have i_t6 := Imp.go t6 (by omega))); omega)
    refine va_aldq (D := D) (i := p0) hx hb hK hP (64 + b) (57 + b) (xgcomps il12) (xtcomps il12) (i_in (a := p0.toInt) rfl (by first | exact om_9f35ed8d252f rh9.1 r10.2 r11 ((Imp.go t6 (imp_a (rgz3.1) (rgz3.2) (f8))).2) | first | omega | ((try (have i_t6 := Imp.go t6 (by omega))); omega))) dX5_seek_27 ?_
    have kc13 := i_clamp (x := p0) rfl (by first | exact om_eafa9039069c ((Imp.go t6 (imp_a (rgz3.1) (rgz3.2) (f8))).1) | first | omega | ((try (have i_t6 := Imp.go t6 (by omega))); omega))
    refine g_topv (v := .ref (ad (72 + (24 * b + (Int32.toNatClampNeg p0))))) (congrArg va_rf (if_pos (by first | omega | ((try (have i_t6 := Imp.go t6 (by omega))); omega)))) ?_
    have il14 : (24 * b + (Int32.toNatClampNeg p0)) < 48 := by first | exact om_4f3e21c63296 hb2 r10.2 r11 kc13 ((Imp.go t6 (imp_a (rgz3.1) (rgz3.2) (f8))).2) | first | omega | ((try (have i_t6 := Imp.go t6 (by omega))); omega)
    refine va_getN (D := D) (ci := 3) (v := .int (V 51 (24 * b + (Int32.toNatClampNeg p0)))) (fs := (xfComp ad V (24 * b + (Int32.toNatClampNeg p0)))) (C := RX3) (T := TX3) (N := 13) hx hb hg inX3 hown hK hP (72 + (24 * b + (Int32.toNatClampNeg p0))) (xgComp il14) rfl 6 (by decide) (hnw.use 522 n522 rfl) (fun _ h9 => h9) rfl dX5_seek_28 ?_
    have r15 : 0 ≤ ((V 51 (24 * b + (Int32.toNatClampNeg p0)))).toInt ∧ ((V 51 (24 * b + (Int32.toNatClampNeg p0)))).toInt ≤ 3 := hMV 51 (24 * b + (Int32.toNatClampNeg p0))
    refine lv_iconst (v := 3) hx hb dX5_seek_31 (by decide) ?_
    refine lv_icmp_eq (tgt := 39) hx hb dX5_seek_32 (by decide) (fun c16 => ?_) (fun c16 => ?_)
    · skip
      have f17 : ((V 51 (24 * b + (Int32.toNatClampNeg p0)))).toInt = 3 := b_eq rfl (by decide) c16
      refine lv_iconst (v := 0) hx hb dX5_seek_39 (by decide) ?_
      refine lv_istore (lv' := [(4, .int 0), (0, .ref (ad 5)), (1, .int p0), (2, .int p1), (3, .int p2)]) hx hb dX5_seek_40 hl (by decide) rfl (fun ls hl => ?_)
      refine lv_aload_n hx hb dX5_seek_42 rfl (lv_at hl 1 rfl) ?_
      refine va_get (D := D) (ci := 5) (v := .ref (ad 3)) (fs := (xfMachine ad V L Z)) (C := RX5) (T := TX5) (N := 15) hx hb hg inX5 hown hK hP 5 xgMachine rfl 0 (by decide) (hg _ w667) (fun _ h9 => h9) rfl dX5_seek_43 ?_
      refine lv_aload_n hx hb dX5_seek_46 rfl (lv_at hl 1 rfl) ?_
      refine va_get (D := D) (ci := 5) (v := .ref (ad (38 + Int32.toNatClampNeg (V 5 5)))) (fs := (xfMachine ad V L Z)) (C := RX5) (T := TX5) (N := 15) hx hb hg inX5 hown hK hP 5 xgMachine rfl 5 (by decide) (hg _ w672) (fun _ h9 => h9) rfl dX5_seek_47 ?_
      refine g_topv (v := .ref (ad (38 + b))) (rfP (by first | omega | ((try (have i_t6 := Imp.go t6 (by omega))); omega))) ?_
      refine va_getN (D := D) (ci := 0) (v := .ref (ad (64 + b))) (fs := (xfBook ad V b)) (C := RX0) (T := TX0) (N := 13) hx hb hg inX0 hown hK hP (38 + b) (xgBook hb2) rfl 7 (by decide) (hnw.use 618 n618 rfl) (fun _ h9 => h9) rfl dX5_seek_50 ?_
      refine lv_iload_n hx hb dX5_seek_53 rfl (lv_at hl 2 rfl) ?_
      refine va_aldq (D := D) (i := p0) hx hb hK hP (64 + b) (57 + b) (xgcomps il12) (xtcomps il12) (i_in (a := p0.toInt) rfl (by first | exact om_9f35ed8d252f rh9.1 r10.2 r11 ((Imp.go t6 (imp_a (rgz3.1) (rgz3.2) (f8))).2) | first | omega | ((try (have i_t6 := Imp.go t6 (by omega))); omega))) dX5_seek_54 ?_
      refine g_topv (v := .ref (ad (72 + (24 * b + (Int32.toNatClampNeg p0))))) (congrArg va_rf (if_pos (by first | omega | ((try (have i_t6 := Imp.go t6 (by omega))); omega)))) ?_
      refine va_getN (D := D) (ci := 3) (v := .int (V 51 (24 * b + (Int32.toNatClampNeg p0)))) (fs := (xfComp ad V (24 * b + (Int32.toNatClampNeg p0)))) (C := RX3) (T := TX3) (N := 13) hx hb hg inX3 hown hK hP (72 + (24 * b + (Int32.toNatClampNeg p0))) (xgComp il14) rfl 6 (by decide) (hnw.use 522 n522 rfl) (fun _ h9 => h9) rfl dX5_seek_55 ?_
      refine lv_iload_n hx hb dX5_seek_58 rfl (lv_at hl 3 rfl) ?_
      refine gA_int (gA_runV (As := [.int (V 51 (24 * b + (Int32.toNatClampNeg p0))), .int p1]) (rest := []) (ci := 8) (q0 := 3) hx hb hml hown hg hP hD hK hS hA hnw hgk (x_placeOf l D ks H.size ad kk V L Z (V 51 (24 * b + (Int32.toNatClampNeg p0))) p1 hMV (by first | exact om_13ba01c174fe rg_p1.1 rg_p1.2 | first | omega | ((try (have i_t6 := Imp.go t6 (by omega))); omega))) w1265 w1266 w1267 w164 w1268 rfl xgStock hdV_yX8_placeOf ⟨Nat.le_of_ble_eq_true rfl, Nat.le_of_ble_eq_true rfl⟩ rfl hl.1 rfl (Nat.le_of_ble_eq_true rfl) dX5_seek_59 ⟨z0, z0⟩) hP hD hK hS hA (fun z18 u19 H locs w20 hP hD hK hS => ?_)
      have rgz18 := w20
      have rgz18 : (-1) ≤ z18.toInt ∧ z18.toInt ≤ 39 := rgz18
      refine lv_istore (lv' := [(5, .int z18), (4, .int 0), (0, .ref (ad 5)), (1, .int p0), (2, .int p1), (3, .int p2)]) hx hb dX5_seek_62 hl (by decide) rfl (fun ls hl => ?_)
      refine lv_iload hx hb dX5_seek_64 (lv_at hl 0 rfl) ?_
      refine lv_iconst (v := (-1)) hx hb dX5_seek_66 (by decide) ?_
      refine lv_icmp_ne (tgt := 78) hx hb dX5_seek_67 (by decide) (fun c21 => ?_) (fun c21 => ?_)
      · skip
        have f22 : z18.toInt ≠ (-1) := b_neq rfl (by decide) c21
        refine lv_aload_n hx hb dX5_seek_78 rfl (lv_at hl 2 rfl) ?_
        refine va_get (D := D) (ci := 5) (v := .ref (ad 3)) (fs := (xfMachine ad V L Z)) (C := RX5) (T := TX5) (N := 15) hx hb hg inX5 hown hK hP 5 xgMachine rfl 0 (by decide) (hg _ w667) (fun _ h9 => h9) rfl dX5_seek_79 ?_
        refine lv_iload hx hb dX5_seek_82 (lv_at hl 0 rfl) ?_
        refine lv_iload_n hx hb dX5_seek_84 rfl (lv_at hl 3 rfl) ?_
        refine gA_int (gA_runV (As := [.int z18, .int p0]) (rest := []) (ci := 8) (q0 := 3) hx hb hml hown hg hP hD hK hS hA hnw hgk (x_isSpoiled l D ks H.size ad kk V L Z z18 p0 hMV (by first | exact om_8305e47bdc88 rgz18.1 rgz18.2 f22 | first | omega | ((try (have i_t6 := Imp.go t6 (by omega))); omega))) w1269 w1270 w1271 w164 w1272 rfl xgStock hdV_yX8_isSpoiled ⟨Nat.le_of_ble_eq_true rfl, Nat.le_of_ble_eq_true rfl⟩ rfl hl.1 rfl (Nat.le_of_ble_eq_true rfl) dX5_seek_85 ⟨z0, z0⟩) hP hD hK hS hA (fun z23 u24 H locs w25 hP hD hK hS => ?_)
        have rgz23 := w25
        have rgz23 : 0 ≤ z23.toInt ∧ z23.toInt ≤ 1 := rgz23
        refine lv_if_eq (tgt := 99) hx hb dX5_seek_88 (by decide) (fun c26 => ?_) (fun c26 => ?_)
        · skip
          have f27 : z23.toInt = 0 := b_eq rfl (by decide) c26
          refine lv_iload hx hb dX5_seek_99 (lv_at hl 1 rfl) ?_
          refine lv_if_eq (tgt := 117) hx hb dX5_seek_101 (by decide) (fun _ => ?_) (fun q => absurd (by decide) q)
          refine lv_iconst (v := (-1)) hx hb dX5_seek_117 (by decide) ?_
          refine lv_istore (lv' := [(6, .int (-1)), (5, .int z18), (4, .int 0), (0, .ref (ad 5)), (1, .int p0), (2, .int p1), (3, .int p2)]) hx hb dX5_seek_118 hl (by decide) rfl (fun ls hl => ?_)
          refine lv_iload hx hb dX5_seek_120 (lv_at hl 0 rfl) ?_
          refine lv_iconst (v := (-1)) hx hb dX5_seek_122 (by decide) ?_
          refine lv_icmp_ne (tgt := 139) hx hb dX5_seek_123 (by decide) (fun q => absurd rfl q) (fun _ => ?_)
          refine lv_aload_n hx hb dX5_seek_126 rfl (lv_at hl 3 rfl) ?_
          refine lv_iload_n hx hb dX5_seek_127 rfl (lv_at hl 4 rfl) ?_
          refine lv_iload hx hb dX5_seek_128 (lv_at hl 1 rfl) ?_
          refine lv_iload_n hx hb dX5_seek_130 rfl (lv_at hl 6 rfl) ?_
          refine lv_iload hx hb dX5_seek_131 (lv_at hl 2 rfl) ?_
          have r28 : Int32.toInt 0 = 0 := by decide
          refine W.know (fun k30 k31 => ?_)
          obtain ⟨Hk29, hHk29⟩ : ∃ z, z = H := ⟨_, rfl⟩
          have k30 : Hk29.size ≤ s.heap.size + (zcc Z - zcc Z) := by rw [hHk29]; exact k30
          have k31 : tot Hk29 ≤ tot s.heap + (zss Z - zss Z) := by rw [hHk29]; exact k31
          refine gZ_void (gA_runV (As := [.int p0, .int z18, .int p2, .int 0]) (rest := []) (ci := 5) (q0 := 5) hx hb hml hown hg hP hD hK hS hA hnw hgk (x_beginMaking l D ks H.size ad kk V L Z p0 z18 p2 0 (b) hMV (by first | exact om_bf3d98df3a8e r10.2 r11 ((Imp.go t6 (imp_a (rgz3.1) (rgz3.2) (f8))).1) ((Imp.go t6 (imp_a (rgz3.1) (rgz3.2) (f8))).2) | first | omega | ((try (have i_t6 := Imp.go t6 (by omega))); omega)) (by first | exact om_8305e47bdc88 rgz18.1 rgz18.2 f22 | first | omega | ((try (have i_t6 := Imp.go t6 (by omega))); omega)) (by decide) (show b < 2 from by first | exact om_f940a4667dd6 hb2 | first | omega | ((try (have i_t6 := Imp.go t6 (by omega))); omega)) mt (show p0.toInt < (V 43 (5 * b + 2)).toInt from by first | exact om_0e9116797efb ((Imp.go t6 (imp_a (rgz3.1) (rgz3.2) (f8))).2) | first | omega | ((try (have i_t6 := Imp.go t6 (by omega))); omega))) w1277 w1279 w47 w171 w1280 rfl xgMachine hdV_yX5_beginMaking ⟨Nat.le_of_ble_eq_true rfl, Nat.le_of_ble_eq_true rfl⟩ rfl hl.1 rfl (Nat.le_of_ble_eq_true rfl) dX5_seek_133 ⟨z1 zoZ.1, z1 zoZ.2.1⟩) hD hS hA (fun u33 H locs w34 hP hD hK hS y35 y36 => ?_)
          obtain ⟨V37, L38, Z39⟩ := u33
          obtain ⟨hMV37, ajV37, axL38, zlZ39, t41⟩ := w34
          have axL38 : L = L38 := Eq.symm axL38
          subst axL38
          have hP : va_P D vwCl (xw ad kk V37 L Z39) H := hP
          have hD : va_D A (xw ad kk V37 L Z39) := hD
          have hK : va_K D vwCl (xty kk Z39) s := hK
          have hMV37 : rgd bX V37 := hMV37
          have ajV37 : agr [(3, 13), (5, 6), (5, 9), (5, 11), (5, 12), (5, 13), (5, 14)] [25, 26, 27, 28, 30, 67, 68, 69, 70, 71, 72, 73, 74, 75, 76, 77, 78, 79, 80, 81, 82, 83, 84, 85] V V37 := ajV37
          have agV37 : agr [(3, 13), (5, 6), (5, 9), (5, 10), (5, 11), (5, 12), (5, 13), (5, 14)] [25, 26, 27, 28, 30, 67, 68, 69, 70, 71, 72, 73, 74, 75, 76, 77, 78, 79, 80, 81, 82, 83, 84, 85] V V37 := agV.tr ajV37 (by decide) (by decide)
          have zlZ39 : ZL Z Z39 := zlZ39
          have zoZ39 : ZL Z Z39 := ZL.tr zoZ zlZ39
          have ziZ39 := zlZ39.1
          have zjZ39 := zlZ39.2.1
          have zkZ39 := zlZ39.2.2.1
          have zmZ39 := zoZ39.1
          have znZ39 := zoZ39.2.1
          have zpZ_Z39 := zoZ.1
          have zqZ_Z39 := zoZ.2.1
          have y35 : H.size ≤ Hk29.size + (zcc Z - zcc Z39) := by rw [hHk29]; exact y35
          have y36 : tot H ≤ tot Hk29 + (zss Z - zss Z39) := by rw [hHk29]; exact y36
          refine W.tight (k := zcc Z - zcc Z39) (n := zss Z - zss Z39) (by first | exact tg9 y35 k30 zlZ39.1 zoZ.1 | omega) (by first | exact tg9 y36 k31 zlZ39.2.1 zoZ.2.1 | omega) ?_
          have t41 : MJ V37 Z39 b := t41
          refine lv_goto (tgt := 167) hx hb dX5_seek_136 (by decide) ?_
          refine W.know (fun kr1 kr2 => ?_)
          refine W.widen (k := zcc Z) (n := zss Z) (Nat.sub_le _ _) (Nat.sub_le _ _) ?_
          exact W.vret hx hb hr (fun t ht hW => ⟨⟨(V37, L, Z39), rfl, ⟨hMV37, agV37, rfl, zoZ39, t41⟩, ⟨by rw [ht]; exact hP, va_K.moved hW.alike hK, hD⟩, by rw [ht]; exact kr1, by rw [ht]; exact kr2⟩, hS.F ht⟩) hS.2.2 dX5_seek_167
        · skip
          have f42 : z23.toInt ≠ 0 := b_neq rfl (by decide) c26
          refine lv_aload_n hx hb dX5_seek_91 rfl (lv_at hl 2 rfl) ?_
          refine lv_iconst (v := 0) hx hb dX5_seek_92 (by decide) ?_
          refine lv_bipush (v := 15) hx hb dX5_seek_93 (by decide) ?_
          have r43 : Int32.toInt 0 = 0 := by decide
          have r44 : Int32.toInt 15 = 15 := by decide
          refine gA_void (gA_runV (As := [.int 0, .int 15]) (rest := []) (ci := 5) (q0 := 5) hx hb hml hown hg hP hD hK hS hA hnw hgk (x_failWith l D ks H.size ad kk V L Z 0 15 hMV ) w1261 w1263 w46 w171 w1264 rfl xgMachine hdV_yX5_failWith ⟨Nat.le_of_ble_eq_true rfl, Nat.le_of_ble_eq_true rfl⟩ rfl hl.1 rfl (Nat.le_of_ble_eq_true rfl) dX5_seek_95 ⟨z0, z0⟩) hP hD hK hS hA (fun u46 H locs w47 hP hD hK hS => ?_)
          obtain ⟨V49, L50⟩ := u46
          obtain ⟨hMV49, ajV49, axL50, t48⟩ := w47
          have axL50 : L = L50 := Eq.symm axL50
          subst axL50
          have hP : va_P D vwCl (xw ad kk V49 L Z) H := hP
          have hD : va_D A (xw ad kk V49 L Z) := hD
          have hMV49 : rgd bX V49 := hMV49
          have ajV49 : agr [(5, 9), (5, 11), (5, 12)] [] V V49 := ajV49
          have agV49 : agr [(3, 13), (5, 6), (5, 9), (5, 10), (5, 11), (5, 12), (5, 13), (5, 14)] [25, 26, 27, 28, 30, 67, 68, 69, 70, 71, 72, 73, 74, 75, 76, 77, 78, 79, 80, 81, 82, 83, 84, 85] V V49 := agV.tr ajV49 (by decide) (by decide)
          have t48 : (V49 5 9).toInt = 2 := t48
          have r51 : 0 ≤ ((V49 5 9)).toInt ∧ ((V49 5 9)).toInt ≤ 3 := hMV49 5 9
          have me52 : ME V V49 400 := (ME.tr ME.rf (ME.ag ajV49 (by decide)))
          have mt53 : MTw V49 Z b := MTw.me mt me52 (ajV49 5 6 rfl)
          have rp54 : MJ V49 Z b := MTw.mj mt53 (fun q => absurd q.1 (by omega))
          refine W.know (fun kr1 kr2 => ?_)
          refine W.widen (k := zcc Z) (n := zss Z) (Nat.sub_le _ _) (Nat.sub_le _ _) ?_
          exact W.vret hx hb hr (fun t ht hW => ⟨⟨(V49, L, Z), rfl, ⟨hMV49, agV49, rfl, zoZ, rp54⟩, ⟨by rw [ht]; exact hP, va_K.moved hW.alike hK, hD⟩, by rw [ht]; exact kr1, by rw [ht]; exact kr2⟩, hS.F ht⟩) hS.2.2 dX5_seek_98
      · skip
        have f55 : z18.toInt = (-1) := b_eq rfl (by decide) c21
        refine lv_aload_n hx hb dX5_seek_70 rfl (lv_at hl 2 rfl) ?_
        refine lv_iconst (v := 0) hx hb dX5_seek_71 (by decide) ?_
        refine lv_bipush (v := 14) hx hb dX5_seek_72 (by decide) ?_
        have r56 : Int32.toInt 0 = 0 := by decide
        have r57 : Int32.toInt 14 = 14 := by decide
        refine gA_void (gA_runV (As := [.int 0, .int 14]) (rest := []) (ci := 5) (q0 := 5) hx hb hml hown hg hP hD hK hS hA hnw hgk (x_failWith l D ks H.size ad kk V L Z 0 14 hMV ) w1261 w1263 w46 w171 w1264 rfl xgMachine hdV_yX5_failWith ⟨Nat.le_of_ble_eq_true rfl, Nat.le_of_ble_eq_true rfl⟩ rfl hl.1 rfl (Nat.le_of_ble_eq_true rfl) dX5_seek_74 ⟨z0, z0⟩) hP hD hK hS hA (fun u59 H locs w60 hP hD hK hS => ?_)
        obtain ⟨V62, L63⟩ := u59
        obtain ⟨hMV62, ajV62, axL63, t61⟩ := w60
        have axL63 : L = L63 := Eq.symm axL63
        subst axL63
        have hP : va_P D vwCl (xw ad kk V62 L Z) H := hP
        have hD : va_D A (xw ad kk V62 L Z) := hD
        have hMV62 : rgd bX V62 := hMV62
        have ajV62 : agr [(5, 9), (5, 11), (5, 12)] [] V V62 := ajV62
        have agV62 : agr [(3, 13), (5, 6), (5, 9), (5, 10), (5, 11), (5, 12), (5, 13), (5, 14)] [25, 26, 27, 28, 30, 67, 68, 69, 70, 71, 72, 73, 74, 75, 76, 77, 78, 79, 80, 81, 82, 83, 84, 85] V V62 := agV.tr ajV62 (by decide) (by decide)
        have t61 : (V62 5 9).toInt = 2 := t61
        have r64 : 0 ≤ ((V62 5 9)).toInt ∧ ((V62 5 9)).toInt ≤ 3 := hMV62 5 9
        have me65 : ME V V62 400 := (ME.tr ME.rf (ME.ag ajV62 (by decide)))
        have mt66 : MTw V62 Z b := MTw.me mt me65 (ajV62 5 6 rfl)
        have rp67 : MJ V62 Z b := MTw.mj mt66 (fun q => absurd q.1 (by omega))
        refine W.know (fun kr1 kr2 => ?_)
        refine W.widen (k := zcc Z) (n := zss Z) (Nat.sub_le _ _) (Nat.sub_le _ _) ?_
        exact W.vret hx hb hr (fun t ht hW => ⟨⟨(V62, L, Z), rfl, ⟨hMV62, agV62, rfl, zoZ, rp67⟩, ⟨by rw [ht]; exact hP, va_K.moved hW.alike hK, hD⟩, by rw [ht]; exact kr1, by rw [ht]; exact kr2⟩, hS.F ht⟩) hS.2.2 dX5_seek_77
    · skip
      have f68 : ((V 51 (24 * b + (Int32.toNatClampNeg p0)))).toInt ≠ 3 := b_neq rfl (by decide) c16
      refine lv_iconst (v := 1) hx hb dX5_seek_35 (by decide) ?_
      refine lv_goto (tgt := 40) hx hb dX5_seek_36 (by decide) ?_
      refine lv_istore (lv' := [(4, .int 1), (0, .ref (ad 5)), (1, .int p0), (2, .int p1), (3, .int p2)]) hx hb dX5_seek_40 hl (by decide) rfl (fun ls hl => ?_)
      refine lv_aload_n hx hb dX5_seek_42 rfl (lv_at hl 1 rfl) ?_
      refine va_get (D := D) (ci := 5) (v := .ref (ad 3)) (fs := (xfMachine ad V L Z)) (C := RX5) (T := TX5) (N := 15) hx hb hg inX5 hown hK hP 5 xgMachine rfl 0 (by decide) (hg _ w667) (fun _ h9 => h9) rfl dX5_seek_43 ?_
      refine lv_aload_n hx hb dX5_seek_46 rfl (lv_at hl 1 rfl) ?_
      refine va_get (D := D) (ci := 5) (v := .ref (ad (38 + Int32.toNatClampNeg (V 5 5)))) (fs := (xfMachine ad V L Z)) (C := RX5) (T := TX5) (N := 15) hx hb hg inX5 hown hK hP 5 xgMachine rfl 5 (by decide) (hg _ w672) (fun _ h9 => h9) rfl dX5_seek_47 ?_
      refine g_topv (v := .ref (ad (38 + b))) (rfP (by first | omega | ((try (have i_t6 := Imp.go t6 (by omega))); omega))) ?_
      refine va_getN (D := D) (ci := 0) (v := .ref (ad (64 + b))) (fs := (xfBook ad V b)) (C := RX0) (T := TX0) (N := 13) hx hb hg inX0 hown hK hP (38 + b) (xgBook hb2) rfl 7 (by decide) (hnw.use 618 n618 rfl) (fun _ h9 => h9) rfl dX5_seek_50 ?_
      refine lv_iload_n hx hb dX5_seek_53 rfl (lv_at hl 2 rfl) ?_
      refine va_aldq (D := D) (i := p0) hx hb hK hP (64 + b) (57 + b) (xgcomps il12) (xtcomps il12) (i_in (a := p0.toInt) rfl (by first | exact om_9f35ed8d252f rh9.1 r10.2 r11 ((Imp.go t6 (imp_a (rgz3.1) (rgz3.2) (f8))).2) | first | omega | ((try (have i_t6 := Imp.go t6 (by omega))); omega))) dX5_seek_54 ?_
      refine g_topv (v := .ref (ad (72 + (24 * b + (Int32.toNatClampNeg p0))))) (congrArg va_rf (if_pos (by first | omega | ((try (have i_t6 := Imp.go t6 (by omega))); omega)))) ?_
      refine va_getN (D := D) (ci := 3) (v := .int (V 51 (24 * b + (Int32.toNatClampNeg p0)))) (fs := (xfComp ad V (24 * b + (Int32.toNatClampNeg p0)))) (C := RX3) (T := TX3) (N := 13) hx hb hg inX3 hown hK hP (72 + (24 * b + (Int32.toNatClampNeg p0))) (xgComp il14) rfl 6 (by decide) (hnw.use 522 n522 rfl) (fun _ h9 => h9) rfl dX5_seek_55 ?_
      refine lv_iload_n hx hb dX5_seek_58 rfl (lv_at hl 3 rfl) ?_
      refine gA_int (gA_runV (As := [.int (V 51 (24 * b + (Int32.toNatClampNeg p0))), .int p1]) (rest := []) (ci := 8) (q0 := 3) hx hb hml hown hg hP hD hK hS hA hnw hgk (x_placeOf l D ks H.size ad kk V L Z (V 51 (24 * b + (Int32.toNatClampNeg p0))) p1 hMV (by first | exact om_13ba01c174fe rg_p1.1 rg_p1.2 | first | omega | ((try (have i_t6 := Imp.go t6 (by omega))); omega))) w1265 w1266 w1267 w164 w1268 rfl xgStock hdV_yX8_placeOf ⟨Nat.le_of_ble_eq_true rfl, Nat.le_of_ble_eq_true rfl⟩ rfl hl.1 rfl (Nat.le_of_ble_eq_true rfl) dX5_seek_59 ⟨z0, z0⟩) hP hD hK hS hA (fun z69 u70 H locs w71 hP hD hK hS => ?_)
      have rgz69 := w71
      have rgz69 : (-1) ≤ z69.toInt ∧ z69.toInt ≤ 39 := rgz69
      refine lv_istore (lv' := [(5, .int z69), (4, .int 1), (0, .ref (ad 5)), (1, .int p0), (2, .int p1), (3, .int p2)]) hx hb dX5_seek_62 hl (by decide) rfl (fun ls hl => ?_)
      refine lv_iload hx hb dX5_seek_64 (lv_at hl 0 rfl) ?_
      refine lv_iconst (v := (-1)) hx hb dX5_seek_66 (by decide) ?_
      refine lv_icmp_ne (tgt := 78) hx hb dX5_seek_67 (by decide) (fun c72 => ?_) (fun c72 => ?_)
      · skip
        have f73 : z69.toInt ≠ (-1) := b_neq rfl (by decide) c72
        refine lv_aload_n hx hb dX5_seek_78 rfl (lv_at hl 2 rfl) ?_
        refine va_get (D := D) (ci := 5) (v := .ref (ad 3)) (fs := (xfMachine ad V L Z)) (C := RX5) (T := TX5) (N := 15) hx hb hg inX5 hown hK hP 5 xgMachine rfl 0 (by decide) (hg _ w667) (fun _ h9 => h9) rfl dX5_seek_79 ?_
        refine lv_iload hx hb dX5_seek_82 (lv_at hl 0 rfl) ?_
        refine lv_iload_n hx hb dX5_seek_84 rfl (lv_at hl 3 rfl) ?_
        refine gA_int (gA_runV (As := [.int z69, .int p0]) (rest := []) (ci := 8) (q0 := 3) hx hb hml hown hg hP hD hK hS hA hnw hgk (x_isSpoiled l D ks H.size ad kk V L Z z69 p0 hMV (by first | exact om_8305e47bdc88 rgz69.1 rgz69.2 f73 | first | omega | ((try (have i_t6 := Imp.go t6 (by omega))); omega))) w1269 w1270 w1271 w164 w1272 rfl xgStock hdV_yX8_isSpoiled ⟨Nat.le_of_ble_eq_true rfl, Nat.le_of_ble_eq_true rfl⟩ rfl hl.1 rfl (Nat.le_of_ble_eq_true rfl) dX5_seek_85 ⟨z0, z0⟩) hP hD hK hS hA (fun z74 u75 H locs w76 hP hD hK hS => ?_)
        have rgz74 := w76
        have rgz74 : 0 ≤ z74.toInt ∧ z74.toInt ≤ 1 := rgz74
        refine lv_if_eq (tgt := 99) hx hb dX5_seek_88 (by decide) (fun c77 => ?_) (fun c77 => ?_)
        · skip
          have f78 : z74.toInt = 0 := b_eq rfl (by decide) c77
          refine lv_iload hx hb dX5_seek_99 (lv_at hl 1 rfl) ?_
          refine lv_if_eq (tgt := 117) hx hb dX5_seek_101 (by decide) (fun q => absurd q (by decide)) (fun _ => ?_)
          refine lv_aload_n hx hb dX5_seek_104 rfl (lv_at hl 2 rfl) ?_
          refine va_get (D := D) (ci := 5) (v := .ref (ad 3)) (fs := (xfMachine ad V L Z)) (C := RX5) (T := TX5) (N := 15) hx hb hg inX5 hown hK hP 5 xgMachine rfl 0 (by decide) (hg _ w667) (fun _ h9 => h9) rfl dX5_seek_105 ?_
          refine lv_iload hx hb dX5_seek_108 (lv_at hl 0 rfl) ?_
          refine lv_iload_n hx hb dX5_seek_110 rfl (lv_at hl 3 rfl) ?_
          refine gA_int (gA_runV (As := [.int z69, .int p0]) (rest := []) (ci := 8) (q0 := 3) hx hb hml hown hg hP hD hK hS hA hnw hgk (x_objectAt2 l D ks H.size ad kk V L Z z69 p0 hMV (by first | exact om_8305e47bdc88 rgz69.1 rgz69.2 f73 | first | omega | ((try (have i_t6 := Imp.go t6 (by omega))); omega)) (by first | exact om_bf3d98df3a8e r10.2 r11 ((Imp.go t6 (imp_a (rgz3.1) (rgz3.2) (f8))).1) ((Imp.go t6 (imp_a (rgz3.1) (rgz3.2) (f8))).2) | first | omega | ((try (have i_t6 := Imp.go t6 (by omega))); omega))) w1273 w1274 w1275 w164 w1276 rfl xgStock hdV_yX8_objectAt ⟨Nat.le_of_ble_eq_true rfl, Nat.le_of_ble_eq_true rfl⟩ rfl hl.1 rfl (Nat.le_of_ble_eq_true rfl) dX5_seek_111 ⟨z0, z0⟩) hP hD hK hS hA (fun z79 u80 H locs w81 hP hD hK hS => ?_)
          obtain ⟨rgz79, t82⟩ := w81
          have rgz79 : (-1) ≤ z79.toInt ∧ z79.toInt ≤ 299 := rgz79
          have t82 : z79 = V 25 (24 * Int32.toNatClampNeg z69 + Int32.toNatClampNeg p0) := t82
          refine lv_goto (tgt := 118) hx hb dX5_seek_114 (by decide) ?_
          refine lv_istore (lv' := [(6, .int z79), (5, .int z69), (4, .int 1), (0, .ref (ad 5)), (1, .int p0), (2, .int p1), (3, .int p2)]) hx hb dX5_seek_118 hl (by decide) rfl (fun ls hl => ?_)
          refine lv_iload hx hb dX5_seek_120 (lv_at hl 0 rfl) ?_
          refine lv_iconst (v := (-1)) hx hb dX5_seek_122 (by decide) ?_
          refine lv_icmp_ne (tgt := 139) hx hb dX5_seek_123 (by decide) (fun c83 => ?_) (fun c83 => ?_)
          · skip
            have f84 : z79.toInt ≠ (-1) := b_neq rfl (by decide) c83
            refine lv_aload_n hx hb dX5_seek_139 rfl (lv_at hl 3 rfl) ?_
            refine va_get (D := D) (ci := 5) (v := .ref (ad 3)) (fs := (xfMachine ad V L Z)) (C := RX5) (T := TX5) (N := 15) hx hb hg inX5 hown hK hP 5 xgMachine rfl 0 (by decide) (hg _ w667) (fun _ h9 => h9) rfl dX5_seek_140 ?_
            refine lv_iload hx hb dX5_seek_143 (lv_at hl 0 rfl) ?_
            refine gA_int (gA_runV (As := [.int z79]) (rest := []) (ci := 8) (q0 := 3) hx hb hml hown hg hP hD hK hS hA hnw hgk (x_isMade l D ks H.size ad kk V L Z z79 hMV ) w1296 w1297 w1298 w164 w1299 rfl xgStock hdV_yX8_isMade ⟨Nat.le_of_ble_eq_true rfl, Nat.le_of_ble_eq_true rfl⟩ rfl hl.1 rfl (Nat.le_of_ble_eq_true rfl) dX5_seek_145 ⟨z0, z0⟩) hP hD hK hS hA (fun z85 u86 H locs w87 hP hD hK hS => ?_)
            obtain ⟨rgz85, t88⟩ := w87
            have rgz85 : 0 ≤ z85.toInt ∧ z85.toInt ≤ 1 := rgz85
            have t88 : Imp (z85.toInt = 1) (0 ≤ z79.toInt ∧ z79.toInt < (V 3 13).toInt) := t88
            have r89 : 0 ≤ ((V 3 13)).toInt ∧ ((V 3 13)).toInt ≤ 300 := hMV 3 13
            refine lv_if_eq (tgt := 160) hx hb dX5_seek_148 (by decide) (fun c90 => ?_) (fun c90 => ?_)
            · skip
              have f91 : z85.toInt = 0 := b_eq rfl (by decide) c90
              refine lv_aload_n hx hb dX5_seek_160 rfl (lv_at hl 3 rfl) ?_
              refine lv_iconst (v := 0) hx hb dX5_seek_161 (by decide) ?_
              refine lv_bipush (v := 12) hx hb dX5_seek_162 (by decide) ?_
              have r92 : Int32.toInt 0 = 0 := by decide
              have r93 : Int32.toInt 12 = 12 := by decide
              refine gA_void (gA_runV (As := [.int 0, .int 12]) (rest := []) (ci := 5) (q0 := 5) hx hb hml hown hg hP hD hK hS hA hnw hgk (x_failWith l D ks H.size ad kk V L Z 0 12 hMV ) w1261 w1263 w46 w171 w1264 rfl xgMachine hdV_yX5_failWith ⟨Nat.le_of_ble_eq_true rfl, Nat.le_of_ble_eq_true rfl⟩ rfl hl.1 rfl (Nat.le_of_ble_eq_true rfl) dX5_seek_164 ⟨z0, z0⟩) hP hD hK hS hA (fun u95 H locs w96 hP hD hK hS => ?_)
              obtain ⟨V98, L99⟩ := u95
              obtain ⟨hMV98, ajV98, axL99, t97⟩ := w96
              have axL99 : L = L99 := Eq.symm axL99
              subst axL99
              have hP : va_P D vwCl (xw ad kk V98 L Z) H := hP
              have hD : va_D A (xw ad kk V98 L Z) := hD
              have hMV98 : rgd bX V98 := hMV98
              have ajV98 : agr [(5, 9), (5, 11), (5, 12)] [] V V98 := ajV98
              have agV98 : agr [(3, 13), (5, 6), (5, 9), (5, 10), (5, 11), (5, 12), (5, 13), (5, 14)] [25, 26, 27, 28, 30, 67, 68, 69, 70, 71, 72, 73, 74, 75, 76, 77, 78, 79, 80, 81, 82, 83, 84, 85] V V98 := agV.tr ajV98 (by decide) (by decide)
              have t97 : (V98 5 9).toInt = 2 := t97
              have r100 : 0 ≤ ((V98 5 9)).toInt ∧ ((V98 5 9)).toInt ≤ 3 := hMV98 5 9
              have me101 : ME V V98 400 := (ME.tr ME.rf (ME.ag ajV98 (by decide)))
              have mt102 : MTw V98 Z b := MTw.me mt me101 (ajV98 5 6 rfl)
              have rp103 : MJ V98 Z b := MTw.mj mt102 (fun q => absurd q.1 (by omega))
              refine W.know (fun kr1 kr2 => ?_)
              refine W.widen (k := zcc Z) (n := zss Z) (Nat.sub_le _ _) (Nat.sub_le _ _) ?_
              exact W.vret hx hb hr (fun t ht hW => ⟨⟨(V98, L, Z), rfl, ⟨hMV98, agV98, rfl, zoZ, rp103⟩, ⟨by rw [ht]; exact hP, va_K.moved hW.alike hK, hD⟩, by rw [ht]; exact kr1, by rw [ht]; exact kr2⟩, hS.F ht⟩) hS.2.2 dX5_seek_167
            · skip
              have f104 : z85.toInt ≠ 0 := b_neq rfl (by decide) c90
              refine lv_aload_n hx hb dX5_seek_151 rfl (lv_at hl 3 rfl) ?_
              refine lv_iload hx hb dX5_seek_152 (lv_at hl 0 rfl) ?_
              refine gA_void (gA_runV (As := [.int z79]) (rest := []) (ci := 5) (q0 := 5) hx hb hml hown hg hP hD hK hS hA hnw hgk (x_answerWith2 l D ks H.size ad kk V L Z z79 hMV ) w1304 w1306 w49 w171 w1307 rfl xgMachine hdV_yX5_answerWith ⟨Nat.le_of_ble_eq_true rfl, Nat.le_of_ble_eq_true rfl⟩ rfl hl.1 rfl (Nat.le_of_ble_eq_true rfl) dX5_seek_154 ⟨z0, z0⟩) hP hD hK hS hA (fun u106 H locs w107 hP hD hK hS => ?_)
              obtain ⟨V110, L111⟩ := u106
              obtain ⟨hMV110, ajV110, axL111, t108, t109⟩ := w107
              have axL111 : L = L111 := Eq.symm axL111
              subst axL111
              have hP : va_P D vwCl (xw ad kk V110 L Z) H := hP
              have hD : va_D A (xw ad kk V110 L Z) := hD
              have hMV110 : rgd bX V110 := hMV110
              have ajV110 : agr [(5, 9), (5, 10)] [] V V110 := ajV110
              have agV110 : agr [(3, 13), (5, 6), (5, 9), (5, 10), (5, 11), (5, 12), (5, 13), (5, 14)] [25, 26, 27, 28, 30, 67, 68, 69, 70, 71, 72, 73, 74, 75, 76, 77, 78, 79, 80, 81, 82, 83, 84, 85] V V110 := agV.tr ajV110 (by decide) (by decide)
              have t108 : (V110 5 9).toInt = 1 := t108
              have t109 : (V110 5 10).toInt = z79.toInt := t109
              have r112 : 0 ≤ ((V110 5 9)).toInt ∧ ((V110 5 9)).toInt ≤ 3 := hMV110 5 9
              refine lv_goto (tgt := 167) hx hb dX5_seek_157 (by decide) ?_
              have me113 : ME V V110 400 := (ME.tr ME.rf (ME.ag ajV110 (by decide)))
              have mt114 : MTw V110 Z b := MTw.me mt me113 (ajV110 5 6 rfl)
              have pq115 : (V110 3 13).toInt = ((V 3 13)).toInt := congrArg Int32.toInt (ajV110 3 13 rfl)
              have kn1 := i_clamp (x := z79) rfl (by first | exact om_eafa9039069c ((Imp.go t88 (imp_a (rgz85.1) (rgz85.2) (f104))).1) | first | omega | ((try (have i_t88 := Imp.go t88 (by omega))); (try (have i_t6 := Imp.go t6 (by omega))); (try (have i_t6 := Imp.go t6 (by omega))); (try (have i_t88 := Imp.go t88 (by omega))); omega))
              have kn2 := i_clamp (x := p0) rfl (by (first | exact om_50dfdfbb9dc6 kc13 | omega))
              have kn3 := i_clamp (x := z69) rfl (by (first | exact om_e3b1d6ac9ce8 rgz69.1 f73 | omega))
              have hpt := (mup.2.2.2.2.2.2.2.1 (24 * Int32.toNatClampNeg z69 + Int32.toNatClampNeg p0) (by omega)).2 (Int32.toNatClampNeg z79) (by rw [← t82]; omega)
              have kn4 := i_clamp (x := V 26 (Int32.toNatClampNeg z79)) rfl (by omega)
              have hcl : Int32.toNatClampNeg (V 26 (Int32.toNatClampNeg z79)) = Int32.toNatClampNeg p0 := by omega
              have nn : NN V110 b := ⟨(Int32.toNatClampNeg z79), by first | omega | ((try (have i_t88 := Imp.go t88 (by omega))); (try (have i_t6 := Imp.go t6 (by omega))); (try (have i_t6 := Imp.go t6 (by omega))); (try (have i_t88 := Imp.go t88 (by omega))); omega), by first | omega | ((try (have i_t88 := Imp.go t88 (by omega))); (try (have i_t6 := Imp.go t6 (by omega))); (try (have i_t6 := Imp.go t6 (by omega))); (try (have i_t88 := Imp.go t88 (by omega))); omega), by rw [(ajV110 26 (Int32.toNatClampNeg z79) rfl), hcl, (ajV110 51 (24 * b + Int32.toNatClampNeg p0) rfl)]; omega⟩
              have rp116 : MJ V110 Z b := MTw.mj mt114 (fun q => q.2 nn)
              refine W.know (fun kr1 kr2 => ?_)
              refine W.widen (k := zcc Z) (n := zss Z) (Nat.sub_le _ _) (Nat.sub_le _ _) ?_
              exact W.vret hx hb hr (fun t ht hW => ⟨⟨(V110, L, Z), rfl, ⟨hMV110, agV110, rfl, zoZ, rp116⟩, ⟨by rw [ht]; exact hP, va_K.moved hW.alike hK, hD⟩, by rw [ht]; exact kr1, by rw [ht]; exact kr2⟩, hS.F ht⟩) hS.2.2 dX5_seek_167
          · skip
            have f117 : z79.toInt = (-1) := b_eq rfl (by decide) c83
            refine lv_aload_n hx hb dX5_seek_126 rfl (lv_at hl 3 rfl) ?_
            refine lv_iload_n hx hb dX5_seek_127 rfl (lv_at hl 4 rfl) ?_
            refine lv_iload hx hb dX5_seek_128 (lv_at hl 1 rfl) ?_
            refine lv_iload_n hx hb dX5_seek_130 rfl (lv_at hl 6 rfl) ?_
            refine lv_iload hx hb dX5_seek_131 (lv_at hl 2 rfl) ?_
            have r118 : Int32.toInt 1 = 1 := by decide
            refine W.know (fun k120 k121 => ?_)
            obtain ⟨Hk119, hHk119⟩ : ∃ z, z = H := ⟨_, rfl⟩
            have k120 : Hk119.size ≤ s.heap.size + (zcc Z - zcc Z) := by rw [hHk119]; exact k120
            have k121 : tot Hk119 ≤ tot s.heap + (zss Z - zss Z) := by rw [hHk119]; exact k121
            refine gZ_void (gA_runV (As := [.int p0, .int z69, .int p2, .int 1]) (rest := []) (ci := 5) (q0 := 5) hx hb hml hown hg hP hD hK hS hA hnw hgk (x_beginMaking l D ks H.size ad kk V L Z p0 z69 p2 1 (b) hMV (by first | exact om_bf3d98df3a8e r10.2 r11 ((Imp.go t6 (imp_a (rgz3.1) (rgz3.2) (f8))).1) ((Imp.go t6 (imp_a (rgz3.1) (rgz3.2) (f8))).2) | first | omega | ((try (have i_t6 := Imp.go t6 (by omega))); omega)) (by first | exact om_8305e47bdc88 rgz69.1 rgz69.2 f73 | first | omega | ((try (have i_t6 := Imp.go t6 (by omega))); omega)) (by decide) (show b < 2 from by first | exact om_f940a4667dd6 hb2 | first | omega | ((try (have i_t6 := Imp.go t6 (by omega))); omega)) mt (show p0.toInt < (V 43 (5 * b + 2)).toInt from by first | exact om_0e9116797efb ((Imp.go t6 (imp_a (rgz3.1) (rgz3.2) (f8))).2) | first | omega | ((try (have i_t6 := Imp.go t6 (by omega))); omega))) w1277 w1279 w47 w171 w1280 rfl xgMachine hdV_yX5_beginMaking ⟨Nat.le_of_ble_eq_true rfl, Nat.le_of_ble_eq_true rfl⟩ rfl hl.1 rfl (Nat.le_of_ble_eq_true rfl) dX5_seek_133 ⟨z1 zoZ.1, z1 zoZ.2.1⟩) hD hS hA (fun u123 H locs w124 hP hD hK hS y125 y126 => ?_)
            obtain ⟨V127, L128, Z129⟩ := u123
            obtain ⟨hMV127, ajV127, axL128, zlZ129, t131⟩ := w124
            have axL128 : L = L128 := Eq.symm axL128
            subst axL128
            have hP : va_P D vwCl (xw ad kk V127 L Z129) H := hP
            have hD : va_D A (xw ad kk V127 L Z129) := hD
            have hK : va_K D vwCl (xty kk Z129) s := hK
            have hMV127 : rgd bX V127 := hMV127
            have ajV127 : agr [(3, 13), (5, 6), (5, 9), (5, 11), (5, 12), (5, 13), (5, 14)] [25, 26, 27, 28, 30, 67, 68, 69, 70, 71, 72, 73, 74, 75, 76, 77, 78, 79, 80, 81, 82, 83, 84, 85] V V127 := ajV127
            have agV127 : agr [(3, 13), (5, 6), (5, 9), (5, 10), (5, 11), (5, 12), (5, 13), (5, 14)] [25, 26, 27, 28, 30, 67, 68, 69, 70, 71, 72, 73, 74, 75, 76, 77, 78, 79, 80, 81, 82, 83, 84, 85] V V127 := agV.tr ajV127 (by decide) (by decide)
            have zlZ129 : ZL Z Z129 := zlZ129
            have zoZ129 : ZL Z Z129 := ZL.tr zoZ zlZ129
            have ziZ129 := zlZ129.1
            have zjZ129 := zlZ129.2.1
            have zkZ129 := zlZ129.2.2.1
            have zmZ129 := zoZ129.1
            have znZ129 := zoZ129.2.1
            have zpZ_Z129 := zoZ.1
            have zqZ_Z129 := zoZ.2.1
            have y125 : H.size ≤ Hk119.size + (zcc Z - zcc Z129) := by rw [hHk119]; exact y125
            have y126 : tot H ≤ tot Hk119 + (zss Z - zss Z129) := by rw [hHk119]; exact y126
            refine W.tight (k := zcc Z - zcc Z129) (n := zss Z - zss Z129) (by first | exact tg9 y125 k120 zlZ129.1 zoZ.1 | omega) (by first | exact tg9 y126 k121 zlZ129.2.1 zoZ.2.1 | omega) ?_
            have t131 : MJ V127 Z129 b := t131
            refine lv_goto (tgt := 167) hx hb dX5_seek_136 (by decide) ?_
            refine W.know (fun kr1 kr2 => ?_)
            refine W.widen (k := zcc Z) (n := zss Z) (Nat.sub_le _ _) (Nat.sub_le _ _) ?_
            exact W.vret hx hb hr (fun t ht hW => ⟨⟨(V127, L, Z129), rfl, ⟨hMV127, agV127, rfl, zoZ129, t131⟩, ⟨by rw [ht]; exact hP, va_K.moved hW.alike hK, hD⟩, by rw [ht]; exact kr1, by rw [ht]; exact kr2⟩, hS.F ht⟩) hS.2.2 dX5_seek_167
        · skip
          have f132 : z74.toInt ≠ 0 := b_neq rfl (by decide) c77
          refine lv_aload_n hx hb dX5_seek_91 rfl (lv_at hl 2 rfl) ?_
          refine lv_iconst (v := 0) hx hb dX5_seek_92 (by decide) ?_
          refine lv_bipush (v := 15) hx hb dX5_seek_93 (by decide) ?_
          have r133 : Int32.toInt 0 = 0 := by decide
          have r134 : Int32.toInt 15 = 15 := by decide
          refine gA_void (gA_runV (As := [.int 0, .int 15]) (rest := []) (ci := 5) (q0 := 5) hx hb hml hown hg hP hD hK hS hA hnw hgk (x_failWith l D ks H.size ad kk V L Z 0 15 hMV ) w1261 w1263 w46 w171 w1264 rfl xgMachine hdV_yX5_failWith ⟨Nat.le_of_ble_eq_true rfl, Nat.le_of_ble_eq_true rfl⟩ rfl hl.1 rfl (Nat.le_of_ble_eq_true rfl) dX5_seek_95 ⟨z0, z0⟩) hP hD hK hS hA (fun u136 H locs w137 hP hD hK hS => ?_)
          obtain ⟨V139, L140⟩ := u136
          obtain ⟨hMV139, ajV139, axL140, t138⟩ := w137
          have axL140 : L = L140 := Eq.symm axL140
          subst axL140
          have hP : va_P D vwCl (xw ad kk V139 L Z) H := hP
          have hD : va_D A (xw ad kk V139 L Z) := hD
          have hMV139 : rgd bX V139 := hMV139
          have ajV139 : agr [(5, 9), (5, 11), (5, 12)] [] V V139 := ajV139
          have agV139 : agr [(3, 13), (5, 6), (5, 9), (5, 10), (5, 11), (5, 12), (5, 13), (5, 14)] [25, 26, 27, 28, 30, 67, 68, 69, 70, 71, 72, 73, 74, 75, 76, 77, 78, 79, 80, 81, 82, 83, 84, 85] V V139 := agV.tr ajV139 (by decide) (by decide)
          have t138 : (V139 5 9).toInt = 2 := t138
          have r141 : 0 ≤ ((V139 5 9)).toInt ∧ ((V139 5 9)).toInt ≤ 3 := hMV139 5 9
          have me142 : ME V V139 400 := (ME.tr ME.rf (ME.ag ajV139 (by decide)))
          have mt143 : MTw V139 Z b := MTw.me mt me142 (ajV139 5 6 rfl)
          have rp144 : MJ V139 Z b := MTw.mj mt143 (fun q => absurd q.1 (by omega))
          refine W.know (fun kr1 kr2 => ?_)
          refine W.widen (k := zcc Z) (n := zss Z) (Nat.sub_le _ _) (Nat.sub_le _ _) ?_
          exact W.vret hx hb hr (fun t ht hW => ⟨⟨(V139, L, Z), rfl, ⟨hMV139, agV139, rfl, zoZ, rp144⟩, ⟨by rw [ht]; exact hP, va_K.moved hW.alike hK, hD⟩, by rw [ht]; exact kr1, by rw [ht]; exact kr2⟩, hS.F ht⟩) hS.2.2 dX5_seek_98
      · skip
        have f145 : z69.toInt = (-1) := b_eq rfl (by decide) c72
        refine lv_aload_n hx hb dX5_seek_70 rfl (lv_at hl 2 rfl) ?_
        refine lv_iconst (v := 0) hx hb dX5_seek_71 (by decide) ?_
        refine lv_bipush (v := 14) hx hb dX5_seek_72 (by decide) ?_
        have r146 : Int32.toInt 0 = 0 := by decide
        have r147 : Int32.toInt 14 = 14 := by decide
        refine gA_void (gA_runV (As := [.int 0, .int 14]) (rest := []) (ci := 5) (q0 := 5) hx hb hml hown hg hP hD hK hS hA hnw hgk (x_failWith l D ks H.size ad kk V L Z 0 14 hMV ) w1261 w1263 w46 w171 w1264 rfl xgMachine hdV_yX5_failWith ⟨Nat.le_of_ble_eq_true rfl, Nat.le_of_ble_eq_true rfl⟩ rfl hl.1 rfl (Nat.le_of_ble_eq_true rfl) dX5_seek_74 ⟨z0, z0⟩) hP hD hK hS hA (fun u149 H locs w150 hP hD hK hS => ?_)
        obtain ⟨V152, L153⟩ := u149
        obtain ⟨hMV152, ajV152, axL153, t151⟩ := w150
        have axL153 : L = L153 := Eq.symm axL153
        subst axL153
        have hP : va_P D vwCl (xw ad kk V152 L Z) H := hP
        have hD : va_D A (xw ad kk V152 L Z) := hD
        have hMV152 : rgd bX V152 := hMV152
        have ajV152 : agr [(5, 9), (5, 11), (5, 12)] [] V V152 := ajV152
        have agV152 : agr [(3, 13), (5, 6), (5, 9), (5, 10), (5, 11), (5, 12), (5, 13), (5, 14)] [25, 26, 27, 28, 30, 67, 68, 69, 70, 71, 72, 73, 74, 75, 76, 77, 78, 79, 80, 81, 82, 83, 84, 85] V V152 := agV.tr ajV152 (by decide) (by decide)
        have t151 : (V152 5 9).toInt = 2 := t151
        have r154 : 0 ≤ ((V152 5 9)).toInt ∧ ((V152 5 9)).toInt ≤ 3 := hMV152 5 9
        have me155 : ME V V152 400 := (ME.tr ME.rf (ME.ag ajV152 (by decide)))
        have mt156 : MTw V152 Z b := MTw.me mt me155 (ajV152 5 6 rfl)
        have rp157 : MJ V152 Z b := MTw.mj mt156 (fun q => absurd q.1 (by omega))
        refine W.know (fun kr1 kr2 => ?_)
        refine W.widen (k := zcc Z) (n := zss Z) (Nat.sub_le _ _) (Nat.sub_le _ _) ?_
        exact W.vret hx hb hr (fun t ht hW => ⟨⟨(V152, L, Z), rfl, ⟨hMV152, agV152, rfl, zoZ, rp157⟩, ⟨by rw [ht]; exact hP, va_K.moved hW.alike hK, hD⟩, by rw [ht]; exact kr1, by rw [ht]; exact kr2⟩, hS.F ht⟩) hS.2.2 dX5_seek_77
  · skip
    have f158 : z3.toInt = 0 := b_eq rfl (by decide) c7
    refine lv_aload_n hx hb dX5_seek_11 rfl (lv_at hl 0 rfl) ?_
    refine lv_iconst (v := 0) hx hb dX5_seek_12 (by decide) ?_
    refine lv_bipush (v := 14) hx hb dX5_seek_13 (by decide) ?_
    have r159 : Int32.toInt 0 = 0 := by decide
    have r160 : Int32.toInt 14 = 14 := by decide
    refine gA_void (gA_runV (As := [.int 0, .int 14]) (rest := []) (ci := 5) (q0 := 5) hx hb hml hown hg hP hD hK hS hA hnw hgk (x_failWith l D ks H.size ad kk V L Z 0 14 hMV ) w1261 w1263 w46 w171 w1264 rfl xgMachine hdV_yX5_failWith ⟨Nat.le_of_ble_eq_true rfl, Nat.le_of_ble_eq_true rfl⟩ rfl hl.1 rfl (Nat.le_of_ble_eq_true rfl) dX5_seek_15 ⟨z0, z0⟩) hP hD hK hS hA (fun u162 H locs w163 hP hD hK hS => ?_)
    obtain ⟨V165, L166⟩ := u162
    obtain ⟨hMV165, ajV165, axL166, t164⟩ := w163
    have axL166 : L = L166 := Eq.symm axL166
    subst axL166
    have hP : va_P D vwCl (xw ad kk V165 L Z) H := hP
    have hD : va_D A (xw ad kk V165 L Z) := hD
    have hMV165 : rgd bX V165 := hMV165
    have ajV165 : agr [(5, 9), (5, 11), (5, 12)] [] V V165 := ajV165
    have agV165 : agr [(3, 13), (5, 6), (5, 9), (5, 10), (5, 11), (5, 12), (5, 13), (5, 14)] [25, 26, 27, 28, 30, 67, 68, 69, 70, 71, 72, 73, 74, 75, 76, 77, 78, 79, 80, 81, 82, 83, 84, 85] V V165 := agV.tr ajV165 (by decide) (by decide)
    have t164 : (V165 5 9).toInt = 2 := t164
    have r167 : 0 ≤ ((V165 5 9)).toInt ∧ ((V165 5 9)).toInt ≤ 3 := hMV165 5 9
    have me168 : ME V V165 400 := (ME.tr ME.rf (ME.ag ajV165 (by decide)))
    have mt169 : MTw V165 Z b := MTw.me mt me168 (ajV165 5 6 rfl)
    have rp170 : MJ V165 Z b := MTw.mj mt169 (fun q => absurd q.1 (by omega))
    refine W.know (fun kr1 kr2 => ?_)
    refine W.widen (k := zcc Z) (n := zss Z) (Nat.sub_le _ _) (Nat.sub_le _ _) ?_
    exact W.vret hx hb hr (fun t ht hW => ⟨⟨(V165, L, Z), rfl, ⟨hMV165, agV165, rfl, zoZ, rp170⟩, ⟨by rw [ht]; exact hP, va_K.moved hW.alike hK, hD⟩, by rw [ht]; exact kr1, by rw [ht]; exact kr2⟩, hS.F ht⟩) hS.2.2 dX5_seek_18
abbrev r_x_undoNext (Z : XZ) : Room := { frames := 4, cells := zcc Z, slots := zss Z, locals := 88 }
abbrev q_x_undoNext (D : va_G) (ks : KS) (ad : Nat → Nat) (kk : Nat → ClassId) (V : Vf) (L : Lf) (Z : XZ) (b : Nat) (gf : Nat) (A : Nat → Prop) : Array Value → State → Outcome → State → Prop := qZv D (fun (u : Vf × Lf × XZ) => rgd bX u.1 ∧ agr [(5, 6), (5, 8), (5, 9), (5, 11), (5, 12)] [67, 68, 69, 70, 71, 72, 73, 74, 75, 76, 77, 78, 79, 80, 81, 82, 83, 84, 85] V u.1 ∧ u.2.1 = L ∧ ZL Z u.2.2 ∧ (MJ u.1 u.2.2 b)) (fun u => xw ad kk u.1 u.2.1 u.2.2) (fun u => xty kk u.2.2) (fun u => zcc Z - zcc u.2.2) (fun u => zss Z - zss u.2.2) A
set_option maxHeartbeats 4000000 in
set_option maxRecDepth 100000 in
theorem x_undoNext (l : Launch) (D : va_G) (ks : KS) (sz : Nat) (ad : Nat → Nat) (kk : Nat → ClassId) (V : Vf) (L : Lf) (Z : XZ) (b : Nat) (gf : Nat) (hMV : rgd bX V) (hb2 : b < 2) (hgf : gf < Z.nf) (mo : MO V Z b gf True True False) (gd : (gf : Int) + 1 = (V 5 6).toInt) (gk : (V 67 gf).toInt = 0)  : Met l yX5_undoNext (Cond.code yX5_undoNext cX5_undoNext 2 none :: GW) (r_x_undoNext Z) (va_Pc [.ref (ad 5), .ref (Z.fa gf)] (gp D ks (xw ad kk V L Z) (xty kk Z) sz)) (q_x_undoNext D ks ad kk V L Z  b gf (va_A (xw ad kk V L Z) sz)) (zcc Z) (zss Z) (va_A (xw ad kk V L Z) sz) := by
  refine g_met (q_x_undoNext D ks ad kk V L Z  b gf) (by decide) (Nat.le_of_ble_eq_true rfl) ?_
  intro p e s m below meth c A ls H locs hx hb hr hml hown hg hlocks hin hnw hgk hP hK hD hS hA hl
  have hown : s.vm.findClass RX5 = some m.cls := hown
  have hl : lv_has ls 2 [(0, .ref (ad 5)), (1, .ref (Z.fa gf))] := hl
  have hP : va_P D vwCl (xw ad kk V L Z) H := hP
  have hD : va_D A (xw ad kk V L Z) := hD
  have hK : va_K D vwCl (xty kk Z) s := hK
  have agV : agr [(5, 6), (5, 8), (5, 9), (5, 11), (5, 12)] [67, 68, 69, 70, 71, 72, 73, 74, 75, 76, 77, 78, 79, 80, 81, 82, 83, 84, 85] V V := agr.rf
  have zoZ : ZL Z Z := ZL.rf
  refine W.know (fun ka kb => ?_)
  refine W.tight (k := zcc Z - zcc Z) (n := zss Z - zss Z) (by omega) (by omega) ?_
  have r1 : 0 ≤ ((V 5 6)).toInt ∧ ((V 5 6)).toInt ≤ 400 := hMV 5 6
  have kdp := i_clamp (x := V 5 6) rfl (by (first | exact om_c66f1b494bd9 gd | omega))
  have hdn : (gf : Int) + 1 ≤ (Z.nf : Int) := by (first | exact om_29efded833ec hgf | omega)
  have mup := MO.up mo
  have msz := mup.1
  have mbk := mup.2.2.2.1
  obtain ⟨xk, fk⟩ := MO.fk mo
  have r2 : (-1) ≤ ((V 71 gf)).toInt ∧ ((V 71 gf)).toInt ≤ 23 := hMV 71 gf
  have r3 : 0 ≤ ((V 75 gf)).toInt ∧ ((V 75 gf)).toInt ≤ 12 := hMV 75 gf
  have r4 : 0 ≤ ((V 80 gf)).toInt ∧ ((V 80 gf)).toInt ≤ 300 := hMV 80 gf
  have r5 : 0 ≤ ((V 84 gf)).toInt ∧ ((V 84 gf)).toInt ≤ 2147483647 := hMV 84 gf
  have r6 : 0 ≤ ((V 5 8)).toInt ∧ ((V 5 8)).toInt ≤ 300 := hMV 5 8
  have r7 : 0 ≤ ((V 5 9)).toInt ∧ ((V 5 9)).toInt ≤ 3 := hMV 5 9
  have r8 : 0 ≤ ((V 3 13)).toInt ∧ ((V 3 13)).toInt ≤ 300 := hMV 3 13
  have r9 : 0 ≤ ((V 43 (5 * b + 2))).toInt ∧ ((V 43 (5 * b + 2))).toInt ≤ ((xcap (5 * b + 2) : Nat) : Int) := hMV 43 (5 * b + 2)
  have r10 : xcap (5 * b + 2) = 24 := xcap_2
  have r11 : 0 ≤ ((V 41 b)).toInt ∧ ((V 41 b)).toInt ≤ 12 := hMV 41 b
  have r12 : 0 ≤ ((V 42 b)).toInt ∧ ((V 42 b)).toInt ≤ 8200 := hMV 42 b
  have fm := fk.2.2.2.2.2.2.1 (by omega)
  refine lv_aload_n hx hb dX5_undoNext_0 rfl (lv_at hl 0 rfl) ?_
  refine va_get (D := D) (ci := 5) (v := .int (V 5 8)) (fs := (xfMachine ad V L Z)) (C := RX5) (T := TX5) (N := 15) hx hb hg inX5 hown hK hP 5 xgMachine rfl 8 (by decide) (hg _ w675) (fun _ h9 => h9) rfl dX5_undoNext_1 ?_
  refine lv_aload_n hx hb dX5_undoNext_4 rfl (lv_at hl 1 rfl) ?_
  refine va_getN (D := D) (ci := 4) (v := .int (V 80 gf)) (fs := (xfFrame V gf)) (C := RX4) (T := TX4) (N := 19) hx hb hg inX4 hown hK hP (336 + gf) (xgFrame hgf) rfl 13 (by decide) (hnw.use 1202 n1202 rfl) (fun _ h9 => h9) rfl dX5_undoNext_5 ?_
  refine lv_icmp_le (tgt := 39) hx hb dX5_undoNext_8 (by decide) (fun c13 => ?_) (fun c13 => ?_)
  · skip
    have f14 : ((V 5 8)).toInt ≤ ((V 80 gf)).toInt := b_le rfl rfl c13
    refine lv_aload_n hx hb dX5_undoNext_39 rfl (lv_at hl 0 rfl) ?_
    refine lv_aload_n hx hb dX5_undoNext_40 rfl (lv_at hl 1 rfl) ?_
    refine va_getN (D := D) (ci := 4) (v := .int (V 81 gf)) (fs := (xfFrame V gf)) (C := RX4) (T := TX4) (N := 19) hx hb hg inX4 hown hK hP (336 + gf) (xgFrame hgf) rfl 14 (by decide) (hnw.use 1203 n1203 rfl) (fun _ h9 => h9) rfl dX5_undoNext_41 ?_
    refine lv_aload_n hx hb dX5_undoNext_44 rfl (lv_at hl 1 rfl) ?_
    refine va_getN (D := D) (ci := 4) (v := .int (V 82 gf)) (fs := (xfFrame V gf)) (C := RX4) (T := TX4) (N := 19) hx hb hg inX4 hown hK hP (336 + gf) (xgFrame hgf) rfl 15 (by decide) (hnw.use 1204 n1204 rfl) (fun _ h9 => h9) rfl dX5_undoNext_45 ?_
    refine gA_void (gA_runV (As := [.int (V 81 gf), .int (V 82 gf)]) (rest := []) (ci := 5) (q0 := 5) hx hb hml hown hg hP hD hK hS hA hnw hgk (x_failWith l D ks H.size ad kk V L Z (V 81 gf) (V 82 gf) hMV ) w1261 w1263 w46 w171 w1264 rfl xgMachine hdV_yX5_failWith ⟨Nat.le_of_ble_eq_true rfl, Nat.le_of_ble_eq_true rfl⟩ rfl hl.1 rfl (Nat.le_of_ble_eq_true rfl) dX5_undoNext_48 ⟨z0, z0⟩) hP hD hK hS hA (fun u16 H locs w17 hP hD hK hS => ?_)
    obtain ⟨V19, L20⟩ := u16
    obtain ⟨hMV19, ajV19, axL20, t18⟩ := w17
    have axL20 : L = L20 := Eq.symm axL20
    subst axL20
    have hP : va_P D vwCl (xw ad kk V19 L Z) H := hP
    have hD : va_D A (xw ad kk V19 L Z) := hD
    have hMV19 : rgd bX V19 := hMV19
    have ajV19 : agr [(5, 9), (5, 11), (5, 12)] [] V V19 := ajV19
    have agV19 : agr [(5, 6), (5, 8), (5, 9), (5, 11), (5, 12)] [67, 68, 69, 70, 71, 72, 73, 74, 75, 76, 77, 78, 79, 80, 81, 82, 83, 84, 85] V V19 := agV.tr ajV19 (by decide) (by decide)
    have t18 : (V19 5 9).toInt = 2 := t18
    have r21 : 0 ≤ ((V19 5 9)).toInt ∧ ((V19 5 9)).toInt ≤ 3 := hMV19 5 9
    refine lv_aload_n hx hb dX5_undoNext_51 rfl (lv_at hl 1 rfl) ?_
    refine va_getN (D := D) (ci := 4) (v := .int (V19 83 gf)) (fs := (xfFrame V19 gf)) (C := RX4) (T := TX4) (N := 19) hx hb hg inX4 hown hK hP (336 + gf) (xgFrame hgf) rfl 16 (by decide) (hnw.use 1205 n1205 rfl) (fun _ h9 => h9) rfl dX5_undoNext_52 ?_
    refine g_top (v := (V 83 gf)) (ajV19 83 gf rfl) ?_
    have r22 : 0 ≤ ((V 83 gf)).toInt ∧ ((V 83 gf)).toInt ≤ 1 := hMV 83 gf
    refine lv_if_eq (tgt := 63) hx hb dX5_undoNext_55 (by decide) (fun c23 => ?_) (fun c23 => ?_)
    · skip
      have f24 : ((V 83 gf)).toInt = 0 := b_eq rfl (by decide) c23
      refine lv_aload_n hx hb dX5_undoNext_63 rfl (lv_at hl 0 rfl) ?_
      have pq25 : (V19 5 6).toInt = ((V 5 6)).toInt := congrArg Int32.toInt (ajV19 5 6 rfl)
      refine gA_void (gA_runV (As := []) (rest := []) (ci := 5) (q0 := 5) hx hb hml hown hg hP hD hK hS hA hnw hgk (x_leave l D ks H.size ad kk V19 L Z  hMV19 (show 1 ≤ (V19 5 6).toInt from by (first | exact om_0cac171fa40c gd pq25 | omega))) w1308 w1310 w50 w171 w1311 rfl xgMachine hdV_yX5_leave ⟨Nat.le_of_ble_eq_true rfl, Nat.le_of_ble_eq_true rfl⟩ rfl hl.1 rfl (Nat.le_of_ble_eq_true rfl) dX5_undoNext_64 ⟨z0, z0⟩) hP hD hK hS hA (fun u27 H locs w28 hP hD hK hS => ?_)
      obtain ⟨V30, L31⟩ := u27
      obtain ⟨hMV30, ajV30, axL31, t29⟩ := w28
      have axL31 : L = L31 := Eq.symm axL31
      subst axL31
      have hP : va_P D vwCl (xw ad kk V30 L Z) H := hP
      have hD : va_D A (xw ad kk V30 L Z) := hD
      have hMV30 : rgd bX V30 := hMV30
      have ajV30 : agr [(5, 6)] [] V19 V30 := ajV30
      have agV30 : agr [(5, 6), (5, 8), (5, 9), (5, 11), (5, 12)] [67, 68, 69, 70, 71, 72, 73, 74, 75, 76, 77, 78, 79, 80, 81, 82, 83, 84, 85] V V30 := agV19.tr ajV30 (by decide) (by decide)
      have t29 : (V30 5 6).toInt = (V19 5 6).toInt - 1 := t29
      have r32 : 0 ≤ ((V30 5 6)).toInt ∧ ((V30 5 6)).toInt ≤ 400 := hMV30 5 6
      have me33 : ME V V30 gf := (ME.tr (ME.tr ME.rf (ME.ag ajV19 (by decide))) (ME.ag ajV30 (by decide)))
      have pq34 : (V30 67 gf).toInt = ((V 67 gf)).toInt := congrArg Int32.toInt ((ajV30 67 gf rfl).trans (ajV19 67 gf rfl))
      have pq35 : (V30 68 gf).toInt = ((V 68 gf)).toInt := congrArg Int32.toInt ((ajV30 68 gf rfl).trans (ajV19 68 gf rfl))
      have pq36 : (V30 70 gf).toInt = ((V 70 gf)).toInt := congrArg Int32.toInt ((ajV30 70 gf rfl).trans (ajV19 70 gf rfl))
      have pq37 : (V30 71 gf).toInt = ((V 71 gf)).toInt := congrArg Int32.toInt ((ajV30 71 gf rfl).trans (ajV19 71 gf rfl))
      have pq38 : (V30 75 gf).toInt = ((V 75 gf)).toInt := congrArg Int32.toInt ((ajV30 75 gf rfl).trans (ajV19 75 gf rfl))
      have pq39 : (V30 76 gf).toInt = ((V 76 gf)).toInt := congrArg Int32.toInt ((ajV30 76 gf rfl).trans (ajV19 76 gf rfl))
      have pq40 : (V30 80 gf).toInt = ((V 80 gf)).toInt := congrArg Int32.toInt ((ajV30 80 gf rfl).trans (ajV19 80 gf rfl))
      have pq41 : (V30 84 gf).toInt = ((V 84 gf)).toInt := congrArg Int32.toInt ((ajV30 84 gf rfl).trans (ajV19 84 gf rfl))
      have pq42 : (V30 5 8).toInt = ((V 5 8)).toInt := congrArg Int32.toInt ((ajV30 5 8 rfl).trans (ajV19 5 8 rfl))
      have pq43 : (V30 5 9).toInt = ((V19 5 9)).toInt := congrArg Int32.toInt (ajV30 5 9 rfl)
      have pq44 : (V30 3 13).toInt = ((V 3 13)).toInt := congrArg Int32.toInt ((ajV30 3 13 rfl).trans (ajV19 3 13 rfl))
      have pq45 : (V30 43 (5 * b + 2)).toInt = ((V 43 (5 * b + 2))).toInt := congrArg Int32.toInt ((ajV30 43 (5 * b + 2) rfl).trans (ajV19 43 (5 * b + 2) rfl))
      have pq46 : (V30 42 b).toInt = ((V 42 b)).toInt := congrArg Int32.toInt ((ajV30 42 b rfl).trans (ajV19 42 b rfl))
      have pq47 : (V30 41 b).toInt = ((V 41 b)).toInt := congrArg Int32.toInt ((ajV30 41 b rfl).trans (ajV19 41 b rfl))
      have rp48 : MJ V30 Z b := MP.lv (MO.mp mo) me33 (by (first | exact om_5ac7632c8ef3 gd pq25 t29 | omega)) (fun z => absurd z.1 (by omega))
      refine W.know (fun kr1 kr2 => ?_)
      refine W.widen (k := zcc Z) (n := zss Z) (Nat.sub_le _ _) (Nat.sub_le _ _) ?_
      exact W.vret hx hb hr (fun t ht hW => ⟨⟨(V30, L, Z), rfl, ⟨hMV30, agV30, rfl, zoZ, rp48⟩, ⟨by rw [ht]; exact hP, va_K.moved hW.alike hK, hD⟩, by rw [ht]; exact kr1, by rw [ht]; exact kr2⟩, hS.F ht⟩) hS.2.2 dX5_undoNext_67
    · skip
      have f49 : ((V 83 gf)).toInt ≠ 0 := b_neq rfl (by decide) c23
      refine lv_aload_n hx hb dX5_undoNext_58 rfl (lv_at hl 0 rfl) ?_
      refine lv_iconst (v := 3) hx hb dX5_undoNext_59 (by decide) ?_
      refine va_put (D := D) (ci := 5) (v := .int 3) (ty := tyX5 9) (fs := (xfMachine ad V19 L Z)) (C := RX5) (T := TX5) (N := 15) hx hb hg inX5 tyX5 tyX5_ok nmX5 hown hK hP hD hS 5 xgMachine rfl 9 (by decide) (hg _ w676) (fun _ h9 => h9) rfl (tyX5_ok 9 (by decide)) rfl rfl (Nat.le_of_ble_eq_true rfl) dX5_undoNext_60 (fun H locs hP hD hS => ?_)
      obtain ⟨V50, hV50⟩ : ∃ z, z = up2 V19 5 9 3 := ⟨_, rfl⟩
      have ew51 : (xw ad kk V19 L Z).set 5 ((ad 5), .inr (5, (xfMachine ad V19 L Z).set 9 (.int 3))) = xw ad kk V50 L Z := by rw [hV50]; exact xw_ss (by decide) rfl (xb_si (by decide))
      have hP : va_P D vwCl (xw ad kk V50 L Z) H := by rw [← ew51]; exact hP
      have hD : va_D A (xw ad kk V50 L Z) := by rw [← ew51]; exact hD
      have hMV50 : rgd bX V50 := hMV19.put hV50 (by decide)
      have agV50 : agr [(5, 6), (5, 8), (5, 9), (5, 11), (5, 12)] [67, 68, 69, 70, 71, 72, 73, 74, 75, 76, 77, 78, 79, 80, 81, 82, 83, 84, 85] V V50 := agV19.up hV50 rfl
      refine lv_aload_n hx hb dX5_undoNext_63 rfl (lv_at hl 0 rfl) ?_
      have pq52 : (V50 5 6).toInt = ((V 5 6)).toInt := congrArg Int32.toInt ((up2_k hV50 (by decide)).trans (ajV19 5 6 rfl))
      refine gA_void (gA_runV (As := []) (rest := []) (ci := 5) (q0 := 5) hx hb hml hown hg hP hD hK hS hA hnw hgk (x_leave l D ks H.size ad kk V50 L Z  hMV50 (show 1 ≤ (V50 5 6).toInt from by (first | exact om_0cac171fa40c gd pq52 | omega))) w1308 w1310 w50 w171 w1311 rfl xgMachine hdV_yX5_leave ⟨Nat.le_of_ble_eq_true rfl, Nat.le_of_ble_eq_true rfl⟩ rfl hl.1 rfl (Nat.le_of_ble_eq_true rfl) dX5_undoNext_64 ⟨z0, z0⟩) hP hD hK hS hA (fun u54 H locs w55 hP hD hK hS => ?_)
      obtain ⟨V57, L58⟩ := u54
      obtain ⟨hMV57, ajV57, axL58, t56⟩ := w55
      have axL58 : L = L58 := Eq.symm axL58
      subst axL58
      have hP : va_P D vwCl (xw ad kk V57 L Z) H := hP
      have hD : va_D A (xw ad kk V57 L Z) := hD
      have hMV57 : rgd bX V57 := hMV57
      have ajV57 : agr [(5, 6)] [] V50 V57 := ajV57
      have agV57 : agr [(5, 6), (5, 8), (5, 9), (5, 11), (5, 12)] [67, 68, 69, 70, 71, 72, 73, 74, 75, 76, 77, 78, 79, 80, 81, 82, 83, 84, 85] V V57 := agV50.tr ajV57 (by decide) (by decide)
      have t56 : (V57 5 6).toInt = (V50 5 6).toInt - 1 := t56
      have r59 : 0 ≤ ((V57 5 6)).toInt ∧ ((V57 5 6)).toInt ≤ 400 := hMV57 5 6
      have me60 : ME V V57 gf := (ME.tr (ME.up (ME.tr ME.rf (ME.ag ajV19 (by decide))) hV50 (Or.inr (by omega))) (ME.ag ajV57 (by decide)))
      have pq61 : (V57 67 gf).toInt = ((V 67 gf)).toInt := congrArg Int32.toInt ((ajV57 67 gf rfl).trans ((up2_o hV50 (by decide)).trans (ajV19 67 gf rfl)))
      have pq62 : (V57 68 gf).toInt = ((V 68 gf)).toInt := congrArg Int32.toInt ((ajV57 68 gf rfl).trans ((up2_o hV50 (by decide)).trans (ajV19 68 gf rfl)))
      have pq63 : (V57 70 gf).toInt = ((V 70 gf)).toInt := congrArg Int32.toInt ((ajV57 70 gf rfl).trans ((up2_o hV50 (by decide)).trans (ajV19 70 gf rfl)))
      have pq64 : (V57 71 gf).toInt = ((V 71 gf)).toInt := congrArg Int32.toInt ((ajV57 71 gf rfl).trans ((up2_o hV50 (by decide)).trans (ajV19 71 gf rfl)))
      have pq65 : (V57 75 gf).toInt = ((V 75 gf)).toInt := congrArg Int32.toInt ((ajV57 75 gf rfl).trans ((up2_o hV50 (by decide)).trans (ajV19 75 gf rfl)))
      have pq66 : (V57 76 gf).toInt = ((V 76 gf)).toInt := congrArg Int32.toInt ((ajV57 76 gf rfl).trans ((up2_o hV50 (by decide)).trans (ajV19 76 gf rfl)))
      have pq67 : (V57 80 gf).toInt = ((V 80 gf)).toInt := congrArg Int32.toInt ((ajV57 80 gf rfl).trans ((up2_o hV50 (by decide)).trans (ajV19 80 gf rfl)))
      have pq68 : (V57 84 gf).toInt = ((V 84 gf)).toInt := congrArg Int32.toInt ((ajV57 84 gf rfl).trans ((up2_o hV50 (by decide)).trans (ajV19 84 gf rfl)))
      have pq69 : (V57 5 8).toInt = ((V 5 8)).toInt := congrArg Int32.toInt ((ajV57 5 8 rfl).trans ((up2_k hV50 (by decide)).trans (ajV19 5 8 rfl)))
      have pq70 : (V57 5 9).toInt = 3 := (congrArg Int32.toInt ((ajV57 5 9 rfl).trans (up2_s hV50))).trans (by decide)
      have pq71 : (V57 3 13).toInt = ((V 3 13)).toInt := congrArg Int32.toInt ((ajV57 3 13 rfl).trans ((up2_o hV50 (by decide)).trans (ajV19 3 13 rfl)))
      have pq72 : (V57 43 (5 * b + 2)).toInt = ((V 43 (5 * b + 2))).toInt := congrArg Int32.toInt ((ajV57 43 (5 * b + 2) rfl).trans ((up2_o hV50 (by decide)).trans (ajV19 43 (5 * b + 2) rfl)))
      have pq73 : (V57 42 b).toInt = ((V 42 b)).toInt := congrArg Int32.toInt ((ajV57 42 b rfl).trans ((up2_o hV50 (by decide)).trans (ajV19 42 b rfl)))
      have pq74 : (V57 41 b).toInt = ((V 41 b)).toInt := congrArg Int32.toInt ((ajV57 41 b rfl).trans ((up2_o hV50 (by decide)).trans (ajV19 41 b rfl)))
      have rp75 : MJ V57 Z b := MP.lv (MO.mp mo) me60 (by (first | exact om_5ac7632c8ef3 gd pq52 t56 | omega)) (fun z => absurd z.1 (by omega))
      refine W.know (fun kr1 kr2 => ?_)
      refine W.widen (k := zcc Z) (n := zss Z) (Nat.sub_le _ _) (Nat.sub_le _ _) ?_
      exact W.vret hx hb hr (fun t ht hW => ⟨⟨(V57, L, Z), rfl, ⟨hMV57, agV57, rfl, zoZ, rp75⟩, ⟨by rw [ht]; exact hP, va_K.moved hW.alike hK, hD⟩, by rw [ht]; exact kr1, by rw [ht]; exact kr2⟩, hS.F ht⟩) hS.2.2 dX5_undoNext_67
  · skip
    have f76 : ((V 80 gf)).toInt < ((V 5 8)).toInt := b_nle rfl rfl c13
    refine lv_aload_n hx hb dX5_undoNext_11 rfl (lv_at hl 0 rfl) ?_
    refine lv_dup hx hb dX5_undoNext_12 rfl ?_
    refine va_get (D := D) (ci := 5) (v := .int (V 5 8)) (fs := (xfMachine ad V L Z)) (C := RX5) (T := TX5) (N := 15) hx hb hg inX5 hown hK hP 5 xgMachine rfl 8 (by decide) (hg _ w675) (fun _ h9 => h9) rfl dX5_undoNext_13 ?_
    refine lv_iconst (v := 1) hx hb dX5_undoNext_16 (by decide) ?_
    refine lv_isub hx hb dX5_undoNext_17 ?_
    refine lv_topi (fun z77 ez77 => ?_)
    have hz77 : z77.toInt = ((V 5 8)).toInt - 1 := i_sub ez77 rfl (by decide) (by (first | exact om_0071aa0bd3eb r4.1 r6.2 f76 | omega))
    refine va_put (D := D) (ci := 5) (v := .int z77) (ty := tyX5 8) (fs := (xfMachine ad V L Z)) (C := RX5) (T := TX5) (N := 15) hx hb hg inX5 tyX5 tyX5_ok nmX5 hown hK hP hD hS 5 xgMachine rfl 8 (by decide) (hg _ w675) (fun _ h9 => h9) rfl (tyX5_ok 8 (by decide)) rfl rfl (Nat.le_of_ble_eq_true rfl) dX5_undoNext_18 (fun H locs hP hD hS => ?_)
    obtain ⟨V78, hV78⟩ : ∃ z, z = up2 V 5 8 z77 := ⟨_, rfl⟩
    have ew79 : (xw ad kk V L Z).set 5 ((ad 5), .inr (5, (xfMachine ad V L Z).set 8 (.int z77))) = xw ad kk V78 L Z := by rw [hV78]; exact xw_ss (by decide) rfl (xb_si (by decide))
    have hP : va_P D vwCl (xw ad kk V78 L Z) H := by rw [← ew79]; exact hP
    have hD : va_D A (xw ad kk V78 L Z) := by rw [← ew79]; exact hD
    have hMV78 : rgd bX V78 := hMV.put hV78 (show 0 ≤ z77.toInt ∧ z77.toInt ≤ 300 from by (first | exact om_e9f14a5a3424 r4.1 r6.2 f76 hz77 | omega))
    have agV78 : agr [(5, 6), (5, 8), (5, 9), (5, 11), (5, 12)] [67, 68, 69, 70, 71, 72, 73, 74, 75, 76, 77, 78, 79, 80, 81, 82, 83, 84, 85] V V78 := agV.up hV78 rfl
    have mo1 : MO V78 Z b gf True True True := MO.mcnt mo (by (first | exact om_b66ba74381d5 gk | omega)) hV78 (by (first | exact om_0a57524310d1 f76 hz77 | omega)) (by (first | exact om_bca2467e6779 hz77 | omega)) (by (first | exact om_e263b395d4ae r4.1 f76 hz77 | omega)) (fun _ => Or.inr (by omega))
    refine lv_aload_n hx hb dX5_undoNext_21 rfl (lv_at hl 0 rfl) ?_
    refine lv_aload_n hx hb dX5_undoNext_22 rfl (lv_at hl 0 rfl) ?_
    refine va_get (D := D) (ci := 5) (v := .ref (ad 37)) (fs := (xfMachine ad V78 L Z)) (C := RX5) (T := TX5) (N := 15) hx hb hg inX5 hown hK hP 5 xgMachine rfl 4 (by decide) (hg _ w671) (fun _ h9 => h9) rfl dX5_undoNext_23 ?_
    refine lv_aload_n hx hb dX5_undoNext_26 rfl (lv_at hl 0 rfl) ?_
    refine va_get (D := D) (ci := 5) (v := .int (V78 5 8)) (fs := (xfMachine ad V78 L Z)) (C := RX5) (T := TX5) (N := 15) hx hb hg inX5 hown hK hP 5 xgMachine rfl 8 (by decide) (hg _ w675) (fun _ h9 => h9) rfl dX5_undoNext_27 ?_
    refine g_top (v := z77) (up2_s hV78) ?_
    refine va_iald (D := D) (i := z77) hx hb hK hP 37 30 rfl rfl (i_in (a := z77.toInt) rfl (by (first | exact om_3cd57cc897e9 r4.1 r6.2 f76 hz77 | omega))) dX5_undoNext_30 ?_
    refine g_top (v := (V 40 (Int32.toNatClampNeg z77))) (up2_o hV78 (by decide)) ?_
    have r80 : 0 ≤ ((V 40 (Int32.toNatClampNeg z77))).toInt ∧ ((V 40 (Int32.toNatClampNeg z77))).toInt ≤ 299 := hMV 40 (Int32.toNatClampNeg z77)
    have kcm := i_clamp (x := z77) rfl (by (first | exact om_e263b395d4ae r4.1 f76 hz77 | omega))
    have hmd := mup.2.2.2.2.2.2.1 (Int32.toNatClampNeg z77) (by omega)
    refine lv_aload_n hx hb dX5_undoNext_31 rfl (lv_at hl 1 rfl) ?_
    refine va_getN (D := D) (ci := 4) (v := .int (V78 69 gf)) (fs := (xfFrame V78 gf)) (C := RX4) (T := TX4) (N := 19) hx hb hg inX4 hown hK hP (336 + gf) (xgFrame hgf) rfl 2 (by decide) (hnw.use 1191 n1191 rfl) (fun _ h9 => h9) rfl dX5_undoNext_32 ?_
    refine g_top (v := (V 69 gf)) (up2_o hV78 (by decide)) ?_
    have pq81 : (V78 3 13).toInt = ((V 3 13)).toInt := congrArg Int32.toInt (up2_o hV78 (by decide))
    have pq83 : (V78 5 6).toInt = ((V 5 6)).toInt := congrArg Int32.toInt (up2_k hV78 (by decide))
    have mt82 : MT V78 Z b := MO.mt mo1 (by (first | exact om_c09d41618ed8 hgf | omega)) (by (first | exact om_82fa09255765 gd pq83 | omega))
    refine W.know (fun k85 k86 => ?_)
    obtain ⟨Hk84, hHk84⟩ : ∃ z, z = H := ⟨_, rfl⟩
    have k85 : Hk84.size ≤ s.heap.size + (zcc Z - zcc Z) := by rw [hHk84]; exact k85
    have k86 : tot Hk84 ≤ tot s.heap + (zss Z - zss Z) := by rw [hHk84]; exact k86
    refine gZ_void (gA_runV (As := [.int (V 40 (Int32.toNatClampNeg z77)), .int (V 69 gf)]) (rest := []) (ci := 5) (q0 := 5) hx hb hml hown hg hP hD hK hS hA hnw hgk (x_pushClose l D ks H.size ad kk V78 L Z (V 40 (Int32.toNatClampNeg z77)) (V 69 gf) (b) hMV78 (by (first | exact om_cb67e99158ac r80.1 r80.2 | omega)) (show b < 2 from by (first | exact om_f940a4667dd6 hb2 | omega)) mt82 (show ((V 40 (Int32.toNatClampNeg z77))).toInt < (V78 3 13).toInt from by omega)) w1320 w1321 w1322 w171 w1323 rfl xgMachine hdV_yX5_pushClose ⟨Nat.le_of_ble_eq_true rfl, Nat.le_of_ble_eq_true rfl⟩ rfl hl.1 rfl (Nat.le_of_ble_eq_true rfl) dX5_undoNext_35 ⟨z1 zoZ.1, z1 zoZ.2.1⟩) hD hS hA (fun u88 H locs w89 hP hD hK hS y90 y91 => ?_)
    obtain ⟨V92, L93, Z94⟩ := u88
    obtain ⟨hMV92, ajV92, axL93, zlZ94, t96⟩ := w89
    have axL93 : L = L93 := Eq.symm axL93
    subst axL93
    have hP : va_P D vwCl (xw ad kk V92 L Z94) H := hP
    have hD : va_D A (xw ad kk V92 L Z94) := hD
    have hK : va_K D vwCl (xty kk Z94) s := hK
    have hMV92 : rgd bX V92 := hMV92
    have ajV92 : agr [(5, 6), (5, 9)] [67, 68, 69, 70, 71, 72, 73, 74, 75, 76, 77, 78, 79, 80, 81, 82, 83, 84, 85] V78 V92 := ajV92
    have agV92 : agr [(5, 6), (5, 8), (5, 9), (5, 11), (5, 12)] [67, 68, 69, 70, 71, 72, 73, 74, 75, 76, 77, 78, 79, 80, 81, 82, 83, 84, 85] V V92 := agV78.tr ajV92 (by decide) (by decide)
    have zlZ94 : ZL Z Z94 := zlZ94
    have zoZ94 : ZL Z Z94 := ZL.tr zoZ zlZ94
    have ziZ94 := zlZ94.1
    have zjZ94 := zlZ94.2.1
    have zkZ94 := zlZ94.2.2.1
    have zmZ94 := zoZ94.1
    have znZ94 := zoZ94.2.1
    have zpZ_Z94 := zoZ.1
    have zqZ_Z94 := zoZ.2.1
    have y90 : H.size ≤ Hk84.size + (zcc Z - zcc Z94) := by rw [hHk84]; exact y90
    have y91 : tot H ≤ tot Hk84 + (zss Z - zss Z94) := by rw [hHk84]; exact y91
    refine W.tight (k := zcc Z - zcc Z94) (n := zss Z - zss Z94) (by first | exact tg9 y90 k85 zlZ94.1 zoZ.1 | omega) (by first | exact tg9 y91 k86 zlZ94.2.1 zoZ.2.1 | omega) ?_
    have hl : lv_has ls 2 [(0, .ref (ad 5)), (1, .ref (Z94.fa gf))] := by rw [zlZ94.2.2.2.2 gf hgf]; exact hl
    have t96 : MJ V92 Z94 b := t96
    refine W.know (fun kr1 kr2 => ?_)
    refine W.widen (k := zcc Z) (n := zss Z) (Nat.sub_le _ _) (Nat.sub_le _ _) ?_
    exact W.vret hx hb hr (fun t ht hW => ⟨⟨(V92, L, Z94), rfl, ⟨hMV92, agV92, rfl, zoZ94, t96⟩, ⟨by rw [ht]; exact hP, va_K.moved hW.alike hK, hD⟩, by rw [ht]; exact kr1, by rw [ht]; exact kr2⟩, hS.F ht⟩) hS.2.2 dX5_undoNext_38
abbrev r_x_goOnGetting (Z : XZ) : Room := { frames := 5, cells := zcc Z, slots := zss Z, locals := 121 }
abbrev q_x_goOnGetting (D : va_G) (ks : KS) (ad : Nat → Nat) (kk : Nat → ClassId) (V : Vf) (L : Lf) (Z : XZ) (b : Nat) (gf : Nat) (A : Nat → Prop) : Array Value → State → Outcome → State → Prop := qZv D (fun (u : Vf × Lf × XZ) => rgd bX u.1 ∧ agr [(3, 13), (5, 6), (5, 8), (5, 9), (5, 10), (5, 11), (5, 12), (5, 13), (5, 14)] [25, 26, 27, 28, 30, 67, 68, 69, 70, 71, 72, 73, 74, 75, 76, 77, 78, 79, 80, 81, 82, 83, 84, 85] V u.1 ∧ u.2.1 = L ∧ ZL Z u.2.2 ∧ (MJ u.1 u.2.2 b)) (fun u => xw ad kk u.1 u.2.1 u.2.2) (fun u => xty kk u.2.2) (fun u => zcc Z - zcc u.2.2) (fun u => zss Z - zss u.2.2) A
set_option maxHeartbeats 4000000 in
set_option maxRecDepth 100000 in
theorem x_goOnGetting (l : Launch) (D : va_G) (ks : KS) (sz : Nat) (ad : Nat → Nat) (kk : Nat → ClassId) (V : Vf) (L : Lf) (Z : XZ) (b : Nat) (gf : Nat) (hMV : rgd bX V) (hb2 : b < 2) (hgf : gf < Z.nf) (mo : MO V Z b gf True (QN V b) (QN V b)) (gd : (gf : Int) + 1 = (V 5 6).toInt) (gk : (V 67 gf).toInt = 0)  : Met l yX5_goOnGetting (Cond.code yX5_goOnGetting cX5_goOnGetting 2 none :: GW) (r_x_goOnGetting Z) (va_Pc [.ref (ad 5), .ref (Z.fa gf)] (gp D ks (xw ad kk V L Z) (xty kk Z) sz)) (q_x_goOnGetting D ks ad kk V L Z  b gf (va_A (xw ad kk V L Z) sz)) (zcc Z) (zss Z) (va_A (xw ad kk V L Z) sz) := by
  refine g_met (q_x_goOnGetting D ks ad kk V L Z  b gf) (by decide) (Nat.le_of_ble_eq_true rfl) ?_
  intro p e s m below meth c A ls H locs hx hb hr hml hown hg hlocks hin hnw hgk hP hK hD hS hA hl
  have hown : s.vm.findClass RX5 = some m.cls := hown
  have hl : lv_has ls 2 [(0, .ref (ad 5)), (1, .ref (Z.fa gf))] := hl
  have hP : va_P D vwCl (xw ad kk V L Z) H := hP
  have hD : va_D A (xw ad kk V L Z) := hD
  have hK : va_K D vwCl (xty kk Z) s := hK
  have agV : agr [(3, 13), (5, 6), (5, 8), (5, 9), (5, 10), (5, 11), (5, 12), (5, 13), (5, 14)] [25, 26, 27, 28, 30, 67, 68, 69, 70, 71, 72, 73, 74, 75, 76, 77, 78, 79, 80, 81, 82, 83, 84, 85] V V := agr.rf
  have zoZ : ZL Z Z := ZL.rf
  refine W.know (fun ka kb => ?_)
  refine W.tight (k := zcc Z - zcc Z) (n := zss Z - zss Z) (by omega) (by omega) ?_
  have r1 : 0 ≤ ((V 5 6)).toInt ∧ ((V 5 6)).toInt ≤ 400 := hMV 5 6
  have kdp := i_clamp (x := V 5 6) rfl (by (first | exact om_c66f1b494bd9 gd | omega))
  have hdn : (gf : Int) + 1 ≤ (Z.nf : Int) := by (first | exact om_29efded833ec hgf | omega)
  have mup := MO.up mo
  have msz := mup.1
  have mbk := mup.2.2.2.1
  obtain ⟨xk, fk⟩ := MO.fk mo
  have r2 : (-1) ≤ ((V 71 gf)).toInt ∧ ((V 71 gf)).toInt ≤ 23 := hMV 71 gf
  have r3 : 0 ≤ ((V 75 gf)).toInt ∧ ((V 75 gf)).toInt ≤ 12 := hMV 75 gf
  have r4 : 0 ≤ ((V 80 gf)).toInt ∧ ((V 80 gf)).toInt ≤ 300 := hMV 80 gf
  have r5 : 0 ≤ ((V 84 gf)).toInt ∧ ((V 84 gf)).toInt ≤ 2147483647 := hMV 84 gf
  have r6 : 0 ≤ ((V 5 8)).toInt ∧ ((V 5 8)).toInt ≤ 300 := hMV 5 8
  have r7 : 0 ≤ ((V 5 9)).toInt ∧ ((V 5 9)).toInt ≤ 3 := hMV 5 9
  have r8 : 0 ≤ ((V 3 13)).toInt ∧ ((V 3 13)).toInt ≤ 300 := hMV 3 13
  have r9 : 0 ≤ ((V 43 (5 * b + 2))).toInt ∧ ((V 43 (5 * b + 2))).toInt ≤ ((xcap (5 * b + 2) : Nat) : Int) := hMV 43 (5 * b + 2)
  have r10 : xcap (5 * b + 2) = 24 := xcap_2
  have r11 : 0 ≤ ((V 41 b)).toInt ∧ ((V 41 b)).toInt ≤ 12 := hMV 41 b
  have r12 : 0 ≤ ((V 42 b)).toInt ∧ ((V 42 b)).toInt ≤ 8200 := hMV 42 b
  have fm := fk.2.2.2.2.2.2.1 (by omega)
  refine lv_aload_n hx hb dX5_goOnGetting_0 rfl (lv_at hl 1 rfl) ?_
  refine va_getN (D := D) (ci := 4) (v := .int (V 68 gf)) (fs := (xfFrame V gf)) (C := RX4) (T := TX4) (N := 19) hx hb hg inX4 hown hK hP (336 + gf) (xgFrame hgf) rfl 1 (by decide) (hnw.use 1190 n1190 rfl) (fun _ h9 => h9) rfl dX5_goOnGetting_1 ?_
  refine lv_if_ne (tgt := 29) hx hb dX5_goOnGetting_4 (by decide) (fun c13 => ?_) (fun c13 => ?_)
  · skip
    have f14 : ((V 68 gf)).toInt ≠ 0 := b_neq rfl (by decide) c13
    refine lv_aload_n hx hb dX5_goOnGetting_29 rfl (lv_at hl 1 rfl) ?_
    refine va_getN (D := D) (ci := 4) (v := .int (V 68 gf)) (fs := (xfFrame V gf)) (C := RX4) (T := TX4) (N := 19) hx hb hg inX4 hown hK hP (336 + gf) (xgFrame hgf) rfl 1 (by decide) (hnw.use 1190 n1190 rfl) (fun _ h9 => h9) rfl dX5_goOnGetting_30 ?_
    refine lv_iconst (v := 1) hx hb dX5_goOnGetting_33 (by decide) ?_
    refine lv_icmp_ne (tgt := 71) hx hb dX5_goOnGetting_34 (by decide) (fun c15 => ?_) (fun c15 => ?_)
    · skip
      have f16 : ((V 68 gf)).toInt ≠ 1 := b_neq rfl (by decide) c15
      refine lv_aload_n hx hb dX5_goOnGetting_71 rfl (lv_at hl 0 rfl) ?_
      refine va_get (D := D) (ci := 5) (v := .int (V 5 9)) (fs := (xfMachine ad V L Z)) (C := RX5) (T := TX5) (N := 15) hx hb hg inX5 hown hK hP 5 xgMachine rfl 9 (by decide) (hg _ w676) (fun _ h9 => h9) rfl dX5_goOnGetting_72 ?_
      refine lv_iconst (v := 3) hx hb dX5_goOnGetting_75 (by decide) ?_
      refine lv_icmp_ne (tgt := 84) hx hb dX5_goOnGetting_76 (by decide) (fun c17 => ?_) (fun c17 => ?_)
      · skip
        have f18 : ((V 5 9)).toInt ≠ 3 := b_neq rfl (by decide) c17
        refine lv_aload_n hx hb dX5_goOnGetting_84 rfl (lv_at hl 0 rfl) ?_
        refine lv_aload_n hx hb dX5_goOnGetting_85 rfl (lv_at hl 1 rfl) ?_
        have me19 : ME V V gf := ME.rf
        have mo20 : MO V Z b gf True True False := MO.ch mo me19 rfl rfl False.elim (fun x h => FK.k0 (by omega) (by omega))
        refine W.know (fun k22 k23 => ?_)
        obtain ⟨Hk21, hHk21⟩ : ∃ z, z = H := ⟨_, rfl⟩
        have k22 : Hk21.size ≤ s.heap.size + (zcc Z - zcc Z) := by rw [hHk21]; exact k22
        have k23 : tot Hk21 ≤ tot s.heap + (zss Z - zss Z) := by rw [hHk21]; exact k23
        refine gZ_void (gA_runV (As := [.ref (Z.fa gf)]) (rest := []) (ci := 5) (q0 := 5) hx hb hml hown hg hP hD hK hS hA hnw hgk (x_undoNext l D ks H.size ad kk V L Z (b) (gf) hMV (show b < 2 from by (first | exact om_f940a4667dd6 hb2 | omega)) (show gf < Z.nf from by (first | exact om_8c5722e49bb1 hgf | omega)) mo20 (show (gf : Int) + 1 = (V 5 6).toInt from by (first | exact om_b7eb86266639 gd | omega)) (show (V 67 gf).toInt = 0 from by (first | exact om_b66ba74381d5 gk | omega))) w1316 w1318 w52 w171 w1319 rfl xgMachine hdV_yX5_undoNext ⟨Nat.le_of_ble_eq_true rfl, Nat.le_of_ble_eq_true rfl⟩ rfl hl.1 rfl (Nat.le_of_ble_eq_true rfl) dX5_goOnGetting_86 ⟨z1 zoZ.1, z1 zoZ.2.1⟩) hD hS hA (fun u25 H locs w26 hP hD hK hS y27 y28 => ?_)
        obtain ⟨V29, L30, Z31⟩ := u25
        obtain ⟨hMV29, ajV29, axL30, zlZ31, t33⟩ := w26
        have axL30 : L = L30 := Eq.symm axL30
        subst axL30
        have hP : va_P D vwCl (xw ad kk V29 L Z31) H := hP
        have hD : va_D A (xw ad kk V29 L Z31) := hD
        have hK : va_K D vwCl (xty kk Z31) s := hK
        have hMV29 : rgd bX V29 := hMV29
        have ajV29 : agr [(5, 6), (5, 8), (5, 9), (5, 11), (5, 12)] [67, 68, 69, 70, 71, 72, 73, 74, 75, 76, 77, 78, 79, 80, 81, 82, 83, 84, 85] V V29 := ajV29
        have agV29 : agr [(3, 13), (5, 6), (5, 8), (5, 9), (5, 10), (5, 11), (5, 12), (5, 13), (5, 14)] [25, 26, 27, 28, 30, 67, 68, 69, 70, 71, 72, 73, 74, 75, 76, 77, 78, 79, 80, 81, 82, 83, 84, 85] V V29 := agV.tr ajV29 (by decide) (by decide)
        have zlZ31 : ZL Z Z31 := zlZ31
        have zoZ31 : ZL Z Z31 := ZL.tr zoZ zlZ31
        have ziZ31 := zlZ31.1
        have zjZ31 := zlZ31.2.1
        have zkZ31 := zlZ31.2.2.1
        have zmZ31 := zoZ31.1
        have znZ31 := zoZ31.2.1
        have zpZ_Z31 := zoZ.1
        have zqZ_Z31 := zoZ.2.1
        have y27 : H.size ≤ Hk21.size + (zcc Z - zcc Z31) := by rw [hHk21]; exact y27
        have y28 : tot H ≤ tot Hk21 + (zss Z - zss Z31) := by rw [hHk21]; exact y28
        refine W.tight (k := zcc Z - zcc Z31) (n := zss Z - zss Z31) (by first | exact tg9 y27 k22 zlZ31.1 zoZ.1 | omega) (by first | exact tg9 y28 k23 zlZ31.2.1 zoZ.2.1 | omega) ?_
        have hl : lv_has ls 2 [(0, .ref (ad 5)), (1, .ref (Z31.fa gf))] := by rw [zlZ31.2.2.2.2 gf hgf]; exact hl
        have t33 : MJ V29 Z31 b := t33
        refine W.know (fun kr1 kr2 => ?_)
        refine W.widen (k := zcc Z) (n := zss Z) (Nat.sub_le _ _) (Nat.sub_le _ _) ?_
        exact W.vret hx hb hr (fun t ht hW => ⟨⟨(V29, L, Z31), rfl, ⟨hMV29, agV29, rfl, zoZ31, t33⟩, ⟨by rw [ht]; exact hP, va_K.moved hW.alike hK, hD⟩, by rw [ht]; exact kr1, by rw [ht]; exact kr2⟩, hS.F ht⟩) hS.2.2 dX5_goOnGetting_89
      · skip
        have f34 : ((V 5 9)).toInt = 3 := b_eq rfl (by decide) c17
        refine lv_aload_n hx hb dX5_goOnGetting_79 rfl (lv_at hl 1 rfl) ?_
        refine lv_iconst (v := 1) hx hb dX5_goOnGetting_80 (by decide) ?_
        refine va_putN (D := D) (ci := 4) (v := .int 1) (ty := tyX4 16) (fs := (xfFrame V gf)) (C := RX4) (T := TX4) (N := 19) hx hb hg inX4 tyX4 tyX4_ok nmX4 hown hK hP hD hS (336 + gf) (xgFrame hgf) rfl 16 (by decide) (hnw.use 1205 n1205 rfl) (fun _ h9 => h9) rfl (tyX4_ok 16 (by decide)) rfl rfl (Nat.le_of_ble_eq_true rfl) dX5_goOnGetting_81 (fun H locs hP hD hS => ?_)
        obtain ⟨V35, hV35⟩ : ∃ z, z = up2 V 83 gf 1 := ⟨_, rfl⟩
        have ew36 : (xw ad kk V L Z).set (336 + gf) ((Z.fa gf), .inr (4, (xfFrame V gf).set 16 (.int 1))) = xw ad kk V35 L Z := by rw [hV35]; exact xpFrame_spent hgf
        have hP : va_P D vwCl (xw ad kk V35 L Z) H := by rw [← ew36]; exact hP
        have hD : va_D A (xw ad kk V35 L Z) := by rw [← ew36]; exact hD
        have hMV35 : rgd bX V35 := hMV.put hV35 (show 0 ≤ Int32.toInt 1 ∧ Int32.toInt 1 ≤ 1 from by decide)
        have agV35 : agr [(3, 13), (5, 6), (5, 8), (5, 9), (5, 10), (5, 11), (5, 12), (5, 13), (5, 14)] [25, 26, 27, 28, 30, 67, 68, 69, 70, 71, 72, 73, 74, 75, 76, 77, 78, 79, 80, 81, 82, 83, 84, 85] V V35 := agV.up hV35 rfl
        refine lv_aload_n hx hb dX5_goOnGetting_84 rfl (lv_at hl 0 rfl) ?_
        refine lv_aload_n hx hb dX5_goOnGetting_85 rfl (lv_at hl 1 rfl) ?_
        have pq37 : (V35 5 6).toInt = ((V 5 6)).toInt := congrArg Int32.toInt (up2_o hV35 (by decide))
        have pq38 : (V35 67 gf).toInt = ((V 67 gf)).toInt := congrArg Int32.toInt (up2_o hV35 (by decide))
        have me39 : ME V V35 gf := (ME.up ME.rf hV35 (Or.inl ⟨by decide, by decide, Nat.le_refl _⟩))
        have pq40 : (V35 68 gf).toInt = ((V 68 gf)).toInt := congrArg Int32.toInt (up2_o hV35 (by decide))
        have pq41 : (V35 70 gf).toInt = ((V 70 gf)).toInt := congrArg Int32.toInt (up2_o hV35 (by decide))
        have pq42 : (V35 71 gf).toInt = ((V 71 gf)).toInt := congrArg Int32.toInt (up2_o hV35 (by decide))
        have pq43 : (V35 75 gf).toInt = ((V 75 gf)).toInt := congrArg Int32.toInt (up2_o hV35 (by decide))
        have pq44 : (V35 76 gf).toInt = ((V 76 gf)).toInt := congrArg Int32.toInt (up2_o hV35 (by decide))
        have pq45 : (V35 80 gf).toInt = ((V 80 gf)).toInt := congrArg Int32.toInt (up2_o hV35 (by decide))
        have pq46 : (V35 84 gf).toInt = ((V 84 gf)).toInt := congrArg Int32.toInt (up2_o hV35 (by decide))
        have pq47 : (V35 5 8).toInt = ((V 5 8)).toInt := congrArg Int32.toInt (up2_o hV35 (by decide))
        have pq48 : (V35 5 9).toInt = ((V 5 9)).toInt := congrArg Int32.toInt (up2_o hV35 (by decide))
        have pq49 : (V35 3 13).toInt = ((V 3 13)).toInt := congrArg Int32.toInt (up2_o hV35 (by decide))
        have pq50 : (V35 43 (5 * b + 2)).toInt = ((V 43 (5 * b + 2))).toInt := congrArg Int32.toInt (up2_o hV35 (by decide))
        have pq51 : (V35 42 b).toInt = ((V 42 b)).toInt := congrArg Int32.toInt (up2_o hV35 (by decide))
        have pq52 : (V35 41 b).toInt = ((V 41 b)).toInt := congrArg Int32.toInt (up2_o hV35 (by decide))
        have mo53 : MO V35 Z b gf True True False := MO.ch mo me39 (up2_o hV35 (by decide)) (up2_o hV35 (by decide)) False.elim (fun x h => FK.k0 (by omega) (by omega))
        refine W.know (fun k55 k56 => ?_)
        obtain ⟨Hk54, hHk54⟩ : ∃ z, z = H := ⟨_, rfl⟩
        have k55 : Hk54.size ≤ s.heap.size + (zcc Z - zcc Z) := by rw [hHk54]; exact k55
        have k56 : tot Hk54 ≤ tot s.heap + (zss Z - zss Z) := by rw [hHk54]; exact k56
        refine gZ_void (gA_runV (As := [.ref (Z.fa gf)]) (rest := []) (ci := 5) (q0 := 5) hx hb hml hown hg hP hD hK hS hA hnw hgk (x_undoNext l D ks H.size ad kk V35 L Z (b) (gf) hMV35 (show b < 2 from by (first | exact om_f940a4667dd6 hb2 | omega)) (show gf < Z.nf from by (first | exact om_8c5722e49bb1 hgf | omega)) mo53 (show (gf : Int) + 1 = (V35 5 6).toInt from by (first | exact om_6e5bbaaa0e03 gd pq37 | omega)) (show (V35 67 gf).toInt = 0 from by (first | exact om_36161e850215 gk pq38 | omega))) w1316 w1318 w52 w171 w1319 rfl xgMachine hdV_yX5_undoNext ⟨Nat.le_of_ble_eq_true rfl, Nat.le_of_ble_eq_true rfl⟩ rfl hl.1 rfl (Nat.le_of_ble_eq_true rfl) dX5_goOnGetting_86 ⟨z1 zoZ.1, z1 zoZ.2.1⟩) hD hS hA (fun u58 H locs w59 hP hD hK hS y60 y61 => ?_)
        obtain ⟨V62, L63, Z64⟩ := u58
        obtain ⟨hMV62, ajV62, axL63, zlZ64, t66⟩ := w59
        have axL63 : L = L63 := Eq.symm axL63
        subst axL63
        have hP : va_P D vwCl (xw ad kk V62 L Z64) H := hP
        have hD : va_D A (xw ad kk V62 L Z64) := hD
        have hK : va_K D vwCl (xty kk Z64) s := hK
        have hMV62 : rgd bX V62 := hMV62
        have ajV62 : agr [(5, 6), (5, 8), (5, 9), (5, 11), (5, 12)] [67, 68, 69, 70, 71, 72, 73, 74, 75, 76, 77, 78, 79, 80, 81, 82, 83, 84, 85] V35 V62 := ajV62
        have agV62 : agr [(3, 13), (5, 6), (5, 8), (5, 9), (5, 10), (5, 11), (5, 12), (5, 13), (5, 14)] [25, 26, 27, 28, 30, 67, 68, 69, 70, 71, 72, 73, 74, 75, 76, 77, 78, 79, 80, 81, 82, 83, 84, 85] V V62 := agV35.tr ajV62 (by decide) (by decide)
        have zlZ64 : ZL Z Z64 := zlZ64
        have zoZ64 : ZL Z Z64 := ZL.tr zoZ zlZ64
        have ziZ64 := zlZ64.1
        have zjZ64 := zlZ64.2.1
        have zkZ64 := zlZ64.2.2.1
        have zmZ64 := zoZ64.1
        have znZ64 := zoZ64.2.1
        have zpZ_Z64 := zoZ.1
        have zqZ_Z64 := zoZ.2.1
        have y60 : H.size ≤ Hk54.size + (zcc Z - zcc Z64) := by rw [hHk54]; exact y60
        have y61 : tot H ≤ tot Hk54 + (zss Z - zss Z64) := by rw [hHk54]; exact y61
        refine W.tight (k := zcc Z - zcc Z64) (n := zss Z - zss Z64) (by first | exact tg9 y60 k55 zlZ64.1 zoZ.1 | omega) (by first | exact tg9 y61 k56 zlZ64.2.1 zoZ.2.1 | omega) ?_
        have hl : lv_has ls 2 [(0, .ref (ad 5)), (1, .ref (Z64.fa gf))] := by rw [zlZ64.2.2.2.2 gf hgf]; exact hl
        have t66 : MJ V62 Z64 b := t66
        refine W.know (fun kr1 kr2 => ?_)
        refine W.widen (k := zcc Z) (n := zss Z) (Nat.sub_le _ _) (Nat.sub_le _ _) ?_
        exact W.vret hx hb hr (fun t ht hW => ⟨⟨(V62, L, Z64), rfl, ⟨hMV62, agV62, rfl, zoZ64, t66⟩, ⟨by rw [ht]; exact hP, va_K.moved hW.alike hK, hD⟩, by rw [ht]; exact kr1, by rw [ht]; exact kr2⟩, hS.F ht⟩) hS.2.2 dX5_goOnGetting_89
    · skip
      have f67 : ((V 68 gf)).toInt = 1 := b_eq rfl (by decide) c15
      refine lv_aload_n hx hb dX5_goOnGetting_37 rfl (lv_at hl 0 rfl) ?_
      refine va_get (D := D) (ci := 5) (v := .int (V 5 9)) (fs := (xfMachine ad V L Z)) (C := RX5) (T := TX5) (N := 15) hx hb hg inX5 hown hK hP 5 xgMachine rfl 9 (by decide) (hg _ w676) (fun _ h9 => h9) rfl dX5_goOnGetting_38 ?_
      refine lv_iconst (v := 2) hx hb dX5_goOnGetting_41 (by decide) ?_
      refine lv_icmp_eq (tgt := 58) hx hb dX5_goOnGetting_42 (by decide) (fun c68 => ?_) (fun c68 => ?_)
      · skip
        have f69 : ((V 5 9)).toInt = 2 := b_eq rfl (by decide) c68
        refine lv_aload_n hx hb dX5_goOnGetting_58 rfl (lv_at hl 0 rfl) ?_
        refine lv_aload_n hx hb dX5_goOnGetting_59 rfl (lv_at hl 1 rfl) ?_
        refine gA_void (gA_runV (As := [.ref (Z.fa gf)]) (rest := []) (ci := 5) (q0 := 5) hx hb hml hown hg hP hD hK hS hA hnw hgk (x_holdFailure2 l D ks H.size ad kk V L Z (gf) hMV (show gf < Z.nf from by (first | exact om_8c5722e49bb1 hgf | omega))) w1312 w1314 w51 w171 w1315 rfl xgMachine hdV_yX5_holdFailure ⟨Nat.le_of_ble_eq_true rfl, Nat.le_of_ble_eq_true rfl⟩ rfl hl.1 rfl (Nat.le_of_ble_eq_true rfl) dX5_goOnGetting_60 ⟨z0, z0⟩) hP hD hK hS hA (fun u71 H locs w72 hP hD hK hS => ?_)
        obtain ⟨V74, L75⟩ := u71
        obtain ⟨hMV74, ajV74, axL75, t73⟩ := w72
        have axL75 : L = L75 := Eq.symm axL75
        subst axL75
        have hP : va_P D vwCl (xw ad kk V74 L Z) H := hP
        have hD : va_D A (xw ad kk V74 L Z) := hD
        have hMV74 : rgd bX V74 := hMV74
        have ajV74 : agr [] [81, 82] V V74 := ajV74
        have agV74 : agr [(3, 13), (5, 6), (5, 8), (5, 9), (5, 10), (5, 11), (5, 12), (5, 13), (5, 14)] [25, 26, 27, 28, 30, 67, 68, 69, 70, 71, 72, 73, 74, 75, 76, 77, 78, 79, 80, 81, 82, 83, 84, 85] V V74 := agV.tr ajV74 (by decide) (by decide)
        have t73 : ME V V74 gf := t73
        refine lv_aload_n hx hb dX5_goOnGetting_63 rfl (lv_at hl 1 rfl) ?_
        refine lv_iconst (v := 2) hx hb dX5_goOnGetting_64 (by decide) ?_
        refine va_putN (D := D) (ci := 4) (v := .int 2) (ty := tyX4 1) (fs := (xfFrame V74 gf)) (C := RX4) (T := TX4) (N := 19) hx hb hg inX4 tyX4 tyX4_ok nmX4 hown hK hP hD hS (336 + gf) (xgFrame hgf) rfl 1 (by decide) (hnw.use 1190 n1190 rfl) (fun _ h9 => h9) rfl (tyX4_ok 1 (by decide)) rfl rfl (Nat.le_of_ble_eq_true rfl) dX5_goOnGetting_65 (fun H locs hP hD hS => ?_)
        obtain ⟨V76, hV76⟩ : ∃ z, z = up2 V74 68 gf 2 := ⟨_, rfl⟩
        have ew77 : (xw ad kk V74 L Z).set (336 + gf) ((Z.fa gf), .inr (4, (xfFrame V74 gf).set 1 (.int 2))) = xw ad kk V76 L Z := by rw [hV76]; exact xpFrame_phase hgf
        have hP : va_P D vwCl (xw ad kk V76 L Z) H := by rw [← ew77]; exact hP
        have hD : va_D A (xw ad kk V76 L Z) := by rw [← ew77]; exact hD
        have hMV76 : rgd bX V76 := hMV74.put hV76 (i_full _)
        have agV76 : agr [(3, 13), (5, 6), (5, 8), (5, 9), (5, 10), (5, 11), (5, 12), (5, 13), (5, 14)] [25, 26, 27, 28, 30, 67, 68, 69, 70, 71, 72, 73, 74, 75, 76, 77, 78, 79, 80, 81, 82, 83, 84, 85] V V76 := agV74.up hV76 rfl
        refine lv_goto (tgt := 84) hx hb dX5_goOnGetting_68 (by decide) ?_
        refine lv_aload_n hx hb dX5_goOnGetting_84 rfl (lv_at hl 0 rfl) ?_
        refine lv_aload_n hx hb dX5_goOnGetting_85 rfl (lv_at hl 1 rfl) ?_
        have pq78 : (V76 5 6).toInt = ((V 5 6)).toInt := congrArg Int32.toInt ((up2_o hV76 (by decide)).trans (ajV74 5 6 rfl))
        have pq79 : (V76 67 gf).toInt = ((V 67 gf)).toInt := congrArg Int32.toInt ((up2_o hV76 (by decide)).trans (ajV74 67 gf rfl))
        have me80 : ME V V76 gf := (ME.up (ME.tr ME.rf t73) hV76 (Or.inl ⟨by decide, by decide, Nat.le_refl _⟩))
        have pq81 : (V76 68 gf).toInt = 2 := (congrArg Int32.toInt (up2_s hV76)).trans (by decide)
        have pq82 : (V76 70 gf).toInt = ((V 70 gf)).toInt := congrArg Int32.toInt ((up2_o hV76 (by decide)).trans (ajV74 70 gf rfl))
        have pq83 : (V76 71 gf).toInt = ((V 71 gf)).toInt := congrArg Int32.toInt ((up2_o hV76 (by decide)).trans (ajV74 71 gf rfl))
        have pq84 : (V76 75 gf).toInt = ((V 75 gf)).toInt := congrArg Int32.toInt ((up2_o hV76 (by decide)).trans (ajV74 75 gf rfl))
        have pq85 : (V76 76 gf).toInt = ((V 76 gf)).toInt := congrArg Int32.toInt ((up2_o hV76 (by decide)).trans (ajV74 76 gf rfl))
        have pq86 : (V76 80 gf).toInt = ((V 80 gf)).toInt := congrArg Int32.toInt ((up2_o hV76 (by decide)).trans (ajV74 80 gf rfl))
        have pq87 : (V76 84 gf).toInt = ((V 84 gf)).toInt := congrArg Int32.toInt ((up2_o hV76 (by decide)).trans (ajV74 84 gf rfl))
        have pq88 : (V76 5 8).toInt = ((V 5 8)).toInt := congrArg Int32.toInt ((up2_o hV76 (by decide)).trans (ajV74 5 8 rfl))
        have pq89 : (V76 5 9).toInt = ((V 5 9)).toInt := congrArg Int32.toInt ((up2_o hV76 (by decide)).trans (ajV74 5 9 rfl))
        have pq90 : (V76 3 13).toInt = ((V 3 13)).toInt := congrArg Int32.toInt ((up2_o hV76 (by decide)).trans (ajV74 3 13 rfl))
        have pq91 : (V76 43 (5 * b + 2)).toInt = ((V 43 (5 * b + 2))).toInt := congrArg Int32.toInt ((up2_o hV76 (by decide)).trans (ajV74 43 (5 * b + 2) rfl))
        have pq92 : (V76 42 b).toInt = ((V 42 b)).toInt := congrArg Int32.toInt ((up2_o hV76 (by decide)).trans (ajV74 42 b rfl))
        have pq93 : (V76 41 b).toInt = ((V 41 b)).toInt := congrArg Int32.toInt ((up2_o hV76 (by decide)).trans (ajV74 41 b rfl))
        have mo94 : MO V76 Z b gf True True False := MO.ch mo me80 ((up2_o hV76 (by decide)).trans (ajV74 67 gf rfl)) ((up2_o hV76 (by decide)).trans (ajV74 80 gf rfl)) False.elim (fun x h => FK.k0 (by omega) (by omega))
        refine W.know (fun k96 k97 => ?_)
        obtain ⟨Hk95, hHk95⟩ : ∃ z, z = H := ⟨_, rfl⟩
        have k96 : Hk95.size ≤ s.heap.size + (zcc Z - zcc Z) := by rw [hHk95]; exact k96
        have k97 : tot Hk95 ≤ tot s.heap + (zss Z - zss Z) := by rw [hHk95]; exact k97
        refine gZ_void (gA_runV (As := [.ref (Z.fa gf)]) (rest := []) (ci := 5) (q0 := 5) hx hb hml hown hg hP hD hK hS hA hnw hgk (x_undoNext l D ks H.size ad kk V76 L Z (b) (gf) hMV76 (show b < 2 from by (first | exact om_f940a4667dd6 hb2 | omega)) (show gf < Z.nf from by (first | exact om_8c5722e49bb1 hgf | omega)) mo94 (show (gf : Int) + 1 = (V76 5 6).toInt from by (first | exact om_6e5bbaaa0e03 gd pq78 | omega)) (show (V76 67 gf).toInt = 0 from by (first | exact om_36161e850215 gk pq79 | omega))) w1316 w1318 w52 w171 w1319 rfl xgMachine hdV_yX5_undoNext ⟨Nat.le_of_ble_eq_true rfl, Nat.le_of_ble_eq_true rfl⟩ rfl hl.1 rfl (Nat.le_of_ble_eq_true rfl) dX5_goOnGetting_86 ⟨z1 zoZ.1, z1 zoZ.2.1⟩) hD hS hA (fun u99 H locs w100 hP hD hK hS y101 y102 => ?_)
        obtain ⟨V103, L104, Z105⟩ := u99
        obtain ⟨hMV103, ajV103, axL104, zlZ105, t107⟩ := w100
        have axL104 : L = L104 := Eq.symm axL104
        subst axL104
        have hP : va_P D vwCl (xw ad kk V103 L Z105) H := hP
        have hD : va_D A (xw ad kk V103 L Z105) := hD
        have hK : va_K D vwCl (xty kk Z105) s := hK
        have hMV103 : rgd bX V103 := hMV103
        have ajV103 : agr [(5, 6), (5, 8), (5, 9), (5, 11), (5, 12)] [67, 68, 69, 70, 71, 72, 73, 74, 75, 76, 77, 78, 79, 80, 81, 82, 83, 84, 85] V76 V103 := ajV103
        have agV103 : agr [(3, 13), (5, 6), (5, 8), (5, 9), (5, 10), (5, 11), (5, 12), (5, 13), (5, 14)] [25, 26, 27, 28, 30, 67, 68, 69, 70, 71, 72, 73, 74, 75, 76, 77, 78, 79, 80, 81, 82, 83, 84, 85] V V103 := agV76.tr ajV103 (by decide) (by decide)
        have zlZ105 : ZL Z Z105 := zlZ105
        have zoZ105 : ZL Z Z105 := ZL.tr zoZ zlZ105
        have ziZ105 := zlZ105.1
        have zjZ105 := zlZ105.2.1
        have zkZ105 := zlZ105.2.2.1
        have zmZ105 := zoZ105.1
        have znZ105 := zoZ105.2.1
        have zpZ_Z105 := zoZ.1
        have zqZ_Z105 := zoZ.2.1
        have y101 : H.size ≤ Hk95.size + (zcc Z - zcc Z105) := by rw [hHk95]; exact y101
        have y102 : tot H ≤ tot Hk95 + (zss Z - zss Z105) := by rw [hHk95]; exact y102
        refine W.tight (k := zcc Z - zcc Z105) (n := zss Z - zss Z105) (by first | exact tg9 y101 k96 zlZ105.1 zoZ.1 | omega) (by first | exact tg9 y102 k97 zlZ105.2.1 zoZ.2.1 | omega) ?_
        have hl : lv_has ls 2 [(0, .ref (ad 5)), (1, .ref (Z105.fa gf))] := by rw [zlZ105.2.2.2.2 gf hgf]; exact hl
        have t107 : MJ V103 Z105 b := t107
        refine W.know (fun kr1 kr2 => ?_)
        refine W.widen (k := zcc Z) (n := zss Z) (Nat.sub_le _ _) (Nat.sub_le _ _) ?_
        exact W.vret hx hb hr (fun t ht hW => ⟨⟨(V103, L, Z105), rfl, ⟨hMV103, agV103, rfl, zoZ105, t107⟩, ⟨by rw [ht]; exact hP, va_K.moved hW.alike hK, hD⟩, by rw [ht]; exact kr1, by rw [ht]; exact kr2⟩, hS.F ht⟩) hS.2.2 dX5_goOnGetting_89
      · skip
        have f108 : ((V 5 9)).toInt ≠ 2 := b_neq rfl (by decide) c68
        refine lv_aload_n hx hb dX5_goOnGetting_45 rfl (lv_at hl 0 rfl) ?_
        refine lv_aload_n hx hb dX5_goOnGetting_46 rfl (lv_at hl 1 rfl) ?_
        refine va_getN (D := D) (ci := 4) (v := .int (V 80 gf)) (fs := (xfFrame V gf)) (C := RX4) (T := TX4) (N := 19) hx hb hg inX4 hown hK hP (336 + gf) (xgFrame hgf) rfl 13 (by decide) (hnw.use 1202 n1202 rfl) (fun _ h9 => h9) rfl dX5_goOnGetting_47 ?_
        refine va_put (D := D) (ci := 5) (v := .int (V 80 gf)) (ty := tyX5 8) (fs := (xfMachine ad V L Z)) (C := RX5) (T := TX5) (N := 15) hx hb hg inX5 tyX5 tyX5_ok nmX5 hown hK hP hD hS 5 xgMachine rfl 8 (by decide) (hg _ w675) (fun _ h9 => h9) rfl (tyX5_ok 8 (by decide)) rfl rfl (Nat.le_of_ble_eq_true rfl) dX5_goOnGetting_50 (fun H locs hP hD hS => ?_)
        obtain ⟨V109, hV109⟩ : ∃ z, z = up2 V 5 8 (V 80 gf) := ⟨_, rfl⟩
        have ew110 : (xw ad kk V L Z).set 5 ((ad 5), .inr (5, (xfMachine ad V L Z).set 8 (.int (V 80 gf)))) = xw ad kk V109 L Z := by rw [hV109]; exact xw_ss (by decide) rfl (xb_si (by decide))
        have hP : va_P D vwCl (xw ad kk V109 L Z) H := by rw [← ew110]; exact hP
        have hD : va_D A (xw ad kk V109 L Z) := by rw [← ew110]; exact hD
        have hMV109 : rgd bX V109 := hMV.put hV109 (show 0 ≤ ((V 80 gf)).toInt ∧ ((V 80 gf)).toInt ≤ 300 from by (first | exact om_c7b5e7b90639 r4.1 r4.2 | omega))
        have agV109 : agr [(3, 13), (5, 6), (5, 8), (5, 9), (5, 10), (5, 11), (5, 12), (5, 13), (5, 14)] [25, 26, 27, 28, 30, 67, 68, 69, 70, 71, 72, 73, 74, 75, 76, 77, 78, 79, 80, 81, 82, 83, 84, 85] V V109 := agV.up hV109 rfl
        have mo1 : MO V109 Z b gf True True (QN V b) := MO.mcnt mo (by (first | exact om_b66ba74381d5 gk | omega)) hV109 (by (first | exact om_5977f3d8a10f | omega)) (by omega) (by (first | exact om_eafa9039069c r4.1 | omega)) Or.inl
        refine lv_aload_n hx hb dX5_goOnGetting_53 rfl (lv_at hl 0 rfl) ?_
        have pq111 : (V109 5 6).toInt = ((V 5 6)).toInt := congrArg Int32.toInt (up2_k hV109 (by decide))
        refine gA_void (gA_runV (As := []) (rest := []) (ci := 5) (q0 := 5) hx hb hml hown hg hP hD hK hS hA hnw hgk (x_leave l D ks H.size ad kk V109 L Z  hMV109 (show 1 ≤ (V109 5 6).toInt from by (first | exact om_0cac171fa40c gd pq111 | omega))) w1308 w1310 w50 w171 w1311 rfl xgMachine hdV_yX5_leave ⟨Nat.le_of_ble_eq_true rfl, Nat.le_of_ble_eq_true rfl⟩ rfl hl.1 rfl (Nat.le_of_ble_eq_true rfl) dX5_goOnGetting_54 ⟨z0, z0⟩) hP hD hK hS hA (fun u113 H locs w114 hP hD hK hS => ?_)
        obtain ⟨V116, L117⟩ := u113
        obtain ⟨hMV116, ajV116, axL117, t115⟩ := w114
        have axL117 : L = L117 := Eq.symm axL117
        subst axL117
        have hP : va_P D vwCl (xw ad kk V116 L Z) H := hP
        have hD : va_D A (xw ad kk V116 L Z) := hD
        have hMV116 : rgd bX V116 := hMV116
        have ajV116 : agr [(5, 6)] [] V109 V116 := ajV116
        have agV116 : agr [(3, 13), (5, 6), (5, 8), (5, 9), (5, 10), (5, 11), (5, 12), (5, 13), (5, 14)] [25, 26, 27, 28, 30, 67, 68, 69, 70, 71, 72, 73, 74, 75, 76, 77, 78, 79, 80, 81, 82, 83, 84, 85] V V116 := agV109.tr ajV116 (by decide) (by decide)
        have t115 : (V116 5 6).toInt = (V109 5 6).toInt - 1 := t115
        have r118 : 0 ≤ ((V116 5 6)).toInt ∧ ((V116 5 6)).toInt ≤ 400 := hMV116 5 6
        have me119 : ME V109 V116 gf := (ME.tr ME.rf (ME.ag ajV116 (by decide)))
        have pq120 : (V116 67 gf).toInt = ((V 67 gf)).toInt := congrArg Int32.toInt ((ajV116 67 gf rfl).trans (up2_o hV109 (by decide)))
        have pq121 : (V116 68 gf).toInt = ((V 68 gf)).toInt := congrArg Int32.toInt ((ajV116 68 gf rfl).trans (up2_o hV109 (by decide)))
        have pq122 : (V116 70 gf).toInt = ((V 70 gf)).toInt := congrArg Int32.toInt ((ajV116 70 gf rfl).trans (up2_o hV109 (by decide)))
        have pq123 : (V116 71 gf).toInt = ((V 71 gf)).toInt := congrArg Int32.toInt ((ajV116 71 gf rfl).trans (up2_o hV109 (by decide)))
        have pq124 : (V116 75 gf).toInt = ((V 75 gf)).toInt := congrArg Int32.toInt ((ajV116 75 gf rfl).trans (up2_o hV109 (by decide)))
        have pq125 : (V116 76 gf).toInt = ((V 76 gf)).toInt := congrArg Int32.toInt ((ajV116 76 gf rfl).trans (up2_o hV109 (by decide)))
        have pq126 : (V116 80 gf).toInt = ((V 80 gf)).toInt := congrArg Int32.toInt ((ajV116 80 gf rfl).trans (up2_o hV109 (by decide)))
        have pq127 : (V116 84 gf).toInt = ((V 84 gf)).toInt := congrArg Int32.toInt ((ajV116 84 gf rfl).trans (up2_o hV109 (by decide)))
        have pq128 : (V116 5 8).toInt = ((V 80 gf)).toInt := congrArg Int32.toInt ((ajV116 5 8 rfl).trans (up2_s hV109))
        have pq129 : (V116 5 9).toInt = ((V 5 9)).toInt := congrArg Int32.toInt ((ajV116 5 9 rfl).trans (up2_k hV109 (by decide)))
        have pq130 : (V116 3 13).toInt = ((V 3 13)).toInt := congrArg Int32.toInt ((ajV116 3 13 rfl).trans (up2_o hV109 (by decide)))
        have pq131 : (V116 43 (5 * b + 2)).toInt = ((V 43 (5 * b + 2))).toInt := congrArg Int32.toInt ((ajV116 43 (5 * b + 2) rfl).trans (up2_o hV109 (by decide)))
        have pq132 : (V116 42 b).toInt = ((V 42 b)).toInt := congrArg Int32.toInt ((ajV116 42 b rfl).trans (up2_o hV109 (by decide)))
        have pq133 : (V116 41 b).toInt = ((V 41 b)).toInt := congrArg Int32.toInt ((ajV116 41 b rfl).trans (up2_o hV109 (by decide)))
        have me134 : ME V109 V116 gf := (ME.tr ME.rf (ME.ag ajV116 (by decide)))
        have rp135 : MJ V116 Z b := MP.lv (MO.mp mo1) me119 (by (first | exact om_5ac7632c8ef3 gd pq111 t115 | omega)) (fun z => Or.inr (QN.eq ((ajV116 5 9 rfl).trans (up2_k hV109 (by omega))) ((ajV116 5 10 rfl).trans (up2_k hV109 (by omega))) ((ajV116 3 13 rfl).trans (up2_o hV109 (by decide))) (fun k => ((ajV116 26 k rfl).trans (up2_o hV109 (by decide)))) (fun c k a1 a2 => (me134.1 c k a1 a2).trans (up2_o hV109 (by omega))) z))
        refine W.know (fun kr1 kr2 => ?_)
        refine W.widen (k := zcc Z) (n := zss Z) (Nat.sub_le _ _) (Nat.sub_le _ _) ?_
        exact W.vret hx hb hr (fun t ht hW => ⟨⟨(V116, L, Z), rfl, ⟨hMV116, agV116, rfl, zoZ, rp135⟩, ⟨by rw [ht]; exact hP, va_K.moved hW.alike hK, hD⟩, by rw [ht]; exact kr1, by rw [ht]; exact kr2⟩, hS.F ht⟩) hS.2.2 dX5_goOnGetting_57
  · skip
    have f136 : ((V 68 gf)).toInt = 0 := b_eq rfl (by decide) c13
    refine lv_aload_n hx hb dX5_goOnGetting_7 rfl (lv_at hl 1 rfl) ?_
    refine lv_iconst (v := 1) hx hb dX5_goOnGetting_8 (by decide) ?_
    refine va_putN (D := D) (ci := 4) (v := .int 1) (ty := tyX4 1) (fs := (xfFrame V gf)) (C := RX4) (T := TX4) (N := 19) hx hb hg inX4 tyX4 tyX4_ok nmX4 hown hK hP hD hS (336 + gf) (xgFrame hgf) rfl 1 (by decide) (hnw.use 1190 n1190 rfl) (fun _ h9 => h9) rfl (tyX4_ok 1 (by decide)) rfl rfl (Nat.le_of_ble_eq_true rfl) dX5_goOnGetting_9 (fun H locs hP hD hS => ?_)
    obtain ⟨V137, hV137⟩ : ∃ z, z = up2 V 68 gf 1 := ⟨_, rfl⟩
    have ew138 : (xw ad kk V L Z).set (336 + gf) ((Z.fa gf), .inr (4, (xfFrame V gf).set 1 (.int 1))) = xw ad kk V137 L Z := by rw [hV137]; exact xpFrame_phase hgf
    have hP : va_P D vwCl (xw ad kk V137 L Z) H := by rw [← ew138]; exact hP
    have hD : va_D A (xw ad kk V137 L Z) := by rw [← ew138]; exact hD
    have hMV137 : rgd bX V137 := hMV.put hV137 (i_full _)
    have agV137 : agr [(3, 13), (5, 6), (5, 8), (5, 9), (5, 10), (5, 11), (5, 12), (5, 13), (5, 14)] [25, 26, 27, 28, 30, 67, 68, 69, 70, 71, 72, 73, 74, 75, 76, 77, 78, 79, 80, 81, 82, 83, 84, 85] V V137 := agV.up hV137 rfl
    refine lv_aload_n hx hb dX5_goOnGetting_12 rfl (lv_at hl 0 rfl) ?_
    refine lv_aload_n hx hb dX5_goOnGetting_13 rfl (lv_at hl 1 rfl) ?_
    refine va_getN (D := D) (ci := 4) (v := .int (V137 71 gf)) (fs := (xfFrame V137 gf)) (C := RX4) (T := TX4) (N := 19) hx hb hg inX4 hown hK hP (336 + gf) (xgFrame hgf) rfl 4 (by decide) (hnw.use 1193 n1193 rfl) (fun _ h9 => h9) rfl dX5_goOnGetting_14 ?_
    refine g_top (v := (V 71 gf)) (up2_o hV137 (by decide)) ?_
    refine lv_aload_n hx hb dX5_goOnGetting_17 rfl (lv_at hl 1 rfl) ?_
    refine va_getN (D := D) (ci := 4) (v := .int (V137 72 gf)) (fs := (xfFrame V137 gf)) (C := RX4) (T := TX4) (N := 19) hx hb hg inX4 hown hK hP (336 + gf) (xgFrame hgf) rfl 5 (by decide) (hnw.use 1194 n1194 rfl) (fun _ h9 => h9) rfl dX5_goOnGetting_18 ?_
    refine g_top (v := (V 72 gf)) (up2_o hV137 (by decide)) ?_
    have r139 : 0 ≤ ((V 72 gf)).toInt ∧ ((V 72 gf)).toInt ≤ 39 := hMV 72 gf
    refine lv_aload_n hx hb dX5_goOnGetting_21 rfl (lv_at hl 1 rfl) ?_
    refine va_getN (D := D) (ci := 4) (v := .int (V137 69 gf)) (fs := (xfFrame V137 gf)) (C := RX4) (T := TX4) (N := 19) hx hb hg inX4 hown hK hP (336 + gf) (xgFrame hgf) rfl 2 (by decide) (hnw.use 1191 n1191 rfl) (fun _ h9 => h9) rfl dX5_goOnGetting_22 ?_
    refine g_top (v := (V 69 gf)) (up2_o hV137 (by decide)) ?_
    have me140 : ME V V137 gf := (ME.up ME.rf hV137 (Or.inl ⟨by decide, by decide, Nat.le_refl _⟩))
    have pq141 : (V137 67 gf).toInt = ((V 67 gf)).toInt := congrArg Int32.toInt (up2_o hV137 (by decide))
    have pq142 : (V137 68 gf).toInt = 1 := (congrArg Int32.toInt (up2_s hV137)).trans (by decide)
    have pq143 : (V137 70 gf).toInt = ((V 70 gf)).toInt := congrArg Int32.toInt (up2_o hV137 (by decide))
    have pq144 : (V137 71 gf).toInt = ((V 71 gf)).toInt := congrArg Int32.toInt (up2_o hV137 (by decide))
    have pq145 : (V137 75 gf).toInt = ((V 75 gf)).toInt := congrArg Int32.toInt (up2_o hV137 (by decide))
    have pq146 : (V137 76 gf).toInt = ((V 76 gf)).toInt := congrArg Int32.toInt (up2_o hV137 (by decide))
    have pq147 : (V137 80 gf).toInt = ((V 80 gf)).toInt := congrArg Int32.toInt (up2_o hV137 (by decide))
    have pq148 : (V137 84 gf).toInt = ((V 84 gf)).toInt := congrArg Int32.toInt (up2_o hV137 (by decide))
    have pq149 : (V137 5 6).toInt = ((V 5 6)).toInt := congrArg Int32.toInt (up2_o hV137 (by decide))
    have pq150 : (V137 5 8).toInt = ((V 5 8)).toInt := congrArg Int32.toInt (up2_o hV137 (by decide))
    have pq151 : (V137 5 9).toInt = ((V 5 9)).toInt := congrArg Int32.toInt (up2_o hV137 (by decide))
    have pq152 : (V137 3 13).toInt = ((V 3 13)).toInt := congrArg Int32.toInt (up2_o hV137 (by decide))
    have pq153 : (V137 43 (5 * b + 2)).toInt = ((V 43 (5 * b + 2))).toInt := congrArg Int32.toInt (up2_o hV137 (by decide))
    have pq154 : (V137 42 b).toInt = ((V 42 b)).toInt := congrArg Int32.toInt (up2_o hV137 (by decide))
    have pq155 : (V137 41 b).toInt = ((V 41 b)).toInt := congrArg Int32.toInt (up2_o hV137 (by decide))
    have mo156 : MO V137 Z b gf True True False := MO.ch mo me140 (up2_o hV137 (by decide)) (up2_o hV137 (by decide)) False.elim (fun x h => FK.k0 (by omega) (by omega))
    have mt157 : MTw V137 Z b := MO.mtw mo156 (by (first | exact om_c09d41618ed8 hgf | omega)) (by (first | exact om_82fa09255765 gd pq149 | omega))
    refine W.know (fun k159 k160 => ?_)
    obtain ⟨Hk158, hHk158⟩ : ∃ z, z = H := ⟨_, rfl⟩
    have k159 : Hk158.size ≤ s.heap.size + (zcc Z - zcc Z) := by rw [hHk158]; exact k159
    have k160 : tot Hk158 ≤ tot s.heap + (zss Z - zss Z) := by rw [hHk158]; exact k160
    refine gZ_void (gA_runV (As := [.int (V 71 gf), .int (V 72 gf), .int (V 69 gf)]) (rest := []) (ci := 5) (q0 := 5) hx hb hml hown hg hP hD hK hS hA hnw hgk (x_seek l D ks H.size ad kk V137 L Z (V 71 gf) (V 72 gf) (V 69 gf) (b) hMV137 (by (first | exact om_6dc9440127e4 r2.1 r2.2 | omega)) (by (first | exact om_13ba01c174fe r139.1 r139.2 | omega)) (show b < 2 from by (first | exact om_f940a4667dd6 hb2 | omega)) mt157) w1256 w1258 w45 w171 w1259 rfl xgMachine hdV_yX5_seek ⟨Nat.le_of_ble_eq_true rfl, Nat.le_of_ble_eq_true rfl⟩ rfl hl.1 rfl (Nat.le_of_ble_eq_true rfl) dX5_goOnGetting_25 ⟨z1 zoZ.1, z1 zoZ.2.1⟩) hD hS hA (fun u162 H locs w163 hP hD hK hS y164 y165 => ?_)
    obtain ⟨V166, L167, Z168⟩ := u162
    obtain ⟨hMV166, ajV166, axL167, zlZ168, t170⟩ := w163
    have axL167 : L = L167 := Eq.symm axL167
    subst axL167
    have hP : va_P D vwCl (xw ad kk V166 L Z168) H := hP
    have hD : va_D A (xw ad kk V166 L Z168) := hD
    have hK : va_K D vwCl (xty kk Z168) s := hK
    have hMV166 : rgd bX V166 := hMV166
    have ajV166 : agr [(3, 13), (5, 6), (5, 9), (5, 10), (5, 11), (5, 12), (5, 13), (5, 14)] [25, 26, 27, 28, 30, 67, 68, 69, 70, 71, 72, 73, 74, 75, 76, 77, 78, 79, 80, 81, 82, 83, 84, 85] V137 V166 := ajV166
    have agV166 : agr [(3, 13), (5, 6), (5, 8), (5, 9), (5, 10), (5, 11), (5, 12), (5, 13), (5, 14)] [25, 26, 27, 28, 30, 67, 68, 69, 70, 71, 72, 73, 74, 75, 76, 77, 78, 79, 80, 81, 82, 83, 84, 85] V V166 := agV137.tr ajV166 (by decide) (by decide)
    have zlZ168 : ZL Z Z168 := zlZ168
    have zoZ168 : ZL Z Z168 := ZL.tr zoZ zlZ168
    have ziZ168 := zlZ168.1
    have zjZ168 := zlZ168.2.1
    have zkZ168 := zlZ168.2.2.1
    have zmZ168 := zoZ168.1
    have znZ168 := zoZ168.2.1
    have zpZ_Z168 := zoZ.1
    have zqZ_Z168 := zoZ.2.1
    have y164 : H.size ≤ Hk158.size + (zcc Z - zcc Z168) := by rw [hHk158]; exact y164
    have y165 : tot H ≤ tot Hk158 + (zss Z - zss Z168) := by rw [hHk158]; exact y165
    refine W.tight (k := zcc Z - zcc Z168) (n := zss Z - zss Z168) (by first | exact tg9 y164 k159 zlZ168.1 zoZ.1 | omega) (by first | exact tg9 y165 k160 zlZ168.2.1 zoZ.2.1 | omega) ?_
    have hl : lv_has ls 2 [(0, .ref (ad 5)), (1, .ref (Z168.fa gf))] := by rw [zlZ168.2.2.2.2 gf hgf]; exact hl
    have t170 : MJ V166 Z168 b := t170
    refine W.know (fun kr1 kr2 => ?_)
    refine W.widen (k := zcc Z) (n := zss Z) (Nat.sub_le _ _) (Nat.sub_le _ _) ?_
    exact W.vret hx hb hr (fun t ht hW => ⟨⟨(V166, L, Z168), rfl, ⟨hMV166, agV166, rfl, zoZ168, t170⟩, ⟨by rw [ht]; exact hP, va_K.moved hW.alike hK, hD⟩, by rw [ht]; exact kr1, by rw [ht]; exact kr2⟩, hS.F ht⟩) hS.2.2 dX5_goOnGetting_28
