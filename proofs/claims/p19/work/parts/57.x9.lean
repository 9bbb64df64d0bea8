theorem w950 : Cond.code yX1_readE cX1_readE 2 (some .boolean) ∈ GW := gw_k tk9_4 75 (rfl) rfl
theorem w947 : Cond.methodLink RX1 171 yX1_readE ∈ GW := gw_k tk9_4 72 (by decide +kernel) rfl
theorem w949 : Cond.instanceMethod yX1_readE ∈ GW := gw_k tk9_4 74 (by decide +kernel) rfl
theorem w20 : Cond.selects RX1 yX1_readE yX1_readE ∈ GW := gw_mem 20 (by decide +kernel) rfl
theorem hdV_yX1_readE : yX1_readE.cls = RX1 ∧ yX1_readE.cls ≠ "java/lang/invoke/MethodHandle" ∧ yX1_readE.cls ≠ "java/lang/invoke/VarHandle" ∧ (parseMethodDescriptor yX1_readE.desc).map (fun d => d.parameters.length) = some 1 := by decide +kernel
theorem w1014 : Cond.code yX3_addNeed cX3_addNeed 4 none ∈ GW := gw_k tk9_4 139 (rfl) rfl
theorem w1011 : Cond.methodLink RX1 193 yX3_addNeed ∈ GW := gw_k tk9_4 136 (by decide +kernel) rfl
theorem w169 : Cond.initialized RX3 ∈ GW := gw_k tk9_1 14 (by decide +kernel) rfl
theorem w1012 : Cond.instanceMethod yX3_addNeed ∈ GW := gw_k tk9_4 137 (by decide +kernel) rfl
theorem w1013 : Cond.selects RX3 yX3_addNeed yX3_addNeed ∈ GW := gw_k tk9_4 138 (by decide +kernel) rfl
theorem hdV_yX3_addNeed : yX3_addNeed.cls = RX3 ∧ yX3_addNeed.cls ≠ "java/lang/invoke/MethodHandle" ∧ yX3_addNeed.cls ≠ "java/lang/invoke/VarHandle" ∧ (parseMethodDescriptor yX3_addNeed.desc).map (fun d => d.parameters.length) = some 3 := by decide +kernel
theorem w926 : Cond.code yX1_takeCalled cX1_takeCalled 1 (some .boolean) ∈ GW := gw_k tk9_4 51 (rfl) rfl
theorem w923 : Cond.methodLink RX1 134 yX1_takeCalled ∈ GW := gw_k tk9_4 48 (by decide +kernel) rfl
theorem w925 : Cond.instanceMethod yX1_takeCalled ∈ GW := gw_k tk9_4 50 (by decide +kernel) rfl
theorem w15 : Cond.selects RX1 yX1_takeCalled yX1_takeCalled ∈ GW := gw_mem 15 (by decide +kernel) rfl
theorem hdV_yX1_takeCalled : yX1_takeCalled.cls = RX1 ∧ yX1_takeCalled.cls ≠ "java/lang/invoke/MethodHandle" ∧ yX1_takeCalled.cls ≠ "java/lang/invoke/VarHandle" ∧ (parseMethodDescriptor yX1_takeCalled.desc).map (fun d => d.parameters.length) = some 0 := by decide +kernel
theorem w1010 : Cond.code yX1_readNeed cX1_readNeed 4 (some .boolean) ∈ GW := gw_k tk9_4 135 (rfl) rfl
theorem w1007 : Cond.methodLink RX1 178 yX1_readNeed ∈ GW := gw_k tk9_4 132 (by decide +kernel) rfl
theorem w1009 : Cond.instanceMethod yX1_readNeed ∈ GW := gw_k tk9_4 134 (by decide +kernel) rfl
theorem w32 : Cond.selects RX1 yX1_readNeed yX1_readNeed ∈ GW := gw_mem 32 (by decide +kernel) rfl
theorem hdV_yX1_readNeed : yX1_readNeed.cls = RX1 ∧ yX1_readNeed.cls ≠ "java/lang/invoke/MethodHandle" ∧ yX1_readNeed.cls ≠ "java/lang/invoke/VarHandle" ∧ (parseMethodDescriptor yX1_readNeed.desc).map (fun d => d.parameters.length) = some 0 := by decide +kernel
theorem n538 : lw_tbl[538]? = some (Cond.fieldLinkNest RX1 181 "WiringHouse$Component" "openedStart" "I" "WiringHouse") := la9 (n := 155) (i := 383) lz9 (la9 (n := 240) (i := 143) ln9_1 (lb9 (i := 143) (by decide +kernel)))
theorem n541 : lw_tbl[541]? = some (Cond.fieldLinkNest RX1 184 "WiringHouse$Component" "closedStart" "I" "WiringHouse") := la9 (n := 155) (i := 386) lz9 (la9 (n := 240) (i := 146) ln9_1 (lb9 (i := 146) (by decide +kernel)))
theorem w1018 : Cond.code yX1_readMethod cX1_readMethod 2 (some .boolean) ∈ GW := gw_k tk9_4 143 (rfl) rfl
theorem w1015 : Cond.methodLink RX1 187 yX1_readMethod ∈ GW := gw_k tk9_4 140 (by decide +kernel) rfl
theorem w1017 : Cond.instanceMethod yX1_readMethod ∈ GW := gw_k tk9_4 142 (by decide +kernel) rfl
theorem w33 : Cond.selects RX1 yX1_readMethod yX1_readMethod ∈ GW := gw_mem 33 (by decide +kernel) rfl
theorem hdV_yX1_readMethod : yX1_readMethod.cls = RX1 ∧ yX1_readMethod.cls ≠ "java/lang/invoke/MethodHandle" ∧ yX1_readMethod.cls ≠ "java/lang/invoke/VarHandle" ∧ (parseMethodDescriptor yX1_readMethod.desc).map (fun d => d.parameters.length) = some 0 := by decide +kernel
theorem n626 : lw_tbl[626]? = some (Cond.fieldLinkNest RX1 155 "WiringHouse$Book" "wrapCount" "I" "WiringHouse") := la9 (n := 155) (i := 471) lz9 (la9 (n := 240) (i := 231) ln9_1 (lb9 (i := 231) (by decide +kernel)))
theorem w1002 : Cond.code yX0_addWrap cX0_addWrap 8 none ∈ GW := gw_k tk9_4 127 (rfl) rfl
theorem w999 : Cond.methodLink RX1 174 yX0_addWrap ∈ GW := gw_k tk9_4 124 (by decide +kernel) rfl
theorem w1000 : Cond.instanceMethod yX0_addWrap ∈ GW := gw_k tk9_4 125 (by decide +kernel) rfl
theorem w1001 : Cond.selects RX0 yX0_addWrap yX0_addWrap ∈ GW := gw_k tk9_4 126 (by decide +kernel) rfl
theorem hdV_yX0_addWrap : yX0_addWrap.cls = RX0 ∧ yX0_addWrap.cls ≠ "java/lang/invoke/MethodHandle" ∧ yX0_addWrap.cls ≠ "java/lang/invoke/VarHandle" ∧ (parseMethodDescriptor yX0_addWrap.desc).map (fun d => d.parameters.length) = some 5 := by decide +kernel
theorem w946 : Cond.code yX0_aroundsOf cX0_aroundsOf 4 (some .int) ∈ GW := gw_k tk9_4 71 (rfl) rfl
theorem w943 : Cond.methodLink RX1 164 yX0_aroundsOf ∈ GW := gw_k tk9_4 68 (by decide +kernel) rfl
theorem w944 : Cond.instanceMethod yX0_aroundsOf ∈ GW := gw_k tk9_4 69 (by decide +kernel) rfl
theorem w945 : Cond.selects RX0 yX0_aroundsOf yX0_aroundsOf ∈ GW := gw_k tk9_4 70 (by decide +kernel) rfl
theorem hdV_yX0_aroundsOf : yX0_aroundsOf.cls = RX0 ∧ yX0_aroundsOf.cls ≠ "java/lang/invoke/MethodHandle" ∧ yX0_aroundsOf.cls ≠ "java/lang/invoke/VarHandle" ∧ (parseMethodDescriptor yX0_aroundsOf.desc).map (fun d => d.parameters.length) = some 1 := by decide +kernel
theorem n533 : lw_tbl[533]? = some (Cond.fieldLinkNest RX1 149 "WiringHouse$Component" "whenSetting" "I" "WiringHouse") := la9 (n := 155) (i := 378) lz9 (la9 (n := 240) (i := 138) ln9_1 (lb9 (i := 138) (by decide +kernel)))
theorem w905 : Cond.constant RX1 102 999999999 ∈ GW := gw_k tk9_4 30 (by decide +kernel) rfl
theorem n536 : lw_tbl[536]? = some (Cond.fieldLinkNest RX1 152 "WiringHouse$Component" "whenValue" "I" "WiringHouse") := la9 (n := 155) (i := 381) lz9 (la9 (n := 240) (i := 141) ln9_1 (lb9 (i := 141) (by decide +kernel)))
theorem n528 : lw_tbl[528]? = some (Cond.fieldLinkNest RX1 143 "WiringHouse$Component" "rank" "I" "WiringHouse") := la9 (n := 155) (i := 373) lz9 (la9 (n := 240) (i := 133) ln9_1 (lb9 (i := 133) (by decide +kernel)))
theorem n524 : lw_tbl[524]? = some (Cond.fieldLinkNest RX1 140 "WiringHouse$Component" "calledWord" "I" "WiringHouse") := la9 (n := 155) (i := 369) lz9 (la9 (n := 240) (i := 129) ln9_1 (lb9 (i := 129) (by decide +kernel)))
theorem w866 : Cond.code yX6_isFull cX6_isFull 1 (some .boolean) ∈ GW := gw_k tk9_3 231 (rfl) rfl
theorem w863 : Cond.methodLink RX1 67 yX6_isFull ∈ GW := gw_k tk9_3 228 (by decide +kernel) rfl
theorem w864 : Cond.instanceMethod yX6_isFull ∈ GW := gw_k tk9_3 229 (by decide +kernel) rfl
theorem w865 : Cond.selects RX6 yX6_isFull yX6_isFull ∈ GW := gw_k tk9_3 230 (by decide +kernel) rfl
theorem hdV_yX6_isFull : yX6_isFull.cls = RX6 ∧ yX6_isFull.cls ≠ "java/lang/invoke/MethodHandle" ∧ yX6_isFull.cls ≠ "java/lang/invoke/VarHandle" ∧ (parseMethodDescriptor yX6_isFull.desc).map (fun d => d.parameters.length) = some 0 := by decide +kernel
theorem w875 : Cond.code yX1_takeNewName cX1_takeNewName 1 (some .boolean) ∈ GW := gw_k tk9_4 0 (rfl) rfl
theorem w872 : Cond.methodLink RX1 75 yX1_takeNewName ∈ GW := gw_k tk9_3 237 (by decide +kernel) rfl
theorem w874 : Cond.instanceMethod yX1_takeNewName ∈ GW := gw_k tk9_3 239 (by decide +kernel) rfl
theorem w7 : Cond.selects RX1 yX1_takeNewName yX1_takeNewName ∈ GW := gw_mem 7 (by decide +kernel) rfl
theorem hdV_yX1_takeNewName : yX1_takeNewName.cls = RX1 ∧ yX1_takeNewName.cls ≠ "java/lang/invoke/MethodHandle" ∧ yX1_takeNewName.cls ≠ "java/lang/invoke/VarHandle" ∧ (parseMethodDescriptor yX1_takeNewName.desc).map (fun d => d.parameters.length) = some 0 := by decide +kernel
theorem n612 : lw_tbl[612]? = some (Cond.fieldLinkNest RX1 107 "WiringHouse$Book" "settingValues" "[I" "WiringHouse") := la9 (n := 155) (i := 457) lz9 (la9 (n := 240) (i := 217) ln9_1 (lb9 (i := 217) (by decide +kernel)))
theorem w887 : Cond.code yX1_takeTypes cX1_takeTypes 3 (some .boolean) ∈ GW := gw_k tk9_4 12 (rfl) rfl
theorem w884 : Cond.methodLink RX1 85 yX1_takeTypes ∈ GW := gw_k tk9_4 9 (by decide +kernel) rfl
theorem w886 : Cond.instanceMethod yX1_takeTypes ∈ GW := gw_k tk9_4 11 (by decide +kernel) rfl
theorem w8 : Cond.selects RX1 yX1_takeTypes yX1_takeTypes ∈ GW := gw_mem 8 (by decide +kernel) rfl
theorem hdV_yX1_takeTypes : yX1_takeTypes.cls = RX1 ∧ yX1_takeTypes.cls ≠ "java/lang/invoke/MethodHandle" ∧ yX1_takeTypes.cls ≠ "java/lang/invoke/VarHandle" ∧ (parseMethodDescriptor yX1_takeTypes.desc).map (fun d => d.parameters.length) = some 0 := by decide +kernel
theorem dk9_dX1_readE_0_0 : dOk cX1_readE [(0, .aload_n 0, 1), (1, .iload_n 1, 1), (2, .putfield 200, 3), (5, .aload_n 0, 1), (6, .iconst 0, 1), (7, .invokevirtual 203, 3), (10, .ifCond .ne 5, 3), (15, .aload_n 0, 1), (16, .getfield 15, 3), (19, .iconst 0, 1), (20, .invokevirtual 206, 3), (23, .aload_n 0, 1), (24, .bipush 59, 2), (26, .invokevirtual 88, 3), (29, .ireturn, 1), (13, .iconst 0, 1), (14, .ireturn, 1)] = true := by decide +kernel
theorem dX1_readE_0 : decode cX1_readE 0 = .ok (.aload_n 0, 1) := dr9 dk9_dX1_readE_0_0 0 (0, .aload_n 0, 1) rfl
theorem dX1_readE_1 : decode cX1_readE 1 = .ok (.iload_n 1, 1) := dr9 dk9_dX1_readE_0_0 1 (1, .iload_n 1, 1) rfl
theorem dX1_readE_2 : decode cX1_readE 2 = .ok (.putfield 200, 3) := dr9 dk9_dX1_readE_0_0 2 (2, .putfield 200, 3) rfl
theorem dX1_readE_5 : decode cX1_readE 5 = .ok (.aload_n 0, 1) := dr9 dk9_dX1_readE_0_0 3 (5, .aload_n 0, 1) rfl
theorem dX1_readE_6 : decode cX1_readE 6 = .ok (.iconst 0, 1) := dr9 dk9_dX1_readE_0_0 4 (6, .iconst 0, 1) rfl
theorem dX1_readE_7 : decode cX1_readE 7 = .ok (.invokevirtual 203, 3) := dr9 dk9_dX1_readE_0_0 5 (7, .invokevirtual 203, 3) rfl
theorem dX1_readE_10 : decode cX1_readE 10 = .ok (.ifCond .ne 5, 3) := dr9 dk9_dX1_readE_0_0 6 (10, .ifCond .ne 5, 3) rfl
theorem dX1_readE_15 : decode cX1_readE 15 = .ok (.aload_n 0, 1) := dr9 dk9_dX1_readE_0_0 7 (15, .aload_n 0, 1) rfl
theorem dX1_readE_16 : decode cX1_readE 16 = .ok (.getfield 15, 3) := dr9 dk9_dX1_readE_0_0 8 (16, .getfield 15, 3) rfl
theorem dX1_readE_19 : decode cX1_readE 19 = .ok (.iconst 0, 1) := dr9 dk9_dX1_readE_0_0 9 (19, .iconst 0, 1) rfl
theorem dX1_readE_20 : decode cX1_readE 20 = .ok (.invokevirtual 206, 3) := dr9 dk9_dX1_readE_0_0 10 (20, .invokevirtual 206, 3) rfl
theorem dX1_readE_23 : decode cX1_readE 23 = .ok (.aload_n 0, 1) := dr9 dk9_dX1_readE_0_0 11 (23, .aload_n 0, 1) rfl
theorem dX1_readE_24 : decode cX1_readE 24 = .ok (.bipush 59, 2) := dr9 dk9_dX1_readE_0_0 12 (24, .bipush 59, 2) rfl
theorem dX1_readE_26 : decode cX1_readE 26 = .ok (.invokevirtual 88, 3) := dr9 dk9_dX1_readE_0_0 13 (26, .invokevirtual 88, 3) rfl
theorem dX1_readE_29 : decode cX1_readE 29 = .ok (.ireturn, 1) := dr9 dk9_dX1_readE_0_0 14 (29, .ireturn, 1) rfl
theorem dX1_readE_13 : decode cX1_readE 13 = .ok (.iconst 0, 1) := dr9 dk9_dX1_readE_0_0 15 (13, .iconst 0, 1) rfl
theorem dX1_readE_14 : decode cX1_readE 14 = .ok (.ireturn, 1) := dr9 dk9_dX1_readE_0_0 16 (14, .ireturn, 1) rfl
theorem dk9_dX1_readMethod_0_0 : dOk cX1_readMethod [(0, .aload_n 0, 1), (1, .getfield 15, 3), (4, .getfield 168, 3), (7, .istore_n 1, 1), (8, .aload_n 0, 1), (9, .getfield 9, 3), (12, .invokevirtual 72, 3), (15, .aload_n 0, 1), (16, .aload_n 0, 1), (17, .getfield 24, 3), (20, .invokevirtual 161, 3), (23, .ifCond .ne 5, 3), (28, .aload_n 0, 1), (29, .getfield 24, 3), (32, .getfield 197, 3), (35, .aload_n 0, 1), (36, .getfield 137, 3), (39, .iload_n 1, 1), (40, .iastore, 1), (41, .aload_n 0, 1), (42, .iconst 0, 1), (43, .invokevirtual 171, 3), (46, .ireturn, 1), (26, .iconst 0, 1)] = true ∧ dOk cX1_readMethod [(27, .ireturn, 1)] = true := by decide +kernel
theorem dX1_readMethod_0 : decode cX1_readMethod 0 = .ok (.aload_n 0, 1) := dr9 dk9_dX1_readMethod_0_0.1 0 (0, .aload_n 0, 1) rfl
theorem dX1_readMethod_1 : decode cX1_readMethod 1 = .ok (.getfield 15, 3) := dr9 dk9_dX1_readMethod_0_0.1 1 (1, .getfield 15, 3) rfl
theorem dX1_readMethod_4 : decode cX1_readMethod 4 = .ok (.getfield 168, 3) := dr9 dk9_dX1_readMethod_0_0.1 2 (4, .getfield 168, 3) rfl
theorem dX1_readMethod_7 : decode cX1_readMethod 7 = .ok (.istore_n 1, 1) := dr9 dk9_dX1_readMethod_0_0.1 3 (7, .istore_n 1, 1) rfl
theorem dX1_readMethod_8 : decode cX1_readMethod 8 = .ok (.aload_n 0, 1) := dr9 dk9_dX1_readMethod_0_0.1 4 (8, .aload_n 0, 1) rfl
theorem dX1_readMethod_9 : decode cX1_readMethod 9 = .ok (.getfield 9, 3) := dr9 dk9_dX1_readMethod_0_0.1 5 (9, .getfield 9, 3) rfl
theorem dX1_readMethod_12 : decode cX1_readMethod 12 = .ok (.invokevirtual 72, 3) := dr9 dk9_dX1_readMethod_0_0.1 6 (12, .invokevirtual 72, 3) rfl
theorem dX1_readMethod_15 : decode cX1_readMethod 15 = .ok (.aload_n 0, 1) := dr9 dk9_dX1_readMethod_0_0.1 7 (15, .aload_n 0, 1) rfl
theorem dX1_readMethod_16 : decode cX1_readMethod 16 = .ok (.aload_n 0, 1) := dr9 dk9_dX1_readMethod_0_0.1 8 (16, .aload_n 0, 1) rfl
theorem dX1_readMethod_17 : decode cX1_readMethod 17 = .ok (.getfield 24, 3) := dr9 dk9_dX1_readMethod_0_0.1 9 (17, .getfield 24, 3) rfl
theorem dX1_readMethod_20 : decode cX1_readMethod 20 = .ok (.invokevirtual 161, 3) := dr9 dk9_dX1_readMethod_0_0.1 10 (20, .invokevirtual 161, 3) rfl
theorem dX1_readMethod_23 : decode cX1_readMethod 23 = .ok (.ifCond .ne 5, 3) := dr9 dk9_dX1_readMethod_0_0.1 11 (23, .ifCond .ne 5, 3) rfl
theorem dX1_readMethod_28 : decode cX1_readMethod 28 = .ok (.aload_n 0, 1) := dr9 dk9_dX1_readMethod_0_0.1 12 (28, .aload_n 0, 1) rfl
theorem dX1_readMethod_29 : decode cX1_readMethod 29 = .ok (.getfield 24, 3) := dr9 dk9_dX1_readMethod_0_0.1 13 (29, .getfield 24, 3) rfl
theorem dX1_readMethod_32 : decode cX1_readMethod 32 = .ok (.getfield 197, 3) := dr9 dk9_dX1_readMethod_0_0.1 14 (32, .getfield 197, 3) rfl
theorem dX1_readMethod_35 : decode cX1_readMethod 35 = .ok (.aload_n 0, 1) := dr9 dk9_dX1_readMethod_0_0.1 15 (35, .aload_n 0, 1) rfl
theorem dX1_readMethod_36 : decode cX1_readMethod 36 = .ok (.getfield 137, 3) := dr9 dk9_dX1_readMethod_0_0.1 16 (36, .getfield 137, 3) rfl
theorem dX1_readMethod_39 : decode cX1_readMethod 39 = .ok (.iload_n 1, 1) := dr9 dk9_dX1_readMethod_0_0.1 17 (39, .iload_n 1, 1) rfl
theorem dX1_readMethod_40 : decode cX1_readMethod 40 = .ok (.iastore, 1) := dr9 dk9_dX1_readMethod_0_0.1 18 (40, .iastore, 1) rfl
theorem dX1_readMethod_41 : decode cX1_readMethod 41 = .ok (.aload_n 0, 1) := dr9 dk9_dX1_readMethod_0_0.1 19 (41, .aload_n 0, 1) rfl
theorem dX1_readMethod_42 : decode cX1_readMethod 42 = .ok (.iconst 0, 1) := dr9 dk9_dX1_readMethod_0_0.1 20 (42, .iconst 0, 1) rfl
theorem dX1_readMethod_43 : decode cX1_readMethod 43 = .ok (.invokevirtual 171, 3) := dr9 dk9_dX1_readMethod_0_0.1 21 (43, .invokevirtual 171, 3) rfl
theorem dX1_readMethod_46 : decode cX1_readMethod 46 = .ok (.ireturn, 1) := dr9 dk9_dX1_readMethod_0_0.1 22 (46, .ireturn, 1) rfl
theorem dX1_readMethod_26 : decode cX1_readMethod 26 = .ok (.iconst 0, 1) := dr9 dk9_dX1_readMethod_0_0.1 23 (26, .iconst 0, 1) rfl
theorem dX1_readMethod_27 : decode cX1_readMethod 27 = .ok (.ireturn, 1) := dr9 dk9_dX1_readMethod_0_0.2 0 (27, .ireturn, 1) rfl
theorem dk9_dX1_readNeed_0_0 : dOk cX1_readNeed [(0, .aload_n 0, 1), (1, .getfield 24, 3), (4, .getfield 190, 3), (7, .bipush 8, 2), (9, .if_icmp .lt 9, 3), (18, .aload_n 0, 1), (19, .getfield 9, 3), (22, .invokevirtual 72, 3), (25, .aload_n 0, 1), (26, .getfield 9, 3), (29, .getfield 37, 3), (32, .sipush 138, 3), (35, .if_icmp .ne 7, 3), (42, .aload_n 0, 1), (43, .getfield 9, 3), (46, .getfield 37, 3), (49, .sipush 139, 3), (52, .if_icmp .ne 7, 3), (59, .iconst 0, 1), (60, .istore_n 1, 1), (61, .iload_n 1, 1), (62, .ifCond .eq 10, 3), (72, .aload_n 0, 1), (73, .invokevirtual 158, 3)] = true ∧ dOk cX1_readNeed [(76, .ifCond .ne 5, 3), (81, .aload_n 0, 1), (82, .getfield 137, 3), (85, .istore_n 2, 1), (86, .iconst (-1), 1), (87, .istore_n 3, 1), (88, .aload_n 0, 1), (89, .getfield 9, 3), (92, .invokevirtual 72, 3), (95, .iload_n 1, 1), (96, .iconst 2, 1), (97, .if_icmp .eq 30, 3), (100, .aload_n 0, 1), (101, .getfield 9, 3), (104, .getfield 37, 3), (107, .sipush 133, 3), (110, .if_icmp .ne 17, 3), (127, .aload_n 0, 1), (128, .bipush 59, 2), (130, .invokevirtual 88, 3), (133, .ifCond .ne 5, 3), (138, .aload_n 0, 1), (139, .getfield 24, 3), (142, .iload_n 1, 1)] = true ∧ dOk cX1_readNeed [(143, .iload_n 2, 1), (144, .iload_n 3, 1), (145, .invokevirtual 193, 3), (148, .iconst 1, 1), (149, .ireturn, 1), (136, .iconst 0, 1), (137, .ireturn, 1), (113, .aload_n 0, 1), (114, .invokevirtual 134, 3), (117, .ifCond .ne 5, 3), (122, .aload_n 0, 1), (123, .getfield 137, 3), (126, .istore_n 3, 1), (120, .iconst 0, 1), (121, .ireturn, 1), (79, .iconst 0, 1), (80, .ireturn, 1), (55, .iconst 2, 1), (56, .goto 4, 3), (65, .aload_n 0, 1), (66, .getfield 9, 3), (69, .invokevirtual 72, 3), (38, .iconst 1, 1), (39, .goto 21, 3)] = true ∧ dOk cX1_readNeed [(12, .aload_n 0, 1), (13, .iconst 5, 1), (14, .invokevirtual 47, 3), (17, .ireturn, 1)] = true := by decide +kernel
theorem dX1_readNeed_0 : decode cX1_readNeed 0 = .ok (.aload_n 0, 1) := dr9 dk9_dX1_readNeed_0_0.1 0 (0, .aload_n 0, 1) rfl
theorem dX1_readNeed_1 : decode cX1_readNeed 1 = .ok (.getfield 24, 3) := dr9 dk9_dX1_readNeed_0_0.1 1 (1, .getfield 24, 3) rfl
theorem dX1_readNeed_4 : decode cX1_readNeed 4 = .ok (.getfield 190, 3) := dr9 dk9_dX1_readNeed_0_0.1 2 (4, .getfield 190, 3) rfl
theorem dX1_readNeed_7 : decode cX1_readNeed 7 = .ok (.bipush 8, 2) := dr9 dk9_dX1_readNeed_0_0.1 3 (7, .bipush 8, 2) rfl
theorem dX1_readNeed_9 : decode cX1_readNeed 9 = .ok (.if_icmp .lt 9, 3) := dr9 dk9_dX1_readNeed_0_0.1 4 (9, .if_icmp .lt 9, 3) rfl
theorem dX1_readNeed_18 : decode cX1_readNeed 18 = .ok (.aload_n 0, 1) := dr9 dk9_dX1_readNeed_0_0.1 5 (18, .aload_n 0, 1) rfl
theorem dX1_readNeed_19 : decode cX1_readNeed 19 = .ok (.getfield 9, 3) := dr9 dk9_dX1_readNeed_0_0.1 6 (19, .getfield 9, 3) rfl
theorem dX1_readNeed_22 : decode cX1_readNeed 22 = .ok (.invokevirtual 72, 3) := dr9 dk9_dX1_readNeed_0_0.1 7 (22, .invokevirtual 72, 3) rfl
theorem dX1_readNeed_25 : decode cX1_readNeed 25 = .ok (.aload_n 0, 1) := dr9 dk9_dX1_readNeed_0_0.1 8 (25, .aload_n 0, 1) rfl
theorem dX1_readNeed_26 : decode cX1_readNeed 26 = .ok (.getfield 9, 3) := dr9 dk9_dX1_readNeed_0_0.1 9 (26, .getfield 9, 3) rfl
theorem dX1_readNeed_29 : decode cX1_readNeed 29 = .ok (.getfield 37, 3) := dr9 dk9_dX1_readNeed_0_0.1 10 (29, .getfield 37, 3) rfl
theorem dX1_readNeed_32 : decode cX1_readNeed 32 = .ok (.sipush 138, 3) := dr9 dk9_dX1_readNeed_0_0.1 11 (32, .sipush 138, 3) rfl
theorem dX1_readNeed_35 : decode cX1_readNeed 35 = .ok (.if_icmp .ne 7, 3) := dr9 dk9_dX1_readNeed_0_0.1 12 (35, .if_icmp .ne 7, 3) rfl
theorem dX1_readNeed_42 : decode cX1_readNeed 42 = .ok (.aload_n 0, 1) := dr9 dk9_dX1_readNeed_0_0.1 13 (42, .aload_n 0, 1) rfl
theorem dX1_readNeed_43 : decode cX1_readNeed 43 = .ok (.getfield 9, 3) := dr9 dk9_dX1_readNeed_0_0.1 14 (43, .getfield 9, 3) rfl
theorem dX1_readNeed_46 : decode cX1_readNeed 46 = .ok (.getfield 37, 3) := dr9 dk9_dX1_readNeed_0_0.1 15 (46, .getfield 37, 3) rfl
theorem dX1_readNeed_49 : decode cX1_readNeed 49 = .ok (.sipush 139, 3) := dr9 dk9_dX1_readNeed_0_0.1 16 (49, .sipush 139, 3) rfl
theorem dX1_readNeed_52 : decode cX1_readNeed 52 = .ok (.if_icmp .ne 7, 3) := dr9 dk9_dX1_readNeed_0_0.1 17 (52, .if_icmp .ne 7, 3) rfl
theorem dX1_readNeed_59 : decode cX1_readNeed 59 = .ok (.iconst 0, 1) := dr9 dk9_dX1_readNeed_0_0.1 18 (59, .iconst 0, 1) rfl
theorem dX1_readNeed_60 : decode cX1_readNeed 60 = .ok (.istore_n 1, 1) := dr9 dk9_dX1_readNeed_0_0.1 19 (60, .istore_n 1, 1) rfl
theorem dX1_readNeed_61 : decode cX1_readNeed 61 = .ok (.iload_n 1, 1) := dr9 dk9_dX1_readNeed_0_0.1 20 (61, .iload_n 1, 1) rfl
theorem dX1_readNeed_62 : decode cX1_readNeed 62 = .ok (.ifCond .eq 10, 3) := dr9 dk9_dX1_readNeed_0_0.1 21 (62, .ifCond .eq 10, 3) rfl
theorem dX1_readNeed_72 : decode cX1_readNeed 72 = .ok (.aload_n 0, 1) := dr9 dk9_dX1_readNeed_0_0.1 22 (72, .aload_n 0, 1) rfl
theorem dX1_readNeed_73 : decode cX1_readNeed 73 = .ok (.invokevirtual 158, 3) := dr9 dk9_dX1_readNeed_0_0.1 23 (73, .invokevirtual 158, 3) rfl
theorem dX1_readNeed_76 : decode cX1_readNeed 76 = .ok (.ifCond .ne 5, 3) := dr9 dk9_dX1_readNeed_0_0.2.1 0 (76, .ifCond .ne 5, 3) rfl
theorem dX1_readNeed_81 : decode cX1_readNeed 81 = .ok (.aload_n 0, 1) := dr9 dk9_dX1_readNeed_0_0.2.1 1 (81, .aload_n 0, 1) rfl
theorem dX1_readNeed_82 : decode cX1_readNeed 82 = .ok (.getfield 137, 3) := dr9 dk9_dX1_readNeed_0_0.2.1 2 (82, .getfield 137, 3) rfl
theorem dX1_readNeed_85 : decode cX1_readNeed 85 = .ok (.istore_n 2, 1) := dr9 dk9_dX1_readNeed_0_0.2.1 3 (85, .istore_n 2, 1) rfl
theorem dX1_readNeed_86 : decode cX1_readNeed 86 = .ok (.iconst (-1), 1) := dr9 dk9_dX1_readNeed_0_0.2.1 4 (86, .iconst (-1), 1) rfl
theorem dX1_readNeed_87 : decode cX1_readNeed 87 = .ok (.istore_n 3, 1) := dr9 dk9_dX1_readNeed_0_0.2.1 5 (87, .istore_n 3, 1) rfl
theorem dX1_readNeed_88 : decode cX1_readNeed 88 = .ok (.aload_n 0, 1) := dr9 dk9_dX1_readNeed_0_0.2.1 6 (88, .aload_n 0, 1) rfl
theorem dX1_readNeed_89 : decode cX1_readNeed 89 = .ok (.getfield 9, 3) := dr9 dk9_dX1_readNeed_0_0.2.1 7 (89, .getfield 9, 3) rfl
theorem dX1_readNeed_92 : decode cX1_readNeed 92 = .ok (.invokevirtual 72, 3) := dr9 dk9_dX1_readNeed_0_0.2.1 8 (92, .invokevirtual 72, 3) rfl
theorem dX1_readNeed_95 : decode cX1_readNeed 95 = .ok (.iload_n 1, 1) := dr9 dk9_dX1_readNeed_0_0.2.1 9 (95, .iload_n 1, 1) rfl
theorem dX1_readNeed_96 : decode cX1_readNeed 96 = .ok (.iconst 2, 1) := dr9 dk9_dX1_readNeed_0_0.2.1 10 (96, .iconst 2, 1) rfl
theorem dX1_readNeed_97 : decode cX1_readNeed 97 = .ok (.if_icmp .eq 30, 3) := dr9 dk9_dX1_readNeed_0_0.2.1 11 (97, .if_icmp .eq 30, 3) rfl
theorem dX1_readNeed_100 : decode cX1_readNeed 100 = .ok (.aload_n 0, 1) := dr9 dk9_dX1_readNeed_0_0.2.1 12 (100, .aload_n 0, 1) rfl
theorem dX1_readNeed_101 : decode cX1_readNeed 101 = .ok (.getfield 9, 3) := dr9 dk9_dX1_readNeed_0_0.2.1 13 (101, .getfield 9, 3) rfl
theorem dX1_readNeed_104 : decode cX1_readNeed 104 = .ok (.getfield 37, 3) := dr9 dk9_dX1_readNeed_0_0.2.1 14 (104, .getfield 37, 3) rfl
theorem dX1_readNeed_107 : decode cX1_readNeed 107 = .ok (.sipush 133, 3) := dr9 dk9_dX1_readNeed_0_0.2.1 15 (107, .sipush 133, 3) rfl
theorem dX1_readNeed_110 : decode cX1_readNeed 110 = .ok (.if_icmp .ne 17, 3) := dr9 dk9_dX1_readNeed_0_0.2.1 16 (110, .if_icmp .ne 17, 3) rfl
theorem dX1_readNeed_127 : decode cX1_readNeed 127 = .ok (.aload_n 0, 1) := dr9 dk9_dX1_readNeed_0_0.2.1 17 (127, .aload_n 0, 1) rfl
theorem dX1_readNeed_128 : decode cX1_readNeed 128 = .ok (.bipush 59, 2) := dr9 dk9_dX1_readNeed_0_0.2.1 18 (128, .bipush 59, 2) rfl
theorem dX1_readNeed_130 : decode cX1_readNeed 130 = .ok (.invokevirtual 88, 3) := dr9 dk9_dX1_readNeed_0_0.2.1 19 (130, .invokevirtual 88, 3) rfl
theorem dX1_readNeed_133 : decode cX1_readNeed 133 = .ok (.ifCond .ne 5, 3) := dr9 dk9_dX1_readNeed_0_0.2.1 20 (133, .ifCond .ne 5, 3) rfl
theorem dX1_readNeed_138 : decode cX1_readNeed 138 = .ok (.aload_n 0, 1) := dr9 dk9_dX1_readNeed_0_0.2.1 21 (138, .aload_n 0, 1) rfl
theorem dX1_readNeed_139 : decode cX1_readNeed 139 = .ok (.getfield 24, 3) := dr9 dk9_dX1_readNeed_0_0.2.1 22 (139, .getfield 24, 3) rfl
theorem dX1_readNeed_142 : decode cX1_readNeed 142 = .ok (.iload_n 1, 1) := dr9 dk9_dX1_readNeed_0_0.2.1 23 (142, .iload_n 1, 1) rfl
theorem dX1_readNeed_143 : decode cX1_readNeed 143 = .ok (.iload_n 2, 1) := dr9 dk9_dX1_readNeed_0_0.2.2.1 0 (143, .iload_n 2, 1) rfl
theorem dX1_readNeed_144 : decode cX1_readNeed 144 = .ok (.iload_n 3, 1) := dr9 dk9_dX1_readNeed_0_0.2.2.1 1 (144, .iload_n 3, 1) rfl
theorem dX1_readNeed_145 : decode cX1_readNeed 145 = .ok (.invokevirtual 193, 3) := dr9 dk9_dX1_readNeed_0_0.2.2.1 2 (145, .invokevirtual 193, 3) rfl
theorem dX1_readNeed_148 : decode cX1_readNeed 148 = .ok (.iconst 1, 1) := dr9 dk9_dX1_readNeed_0_0.2.2.1 3 (148, .iconst 1, 1) rfl
theorem dX1_readNeed_149 : decode cX1_readNeed 149 = .ok (.ireturn, 1) := dr9 dk9_dX1_readNeed_0_0.2.2.1 4 (149, .ireturn, 1) rfl
theorem dX1_readNeed_136 : decode cX1_readNeed 136 = .ok (.iconst 0, 1) := dr9 dk9_dX1_readNeed_0_0.2.2.1 5 (136, .iconst 0, 1) rfl
theorem dX1_readNeed_137 : decode cX1_readNeed 137 = .ok (.ireturn, 1) := dr9 dk9_dX1_readNeed_0_0.2.2.1 6 (137, .ireturn, 1) rfl
theorem dX1_readNeed_113 : decode cX1_readNeed 113 = .ok (.aload_n 0, 1) := dr9 dk9_dX1_readNeed_0_0.2.2.1 7 (113, .aload_n 0, 1) rfl
theorem dX1_readNeed_114 : decode cX1_readNeed 114 = .ok (.invokevirtual 134, 3) := dr9 dk9_dX1_readNeed_0_0.2.2.1 8 (114, .invokevirtual 134, 3) rfl
theorem dX1_readNeed_117 : decode cX1_readNeed 117 = .ok (.ifCond .ne 5, 3) := dr9 dk9_dX1_readNeed_0_0.2.2.1 9 (117, .ifCond .ne 5, 3) rfl
theorem dX1_readNeed_122 : decode cX1_readNeed 122 = .ok (.aload_n 0, 1) := dr9 dk9_dX1_readNeed_0_0.2.2.1 10 (122, .aload_n 0, 1) rfl
theorem dX1_readNeed_123 : decode cX1_readNeed 123 = .ok (.getfield 137, 3) := dr9 dk9_dX1_readNeed_0_0.2.2.1 11 (123, .getfield 137, 3) rfl
theorem dX1_readNeed_126 : decode cX1_readNeed 126 = .ok (.istore_n 3, 1) := dr9 dk9_dX1_readNeed_0_0.2.2.1 12 (126, .istore_n 3, 1) rfl
theorem dX1_readNeed_120 : decode cX1_readNeed 120 = .ok (.iconst 0, 1) := dr9 dk9_dX1_readNeed_0_0.2.2.1 13 (120, .iconst 0, 1) rfl
theorem dX1_readNeed_121 : decode cX1_readNeed 121 = .ok (.ireturn, 1) := dr9 dk9_dX1_readNeed_0_0.2.2.1 14 (121, .ireturn, 1) rfl
theorem dX1_readNeed_79 : decode cX1_readNeed 79 = .ok (.iconst 0, 1) := dr9 dk9_dX1_readNeed_0_0.2.2.1 15 (79, .iconst 0, 1) rfl
theorem dX1_readNeed_80 : decode cX1_readNeed 80 = .ok (.ireturn, 1) := dr9 dk9_dX1_readNeed_0_0.2.2.1 16 (80, .ireturn, 1) rfl
theorem dX1_readNeed_55 : decode cX1_readNeed 55 = .ok (.iconst 2, 1) := dr9 dk9_dX1_readNeed_0_0.2.2.1 17 (55, .iconst 2, 1) rfl
theorem dX1_readNeed_56 : decode cX1_readNeed 56 = .ok (.goto 4, 3) := dr9 dk9_dX1_readNeed_0_0.2.2.1 18 (56, .goto 4, 3) rfl
theorem dX1_readNeed_65 : decode cX1_readNeed 65 = .ok (.aload_n 0, 1) := dr9 dk9_dX1_readNeed_0_0.2.2.1 19 (65, .aload_n 0, 1) rfl
theorem dX1_readNeed_66 : decode cX1_readNeed 66 = .ok (.getfield 9, 3) := dr9 dk9_dX1_readNeed_0_0.2.2.1 20 (66, .getfield 9, 3) rfl
theorem dX1_readNeed_69 : decode cX1_readNeed 69 = .ok (.invokevirtual 72, 3) := dr9 dk9_dX1_readNeed_0_0.2.2.1 21 (69, .invokevirtual 72, 3) rfl
theorem dX1_readNeed_38 : decode cX1_readNeed 38 = .ok (.iconst 1, 1) := dr9 dk9_dX1_readNeed_0_0.2.2.1 22 (38, .iconst 1, 1) rfl
theorem dX1_readNeed_39 : decode cX1_readNeed 39 = .ok (.goto 21, 3) := dr9 dk9_dX1_readNeed_0_0.2.2.1 23 (39, .goto 21, 3) rfl
theorem dX1_readNeed_12 : decode cX1_readNeed 12 = .ok (.aload_n 0, 1) := dr9 dk9_dX1_readNeed_0_0.2.2.2 0 (12, .aload_n 0, 1) rfl
theorem dX1_readNeed_13 : decode cX1_readNeed 13 = .ok (.iconst 5, 1) := dr9 dk9_dX1_readNeed_0_0.2.2.2 1 (13, .iconst 5, 1) rfl
theorem dX1_readNeed_14 : decode cX1_readNeed 14 = .ok (.invokevirtual 47, 3) := dr9 dk9_dX1_readNeed_0_0.2.2.2 2 (14, .invokevirtual 47, 3) rfl
theorem dX1_readNeed_17 : decode cX1_readNeed 17 = .ok (.ireturn, 1) := dr9 dk9_dX1_readNeed_0_0.2.2.2 3 (17, .ireturn, 1) rfl
theorem dk9_dX1_readMember_0_0 : dOk cX1_readMember [(0, .aload_n 0, 1), (1, .getfield 15, 3), (4, .getfield 168, 3), (7, .istore_n 1, 1), (8, .aload_n 0, 1), (9, .getfield 9, 3), (12, .getfield 37, 3), (15, .lookupswitch 149 #[(125, 49), (137, 63), (140, 68), (141, 106), (142, 144)], 49), (64, .aload_n 0, 1), (65, .aconst_null, 1), (66, .putfield 24, 3), (69, .aload_n 0, 1), (70, .getfield 9, 3), (73, .invokevirtual 72, 3), (76, .iconst 1, 1), (77, .ireturn, 1), (78, .aload_n 0, 1), (79, .invokevirtual 178, 3), (82, .ireturn, 1), (83, .aload_n 0, 1), (84, .getfield 24, 3), (87, .getfield 181, 3), (90, .iconst (-1), 1), (91, .if_icmp .eq 9, 3)] = true ∧ dOk cX1_readMember [(100, .aload_n 0, 1), (101, .getfield 24, 3), (104, .iload_n 1, 1), (105, .putfield 181, 3), (108, .aload_n 0, 1), (109, .getfield 9, 3), (112, .invokevirtual 72, 3), (115, .aload_n 0, 1), (116, .iconst 0, 1), (117, .invokevirtual 171, 3), (120, .ireturn, 1), (94, .aload_n 0, 1), (95, .iconst 1, 1), (96, .invokevirtual 47, 3), (99, .ireturn, 1), (121, .aload_n 0, 1), (122, .getfield 24, 3), (125, .getfield 184, 3), (128, .iconst (-1), 1), (129, .if_icmp .eq 9, 3), (138, .aload_n 0, 1), (139, .getfield 24, 3), (142, .iload_n 1, 1), (143, .putfield 184, 3)] = true ∧ dOk cX1_readMember [(146, .aload_n 0, 1), (147, .getfield 9, 3), (150, .invokevirtual 72, 3), (153, .aload_n 0, 1), (154, .iconst 0, 1), (155, .invokevirtual 171, 3), (158, .ireturn, 1), (132, .aload_n 0, 1), (133, .iconst 1, 1), (134, .invokevirtual 47, 3), (137, .ireturn, 1), (159, .aload_n 0, 1), (160, .invokevirtual 187, 3), (163, .ireturn, 1), (164, .aload_n 0, 1), (165, .iconst 1, 1), (166, .invokevirtual 47, 3), (169, .ireturn, 1)] = true := by decide +kernel
theorem dX1_readMember_0 : decode cX1_readMember 0 = .ok (.aload_n 0, 1) := dr9 dk9_dX1_readMember_0_0.1 0 (0, .aload_n 0, 1) rfl
theorem dX1_readMember_1 : decode cX1_readMember 1 = .ok (.getfield 15, 3) := dr9 dk9_dX1_readMember_0_0.1 1 (1, .getfield 15, 3) rfl
theorem dX1_readMember_4 : decode cX1_readMember 4 = .ok (.getfield 168, 3) := dr9 dk9_dX1_readMember_0_0.1 2 (4, .getfield 168, 3) rfl
theorem dX1_readMember_7 : decode cX1_readMember 7 = .ok (.istore_n 1, 1) := dr9 dk9_dX1_readMember_0_0.1 3 (7, .istore_n 1, 1) rfl
theorem dX1_readMember_8 : decode cX1_readMember 8 = .ok (.aload_n 0, 1) := dr9 dk9_dX1_readMember_0_0.1 4 (8, .aload_n 0, 1) rfl
theorem dX1_readMember_9 : decode cX1_readMember 9 = .ok (.getfield 9, 3) := dr9 dk9_dX1_readMember_0_0.1 5 (9, .getfield 9, 3) rfl
theorem dX1_readMember_12 : decode cX1_readMember 12 = .ok (.getfield 37, 3) := dr9 dk9_dX1_readMember_0_0.1 6 (12, .getfield 37, 3) rfl
theorem dX1_readMember_15 : decode cX1_readMember 15 = .ok (.lookupswitch 149 #[(125, 49), (137, 63), (140, 68), (141, 106), (142, 144)], 49) := dr9 dk9_dX1_readMember_0_0.1 7 (15, .lookupswitch 149 #[(125, 49), (137, 63), (140, 68), (141, 106), (142, 144)], 49) rfl
theorem dX1_readMember_64 : decode cX1_readMember 64 = .ok (.aload_n 0, 1) := dr9 dk9_dX1_readMember_0_0.1 8 (64, .aload_n 0, 1) rfl
theorem dX1_readMember_65 : decode cX1_readMember 65 = .ok (.aconst_null, 1) := dr9 dk9_dX1_readMember_0_0.1 9 (65, .aconst_null, 1) rfl
theorem dX1_readMember_66 : decode cX1_readMember 66 = .ok (.putfield 24, 3) := dr9 dk9_dX1_readMember_0_0.1 10 (66, .putfield 24, 3) rfl
theorem dX1_readMember_69 : decode cX1_readMember 69 = .ok (.aload_n 0, 1) := dr9 dk9_dX1_readMember_0_0.1 11 (69, .aload_n 0, 1) rfl
theorem dX1_readMember_70 : decode cX1_readMember 70 = .ok (.getfield 9, 3) := dr9 dk9_dX1_readMember_0_0.1 12 (70, .getfield 9, 3) rfl
theorem dX1_readMember_73 : decode cX1_readMember 73 = .ok (.invokevirtual 72, 3) := dr9 dk9_dX1_readMember_0_0.1 13 (73, .invokevirtual 72, 3) rfl
theorem dX1_readMember_76 : decode cX1_readMember 76 = .ok (.iconst 1, 1) := dr9 dk9_dX1_readMember_0_0.1 14 (76, .iconst 1, 1) rfl
theorem dX1_readMember_77 : decode cX1_readMember 77 = .ok (.ireturn, 1) := dr9 dk9_dX1_readMember_0_0.1 15 (77, .ireturn, 1) rfl
theorem dX1_readMember_78 : decode cX1_readMember 78 = .ok (.aload_n 0, 1) := dr9 dk9_dX1_readMember_0_0.1 16 (78, .aload_n 0, 1) rfl
theorem dX1_readMember_79 : decode cX1_readMember 79 = .ok (.invokevirtual 178, 3) := dr9 dk9_dX1_readMember_0_0.1 17 (79, .invokevirtual 178, 3) rfl
theorem dX1_readMember_82 : decode cX1_readMember 82 = .ok (.ireturn, 1) := dr9 dk9_dX1_readMember_0_0.1 18 (82, .ireturn, 1) rfl
theorem dX1_readMember_83 : decode cX1_readMember 83 = .ok (.aload_n 0, 1) := dr9 dk9_dX1_readMember_0_0.1 19 (83, .aload_n 0, 1) rfl
theorem dX1_readMember_84 : decode cX1_readMember 84 = .ok (.getfield 24, 3) := dr9 dk9_dX1_readMember_0_0.1 20 (84, .getfield 24, 3) rfl
theorem dX1_readMember_87 : decode cX1_readMember 87 = .ok (.getfield 181, 3) := dr9 dk9_dX1_readMember_0_0.1 21 (87, .getfield 181, 3) rfl
theorem dX1_readMember_90 : decode cX1_readMember 90 = .ok (.iconst (-1), 1) := dr9 dk9_dX1_readMember_0_0.1 22 (90, .iconst (-1), 1) rfl
theorem dX1_readMember_91 : decode cX1_readMember 91 = .ok (.if_icmp .eq 9, 3) := dr9 dk9_dX1_readMember_0_0.1 23 (91, .if_icmp .eq 9, 3) rfl
theorem dX1_readMember_100 : decode cX1_readMember 100 = .ok (.aload_n 0, 1) := dr9 dk9_dX1_readMember_0_0.2.1 0 (100, .aload_n 0, 1) rfl
theorem dX1_readMember_101 : decode cX1_readMember 101 = .ok (.getfield 24, 3) := dr9 dk9_dX1_readMember_0_0.2.1 1 (101, .getfield 24, 3) rfl
theorem dX1_readMember_104 : decode cX1_readMember 104 = .ok (.iload_n 1, 1) := dr9 dk9_dX1_readMember_0_0.2.1 2 (104, .iload_n 1, 1) rfl
theorem dX1_readMember_105 : decode cX1_readMember 105 = .ok (.putfield 181, 3) := dr9 dk9_dX1_readMember_0_0.2.1 3 (105, .putfield 181, 3) rfl
theorem dX1_readMember_108 : decode cX1_readMember 108 = .ok (.aload_n 0, 1) := dr9 dk9_dX1_readMember_0_0.2.1 4 (108, .aload_n 0, 1) rfl
theorem dX1_readMember_109 : decode cX1_readMember 109 = .ok (.getfield 9, 3) := dr9 dk9_dX1_readMember_0_0.2.1 5 (109, .getfield 9, 3) rfl
theorem dX1_readMember_112 : decode cX1_readMember 112 = .ok (.invokevirtual 72, 3) := dr9 dk9_dX1_readMember_0_0.2.1 6 (112, .invokevirtual 72, 3) rfl
theorem dX1_readMember_115 : decode cX1_readMember 115 = .ok (.aload_n 0, 1) := dr9 dk9_dX1_readMember_0_0.2.1 7 (115, .aload_n 0, 1) rfl
theorem dX1_readMember_116 : decode cX1_readMember 116 = .ok (.iconst 0, 1) := dr9 dk9_dX1_readMember_0_0.2.1 8 (116, .iconst 0, 1) rfl
theorem dX1_readMember_117 : decode cX1_readMember 117 = .ok (.invokevirtual 171, 3) := dr9 dk9_dX1_readMember_0_0.2.1 9 (117, .invokevirtual 171, 3) rfl
theorem dX1_readMember_120 : decode cX1_readMember 120 = .ok (.ireturn, 1) := dr9 dk9_dX1_readMember_0_0.2.1 10 (120, .ireturn, 1) rfl
theorem dX1_readMember_94 : decode cX1_readMember 94 = .ok (.aload_n 0, 1) := dr9 dk9_dX1_readMember_0_0.2.1 11 (94, .aload_n 0, 1) rfl
theorem dX1_readMember_95 : decode cX1_readMember 95 = .ok (.iconst 1, 1) := dr9 dk9_dX1_readMember_0_0.2.1 12 (95, .iconst 1, 1) rfl
theorem dX1_readMember_96 : decode cX1_readMember 96 = .ok (.invokevirtual 47, 3) := dr9 dk9_dX1_readMember_0_0.2.1 13 (96, .invokevirtual 47, 3) rfl
theorem dX1_readMember_99 : decode cX1_readMember 99 = .ok (.ireturn, 1) := dr9 dk9_dX1_readMember_0_0.2.1 14 (99, .ireturn, 1) rfl
theorem dX1_readMember_121 : decode cX1_readMember 121 = .ok (.aload_n 0, 1) := dr9 dk9_dX1_readMember_0_0.2.1 15 (121, .aload_n 0, 1) rfl
theorem dX1_readMember_122 : decode cX1_readMember 122 = .ok (.getfield 24, 3) := dr9 dk9_dX1_readMember_0_0.2.1 16 (122, .getfield 24, 3) rfl
theorem dX1_readMember_125 : decode cX1_readMember 125 = .ok (.getfield 184, 3) := dr9 dk9_dX1_readMember_0_0.2.1 17 (125, .getfield 184, 3) rfl
theorem dX1_readMember_128 : decode cX1_readMember 128 = .ok (.iconst (-1), 1) := dr9 dk9_dX1_readMember_0_0.2.1 18 (128, .iconst (-1), 1) rfl
theorem dX1_readMember_129 : decode cX1_readMember 129 = .ok (.if_icmp .eq 9, 3) := dr9 dk9_dX1_readMember_0_0.2.1 19 (129, .if_icmp .eq 9, 3) rfl
theorem dX1_readMember_138 : decode cX1_readMember 138 = .ok (.aload_n 0, 1) := dr9 dk9_dX1_readMember_0_0.2.1 20 (138, .aload_n 0, 1) rfl
theorem dX1_readMember_139 : decode cX1_readMember 139 = .ok (.getfield 24, 3) := dr9 dk9_dX1_readMember_0_0.2.1 21 (139, .getfield 24, 3) rfl
theorem dX1_readMember_142 : decode cX1_readMember 142 = .ok (.iload_n 1, 1) := dr9 dk9_dX1_readMember_0_0.2.1 22 (142, .iload_n 1, 1) rfl
theorem dX1_readMember_143 : decode cX1_readMember 143 = .ok (.putfield 184, 3) := dr9 dk9_dX1_readMember_0_0.2.1 23 (143, .putfield 184, 3) rfl
theorem dX1_readMember_146 : decode cX1_readMember 146 = .ok (.aload_n 0, 1) := dr9 dk9_dX1_readMember_0_0.2.2 0 (146, .aload_n 0, 1) rfl
theorem dX1_readMember_147 : decode cX1_readMember 147 = .ok (.getfield 9, 3) := dr9 dk9_dX1_readMember_0_0.2.2 1 (147, .getfield 9, 3) rfl
theorem dX1_readMember_150 : decode cX1_readMember 150 = .ok (.invokevirtual 72, 3) := dr9 dk9_dX1_readMember_0_0.2.2 2 (150, .invokevirtual 72, 3) rfl
theorem dX1_readMember_153 : decode cX1_readMember 153 = .ok (.aload_n 0, 1) := dr9 dk9_dX1_readMember_0_0.2.2 3 (153, .aload_n 0, 1) rfl
theorem dX1_readMember_154 : decode cX1_readMember 154 = .ok (.iconst 0, 1) := dr9 dk9_dX1_readMember_0_0.2.2 4 (154, .iconst 0, 1) rfl
theorem dX1_readMember_155 : decode cX1_readMember 155 = .ok (.invokevirtual 171, 3) := dr9 dk9_dX1_readMember_0_0.2.2 5 (155, .invokevirtual 171, 3) rfl
theorem dX1_readMember_158 : decode cX1_readMember 158 = .ok (.ireturn, 1) := dr9 dk9_dX1_readMember_0_0.2.2 6 (158, .ireturn, 1) rfl
theorem dX1_readMember_132 : decode cX1_readMember 132 = .ok (.aload_n 0, 1) := dr9 dk9_dX1_readMember_0_0.2.2 7 (132, .aload_n 0, 1) rfl
theorem dX1_readMember_133 : decode cX1_readMember 133 = .ok (.iconst 1, 1) := dr9 dk9_dX1_readMember_0_0.2.2 8 (133, .iconst 1, 1) rfl
theorem dX1_readMember_134 : decode cX1_readMember 134 = .ok (.invokevirtual 47, 3) := dr9 dk9_dX1_readMember_0_0.2.2 9 (134, .invokevirtual 47, 3) rfl
theorem dX1_readMember_137 : decode cX1_readMember 137 = .ok (.ireturn, 1) := dr9 dk9_dX1_readMember_0_0.2.2 10 (137, .ireturn, 1) rfl
theorem dX1_readMember_159 : decode cX1_readMember 159 = .ok (.aload_n 0, 1) := dr9 dk9_dX1_readMember_0_0.2.2 11 (159, .aload_n 0, 1) rfl
theorem dX1_readMember_160 : decode cX1_readMember 160 = .ok (.invokevirtual 187, 3) := dr9 dk9_dX1_readMember_0_0.2.2 12 (160, .invokevirtual 187, 3) rfl
theorem dX1_readMember_163 : decode cX1_readMember 163 = .ok (.ireturn, 1) := dr9 dk9_dX1_readMember_0_0.2.2 13 (163, .ireturn, 1) rfl
theorem dX1_readMember_164 : decode cX1_readMember 164 = .ok (.aload_n 0, 1) := dr9 dk9_dX1_readMember_0_0.2.2 14 (164, .aload_n 0, 1) rfl
theorem dX1_readMember_165 : decode cX1_readMember 165 = .ok (.iconst 1, 1) := dr9 dk9_dX1_readMember_0_0.2.2 15 (165, .iconst 1, 1) rfl
theorem dX1_readMember_166 : decode cX1_readMember 166 = .ok (.invokevirtual 47, 3) := dr9 dk9_dX1_readMember_0_0.2.2 16 (166, .invokevirtual 47, 3) rfl
theorem dX1_readMember_169 : decode cX1_readMember 169 = .ok (.ireturn, 1) := dr9 dk9_dX1_readMember_0_0.2.2 17 (169, .ireturn, 1) rfl
theorem dk9_dX1_readWrap_0_0 : dOk cX1_readWrap [(0, .aload_n 0, 1), (1, .getfield 15, 3), (4, .getfield 155, 3), (7, .bipush 12, 2), (9, .if_icmp .lt 9, 3), (18, .aload_n 0, 1), (19, .getfield 9, 3), (22, .invokevirtual 72, 3), (25, .aload_n 0, 1), (26, .invokevirtual 158, 3), (29, .ifCond .ne 5, 3), (34, .aload_n 0, 1), (35, .getfield 137, 3), (38, .istore_n 1, 1), (39, .aload_n 0, 1), (40, .getfield 9, 3), (43, .invokevirtual 72, 3), (46, .aload_n 0, 1), (47, .bipush 46, 2), (49, .invokevirtual 88, 3), (52, .ifCond .eq 11, 3), (63, .iconst 0, 1), (64, .ireturn, 1), (55, .aload_n 0, 1)] = true ∧ dOk cX1_readWrap [(56, .aconst_null, 1), (57, .invokevirtual 161, 3), (60, .ifCond .ne 5, 3), (65, .aload_n 0, 1), (66, .getfield 137, 3), (69, .istore_n 2, 1), (70, .aload_n 0, 1), (71, .iconst 0, 1), (72, .bipush 99, 2), (74, .invokevirtual 103, 3), (77, .ifCond .ne 5, 3), (82, .aload_n 0, 1), (83, .getfield 110, 3), (86, .istore_n 3, 1), (87, .aload_n 0, 1), (88, .getfield 9, 3), (91, .getfield 37, 3), (94, .sipush 152, 3), (97, .if_icmp .lt 16, 3), (113, .aload_n 0, 1), (114, .iconst 1, 1), (115, .invokevirtual 47, 3), (118, .ireturn, 1), (100, .aload_n 0, 1)] = true ∧ dOk cX1_readWrap [(101, .getfield 9, 3), (104, .getfield 37, 3), (107, .sipush 155, 3), (110, .if_icmp .le 9, 3), (119, .aload_n 0, 1), (120, .getfield 9, 3), (123, .getfield 37, 3), (126, .sipush 152, 3), (129, .isub, 1), (130, .istore 4, 2), (132, .iload 4, 2), (134, .iconst 1, 1), (135, .if_icmp .ne 21, 3), (156, .aload_n 0, 1), (157, .getfield 15, 3), (160, .getfield 168, 3), (163, .istore 5, 2), (165, .aload_n 0, 1), (166, .getfield 9, 3), (169, .invokevirtual 72, 3), (172, .aload_n 0, 1), (173, .iload 4, 2), (175, .iconst 1, 1), (176, .if_icmp .ne 7, 3)] = true ∧ dOk cX1_readWrap [(183, .iconst 1, 1), (184, .invokevirtual 171, 3), (187, .ifCond .ne 5, 3), (192, .aload_n 0, 1), (193, .getfield 15, 3), (196, .iload_n 1, 1), (197, .iload_n 2, 1), (198, .iload_n 3, 1), (199, .iload 4, 2), (201, .iload 5, 2), (203, .invokevirtual 174, 3), (206, .iconst 1, 1), (207, .ireturn, 1), (190, .iconst 0, 1), (191, .ireturn, 1), (179, .iconst 2, 1), (180, .goto 4, 3), (138, .aload_n 0, 1), (139, .getfield 15, 3), (142, .iload_n 2, 1), (143, .invokevirtual 164, 3), (146, .iconst 2, 1), (147, .if_icmp .lt 9, 3), (150, .aload_n 0, 1)] = true ∧ dOk cX1_readWrap [(151, .iconst 5, 1), (152, .invokevirtual 47, 3), (155, .ireturn, 1), (80, .iconst 0, 1), (81, .ireturn, 1), (32, .iconst 0, 1), (33, .ireturn, 1), (12, .aload_n 0, 1), (13, .iconst 5, 1), (14, .invokevirtual 47, 3), (17, .ireturn, 1)] = true := by decide +kernel
theorem dX1_readWrap_0 : decode cX1_readWrap 0 = .ok (.aload_n 0, 1) := dr9 dk9_dX1_readWrap_0_0.1 0 (0, .aload_n 0, 1) rfl
theorem dX1_readWrap_1 : decode cX1_readWrap 1 = .ok (.getfield 15, 3) := dr9 dk9_dX1_readWrap_0_0.1 1 (1, .getfield 15, 3) rfl
theorem dX1_readWrap_4 : decode cX1_readWrap 4 = .ok (.getfield 155, 3) := dr9 dk9_dX1_readWrap_0_0.1 2 (4, .getfield 155, 3) rfl
theorem dX1_readWrap_7 : decode cX1_readWrap 7 = .ok (.bipush 12, 2) := dr9 dk9_dX1_readWrap_0_0.1 3 (7, .bipush 12, 2) rfl
theorem dX1_readWrap_9 : decode cX1_readWrap 9 = .ok (.if_icmp .lt 9, 3) := dr9 dk9_dX1_readWrap_0_0.1 4 (9, .if_icmp .lt 9, 3) rfl
theorem dX1_readWrap_18 : decode cX1_readWrap 18 = .ok (.aload_n 0, 1) := dr9 dk9_dX1_readWrap_0_0.1 5 (18, .aload_n 0, 1) rfl
theorem dX1_readWrap_19 : decode cX1_readWrap 19 = .ok (.getfield 9, 3) := dr9 dk9_dX1_readWrap_0_0.1 6 (19, .getfield 9, 3) rfl
theorem dX1_readWrap_22 : decode cX1_readWrap 22 = .ok (.invokevirtual 72, 3) := dr9 dk9_dX1_readWrap_0_0.1 7 (22, .invokevirtual 72, 3) rfl
theorem dX1_readWrap_25 : decode cX1_readWrap 25 = .ok (.aload_n 0, 1) := dr9 dk9_dX1_readWrap_0_0.1 8 (25, .aload_n 0, 1) rfl
theorem dX1_readWrap_26 : decode cX1_readWrap 26 = .ok (.invokevirtual 158, 3) := dr9 dk9_dX1_readWrap_0_0.1 9 (26, .invokevirtual 158, 3) rfl
theorem dX1_readWrap_29 : decode cX1_readWrap 29 = .ok (.ifCond .ne 5, 3) := dr9 dk9_dX1_readWrap_0_0.1 10 (29, .ifCond .ne 5, 3) rfl
theorem dX1_readWrap_34 : decode cX1_readWrap 34 = .ok (.aload_n 0, 1) := dr9 dk9_dX1_readWrap_0_0.1 11 (34, .aload_n 0, 1) rfl
theorem dX1_readWrap_35 : decode cX1_readWrap 35 = .ok (.getfield 137, 3) := dr9 dk9_dX1_readWrap_0_0.1 12 (35, .getfield 137, 3) rfl
theorem dX1_readWrap_38 : decode cX1_readWrap 38 = .ok (.istore_n 1, 1) := dr9 dk9_dX1_readWrap_0_0.1 13 (38, .istore_n 1, 1) rfl
theorem dX1_readWrap_39 : decode cX1_readWrap 39 = .ok (.aload_n 0, 1) := dr9 dk9_dX1_readWrap_0_0.1 14 (39, .aload_n 0, 1) rfl
theorem dX1_readWrap_40 : decode cX1_readWrap 40 = .ok (.getfield 9, 3) := dr9 dk9_dX1_readWrap_0_0.1 15 (40, .getfield 9, 3) rfl
theorem dX1_readWrap_43 : decode cX1_readWrap 43 = .ok (.invokevirtual 72, 3) := dr9 dk9_dX1_readWrap_0_0.1 16 (43, .invokevirtual 72, 3) rfl
theorem dX1_readWrap_46 : decode cX1_readWrap 46 = .ok (.aload_n 0, 1) := dr9 dk9_dX1_readWrap_0_0.1 17 (46, .aload_n 0, 1) rfl
theorem dX1_readWrap_47 : decode cX1_readWrap 47 = .ok (.bipush 46, 2) := dr9 dk9_dX1_readWrap_0_0.1 18 (47, .bipush 46, 2) rfl
theorem dX1_readWrap_49 : decode cX1_readWrap 49 = .ok (.invokevirtual 88, 3) := dr9 dk9_dX1_readWrap_0_0.1 19 (49, .invokevirtual 88, 3) rfl
theorem dX1_readWrap_52 : decode cX1_readWrap 52 = .ok (.ifCond .eq 11, 3) := dr9 dk9_dX1_readWrap_0_0.1 20 (52, .ifCond .eq 11, 3) rfl
theorem dX1_readWrap_63 : decode cX1_readWrap 63 = .ok (.iconst 0, 1) := dr9 dk9_dX1_readWrap_0_0.1 21 (63, .iconst 0, 1) rfl
theorem dX1_readWrap_64 : decode cX1_readWrap 64 = .ok (.ireturn, 1) := dr9 dk9_dX1_readWrap_0_0.1 22 (64, .ireturn, 1) rfl
theorem dX1_readWrap_55 : decode cX1_readWrap 55 = .ok (.aload_n 0, 1) := dr9 dk9_dX1_readWrap_0_0.1 23 (55, .aload_n 0, 1) rfl
theorem dX1_readWrap_56 : decode cX1_readWrap 56 = .ok (.aconst_null, 1) := dr9 dk9_dX1_readWrap_0_0.2.1 0 (56, .aconst_null, 1) rfl
theorem dX1_readWrap_57 : decode cX1_readWrap 57 = .ok (.invokevirtual 161, 3) := dr9 dk9_dX1_readWrap_0_0.2.1 1 (57, .invokevirtual 161, 3) rfl
theorem dX1_readWrap_60 : decode cX1_readWrap 60 = .ok (.ifCond .ne 5, 3) := dr9 dk9_dX1_readWrap_0_0.2.1 2 (60, .ifCond .ne 5, 3) rfl
theorem dX1_readWrap_65 : decode cX1_readWrap 65 = .ok (.aload_n 0, 1) := dr9 dk9_dX1_readWrap_0_0.2.1 3 (65, .aload_n 0, 1) rfl
theorem dX1_readWrap_66 : decode cX1_readWrap 66 = .ok (.getfield 137, 3) := dr9 dk9_dX1_readWrap_0_0.2.1 4 (66, .getfield 137, 3) rfl
theorem dX1_readWrap_69 : decode cX1_readWrap 69 = .ok (.istore_n 2, 1) := dr9 dk9_dX1_readWrap_0_0.2.1 5 (69, .istore_n 2, 1) rfl
theorem dX1_readWrap_70 : decode cX1_readWrap 70 = .ok (.aload_n 0, 1) := dr9 dk9_dX1_readWrap_0_0.2.1 6 (70, .aload_n 0, 1) rfl
theorem dX1_readWrap_71 : decode cX1_readWrap 71 = .ok (.iconst 0, 1) := dr9 dk9_dX1_readWrap_0_0.2.1 7 (71, .iconst 0, 1) rfl
theorem dX1_readWrap_72 : decode cX1_readWrap 72 = .ok (.bipush 99, 2) := dr9 dk9_dX1_readWrap_0_0.2.1 8 (72, .bipush 99, 2) rfl
theorem dX1_readWrap_74 : decode cX1_readWrap 74 = .ok (.invokevirtual 103, 3) := dr9 dk9_dX1_readWrap_0_0.2.1 9 (74, .invokevirtual 103, 3) rfl
theorem dX1_readWrap_77 : decode cX1_readWrap 77 = .ok (.ifCond .ne 5, 3) := dr9 dk9_dX1_readWrap_0_0.2.1 10 (77, .ifCond .ne 5, 3) rfl
theorem dX1_readWrap_82 : decode cX1_readWrap 82 = .ok (.aload_n 0, 1) := dr9 dk9_dX1_readWrap_0_0.2.1 11 (82, .aload_n 0, 1) rfl
theorem dX1_readWrap_83 : decode cX1_readWrap 83 = .ok (.getfield 110, 3) := dr9 dk9_dX1_readWrap_0_0.2.1 12 (83, .getfield 110, 3) rfl
theorem dX1_readWrap_86 : decode cX1_readWrap 86 = .ok (.istore_n 3, 1) := dr9 dk9_dX1_readWrap_0_0.2.1 13 (86, .istore_n 3, 1) rfl
theorem dX1_readWrap_87 : decode cX1_readWrap 87 = .ok (.aload_n 0, 1) := dr9 dk9_dX1_readWrap_0_0.2.1 14 (87, .aload_n 0, 1) rfl
theorem dX1_readWrap_88 : decode cX1_readWrap 88 = .ok (.getfield 9, 3) := dr9 dk9_dX1_readWrap_0_0.2.1 15 (88, .getfield 9, 3) rfl
theorem dX1_readWrap_91 : decode cX1_readWrap 91 = .ok (.getfield 37, 3) := dr9 dk9_dX1_readWrap_0_0.2.1 16 (91, .getfield 37, 3) rfl
theorem dX1_readWrap_94 : decode cX1_readWrap 94 = .ok (.sipush 152, 3) := dr9 dk9_dX1_readWrap_0_0.2.1 17 (94, .sipush 152, 3) rfl
theorem dX1_readWrap_97 : decode cX1_readWrap 97 = .ok (.if_icmp .lt 16, 3) := dr9 dk9_dX1_readWrap_0_0.2.1 18 (97, .if_icmp .lt 16, 3) rfl
theorem dX1_readWrap_113 : decode cX1_readWrap 113 = .ok (.aload_n 0, 1) := dr9 dk9_dX1_readWrap_0_0.2.1 19 (113, .aload_n 0, 1) rfl
theorem dX1_readWrap_114 : decode cX1_readWrap 114 = .ok (.iconst 1, 1) := dr9 dk9_dX1_readWrap_0_0.2.1 20 (114, .iconst 1, 1) rfl
theorem dX1_readWrap_115 : decode cX1_readWrap 115 = .ok (.invokevirtual 47, 3) := dr9 dk9_dX1_readWrap_0_0.2.1 21 (115, .invokevirtual 47, 3) rfl
theorem dX1_readWrap_118 : decode cX1_readWrap 118 = .ok (.ireturn, 1) := dr9 dk9_dX1_readWrap_0_0.2.1 22 (118, .ireturn, 1) rfl
theorem dX1_readWrap_100 : decode cX1_readWrap 100 = .ok (.aload_n 0, 1) := dr9 dk9_dX1_readWrap_0_0.2.1 23 (100, .aload_n 0, 1) rfl
theorem dX1_readWrap_101 : decode cX1_readWrap 101 = .ok (.getfield 9, 3) := dr9 dk9_dX1_readWrap_0_0.2.2.1 0 (101, .getfield 9, 3) rfl
theorem dX1_readWrap_104 : decode cX1_readWrap 104 = .ok (.getfield 37, 3) := dr9 dk9_dX1_readWrap_0_0.2.2.1 1 (104, .getfield 37, 3) rfl
theorem dX1_readWrap_107 : decode cX1_readWrap 107 = .ok (.sipush 155, 3) := dr9 dk9_dX1_readWrap_0_0.2.2.1 2 (107, .sipush 155, 3) rfl
theorem dX1_readWrap_110 : decode cX1_readWrap 110 = .ok (.if_icmp .le 9, 3) := dr9 dk9_dX1_readWrap_0_0.2.2.1 3 (110, .if_icmp .le 9, 3) rfl
theorem dX1_readWrap_119 : decode cX1_readWrap 119 = .ok (.aload_n 0, 1) := dr9 dk9_dX1_readWrap_0_0.2.2.1 4 (119, .aload_n 0, 1) rfl
theorem dX1_readWrap_120 : decode cX1_readWrap 120 = .ok (.getfield 9, 3) := dr9 dk9_dX1_readWrap_0_0.2.2.1 5 (120, .getfield 9, 3) rfl
theorem dX1_readWrap_123 : decode cX1_readWrap 123 = .ok (.getfield 37, 3) := dr9 dk9_dX1_readWrap_0_0.2.2.1 6 (123, .getfield 37, 3) rfl
theorem dX1_readWrap_126 : decode cX1_readWrap 126 = .ok (.sipush 152, 3) := dr9 dk9_dX1_readWrap_0_0.2.2.1 7 (126, .sipush 152, 3) rfl
theorem dX1_readWrap_129 : decode cX1_readWrap 129 = .ok (.isub, 1) := dr9 dk9_dX1_readWrap_0_0.2.2.1 8 (129, .isub, 1) rfl
theorem dX1_readWrap_130 : decode cX1_readWrap 130 = .ok (.istore 4, 2) := dr9 dk9_dX1_readWrap_0_0.2.2.1 9 (130, .istore 4, 2) rfl
theorem dX1_readWrap_132 : decode cX1_readWrap 132 = .ok (.iload 4, 2) := dr9 dk9_dX1_readWrap_0_0.2.2.1 10 (132, .iload 4, 2) rfl
theorem dX1_readWrap_134 : decode cX1_readWrap 134 = .ok (.iconst 1, 1) := dr9 dk9_dX1_readWrap_0_0.2.2.1 11 (134, .iconst 1, 1) rfl
theorem dX1_readWrap_135 : decode cX1_readWrap 135 = .ok (.if_icmp .ne 21, 3) := dr9 dk9_dX1_readWrap_0_0.2.2.1 12 (135, .if_icmp .ne 21, 3) rfl
theorem dX1_readWrap_156 : decode cX1_readWrap 156 = .ok (.aload_n 0, 1) := dr9 dk9_dX1_readWrap_0_0.2.2.1 13 (156, .aload_n 0, 1) rfl
theorem dX1_readWrap_157 : decode cX1_readWrap 157 = .ok (.getfield 15, 3) := dr9 dk9_dX1_readWrap_0_0.2.2.1 14 (157, .getfield 15, 3) rfl
theorem dX1_readWrap_160 : decode cX1_readWrap 160 = .ok (.getfield 168, 3) := dr9 dk9_dX1_readWrap_0_0.2.2.1 15 (160, .getfield 168, 3) rfl
theorem dX1_readWrap_163 : decode cX1_readWrap 163 = .ok (.istore 5, 2) := dr9 dk9_dX1_readWrap_0_0.2.2.1 16 (163, .istore 5, 2) rfl
theorem dX1_readWrap_165 : decode cX1_readWrap 165 = .ok (.aload_n 0, 1) := dr9 dk9_dX1_readWrap_0_0.2.2.1 17 (165, .aload_n 0, 1) rfl
theorem dX1_readWrap_166 : decode cX1_readWrap 166 = .ok (.getfield 9, 3) := dr9 dk9_dX1_readWrap_0_0.2.2.1 18 (166, .getfield 9, 3) rfl
theorem dX1_readWrap_169 : decode cX1_readWrap 169 = .ok (.invokevirtual 72, 3) := dr9 dk9_dX1_readWrap_0_0.2.2.1 19 (169, .invokevirtual 72, 3) rfl
theorem dX1_readWrap_172 : decode cX1_readWrap 172 = .ok (.aload_n 0, 1) := dr9 dk9_dX1_readWrap_0_0.2.2.1 20 (172, .aload_n 0, 1) rfl
theorem dX1_readWrap_173 : decode cX1_readWrap 173 = .ok (.iload 4, 2) := dr9 dk9_dX1_readWrap_0_0.2.2.1 21 (173, .iload 4, 2) rfl
theorem dX1_readWrap_175 : decode cX1_readWrap 175 = .ok (.iconst 1, 1) := dr9 dk9_dX1_readWrap_0_0.2.2.1 22 (175, .iconst 1, 1) rfl
theorem dX1_readWrap_176 : decode cX1_readWrap 176 = .ok (.if_icmp .ne 7, 3) := dr9 dk9_dX1_readWrap_0_0.2.2.1 23 (176, .if_icmp .ne 7, 3) rfl
theorem dX1_readWrap_183 : decode cX1_readWrap 183 = .ok (.iconst 1, 1) := dr9 dk9_dX1_readWrap_0_0.2.2.2.1 0 (183, .iconst 1, 1) rfl
theorem dX1_readWrap_184 : decode cX1_readWrap 184 = .ok (.invokevirtual 171, 3) := dr9 dk9_dX1_readWrap_0_0.2.2.2.1 1 (184, .invokevirtual 171, 3) rfl
theorem dX1_readWrap_187 : decode cX1_readWrap 187 = .ok (.ifCond .ne 5, 3) := dr9 dk9_dX1_readWrap_0_0.2.2.2.1 2 (187, .ifCond .ne 5, 3) rfl
theorem dX1_readWrap_192 : decode cX1_readWrap 192 = .ok (.aload_n 0, 1) := dr9 dk9_dX1_readWrap_0_0.2.2.2.1 3 (192, .aload_n 0, 1) rfl
theorem dX1_readWrap_193 : decode cX1_readWrap 193 = .ok (.getfield 15, 3) := dr9 dk9_dX1_readWrap_0_0.2.2.2.1 4 (193, .getfield 15, 3) rfl
theorem dX1_readWrap_196 : decode cX1_readWrap 196 = .ok (.iload_n 1, 1) := dr9 dk9_dX1_readWrap_0_0.2.2.2.1 5 (196, .iload_n 1, 1) rfl
theorem dX1_readWrap_197 : decode cX1_readWrap 197 = .ok (.iload_n 2, 1) := dr9 dk9_dX1_readWrap_0_0.2.2.2.1 6 (197, .iload_n 2, 1) rfl
theorem dX1_readWrap_198 : decode cX1_readWrap 198 = .ok (.iload_n 3, 1) := dr9 dk9_dX1_readWrap_0_0.2.2.2.1 7 (198, .iload_n 3, 1) rfl
theorem dX1_readWrap_199 : decode cX1_readWrap 199 = .ok (.iload 4, 2) := dr9 dk9_dX1_readWrap_0_0.2.2.2.1 8 (199, .iload 4, 2) rfl
theorem dX1_readWrap_201 : decode cX1_readWrap 201 = .ok (.iload 5, 2) := dr9 dk9_dX1_readWrap_0_0.2.2.2.1 9 (201, .iload 5, 2) rfl
theorem dX1_readWrap_203 : decode cX1_readWrap 203 = .ok (.invokevirtual 174, 3) := dr9 dk9_dX1_readWrap_0_0.2.2.2.1 10 (203, .invokevirtual 174, 3) rfl
theorem dX1_readWrap_206 : decode cX1_readWrap 206 = .ok (.iconst 1, 1) := dr9 dk9_dX1_readWrap_0_0.2.2.2.1 11 (206, .iconst 1, 1) rfl
theorem dX1_readWrap_207 : decode cX1_readWrap 207 = .ok (.ireturn, 1) := dr9 dk9_dX1_readWrap_0_0.2.2.2.1 12 (207, .ireturn, 1) rfl
theorem dX1_readWrap_190 : decode cX1_readWrap 190 = .ok (.iconst 0, 1) := dr9 dk9_dX1_readWrap_0_0.2.2.2.1 13 (190, .iconst 0, 1) rfl
theorem dX1_readWrap_191 : decode cX1_readWrap 191 = .ok (.ireturn, 1) := dr9 dk9_dX1_readWrap_0_0.2.2.2.1 14 (191, .ireturn, 1) rfl
theorem dX1_readWrap_179 : decode cX1_readWrap 179 = .ok (.iconst 2, 1) := dr9 dk9_dX1_readWrap_0_0.2.2.2.1 15 (179, .iconst 2, 1) rfl
theorem dX1_readWrap_180 : decode cX1_readWrap 180 = .ok (.goto 4, 3) := dr9 dk9_dX1_readWrap_0_0.2.2.2.1 16 (180, .goto 4, 3) rfl
theorem dX1_readWrap_138 : decode cX1_readWrap 138 = .ok (.aload_n 0, 1) := dr9 dk9_dX1_readWrap_0_0.2.2.2.1 17 (138, .aload_n 0, 1) rfl
theorem dX1_readWrap_139 : decode cX1_readWrap 139 = .ok (.getfield 15, 3) := dr9 dk9_dX1_readWrap_0_0.2.2.2.1 18 (139, .getfield 15, 3) rfl
theorem dX1_readWrap_142 : decode cX1_readWrap 142 = .ok (.iload_n 2, 1) := dr9 dk9_dX1_readWrap_0_0.2.2.2.1 19 (142, .iload_n 2, 1) rfl
theorem dX1_readWrap_143 : decode cX1_readWrap 143 = .ok (.invokevirtual 164, 3) := dr9 dk9_dX1_readWrap_0_0.2.2.2.1 20 (143, .invokevirtual 164, 3) rfl
theorem dX1_readWrap_146 : decode cX1_readWrap 146 = .ok (.iconst 2, 1) := dr9 dk9_dX1_readWrap_0_0.2.2.2.1 21 (146, .iconst 2, 1) rfl
theorem dX1_readWrap_147 : decode cX1_readWrap 147 = .ok (.if_icmp .lt 9, 3) := dr9 dk9_dX1_readWrap_0_0.2.2.2.1 22 (147, .if_icmp .lt 9, 3) rfl
theorem dX1_readWrap_150 : decode cX1_readWrap 150 = .ok (.aload_n 0, 1) := dr9 dk9_dX1_readWrap_0_0.2.2.2.1 23 (150, .aload_n 0, 1) rfl
theorem dX1_readWrap_151 : decode cX1_readWrap 151 = .ok (.iconst 5, 1) := dr9 dk9_dX1_readWrap_0_0.2.2.2.2 0 (151, .iconst 5, 1) rfl
theorem dX1_readWrap_152 : decode cX1_readWrap 152 = .ok (.invokevirtual 47, 3) := dr9 dk9_dX1_readWrap_0_0.2.2.2.2 1 (152, .invokevirtual 47, 3) rfl
theorem dX1_readWrap_155 : decode cX1_readWrap 155 = .ok (.ireturn, 1) := dr9 dk9_dX1_readWrap_0_0.2.2.2.2 2 (155, .ireturn, 1) rfl
theorem dX1_readWrap_80 : decode cX1_readWrap 80 = .ok (.iconst 0, 1) := dr9 dk9_dX1_readWrap_0_0.2.2.2.2 3 (80, .iconst 0, 1) rfl
theorem dX1_readWrap_81 : decode cX1_readWrap 81 = .ok (.ireturn, 1) := dr9 dk9_dX1_readWrap_0_0.2.2.2.2 4 (81, .ireturn, 1) rfl
theorem dX1_readWrap_32 : decode cX1_readWrap 32 = .ok (.iconst 0, 1) := dr9 dk9_dX1_readWrap_0_0.2.2.2.2 5 (32, .iconst 0, 1) rfl
theorem dX1_readWrap_33 : decode cX1_readWrap 33 = .ok (.ireturn, 1) := dr9 dk9_dX1_readWrap_0_0.2.2.2.2 6 (33, .ireturn, 1) rfl
theorem dX1_readWrap_12 : decode cX1_readWrap 12 = .ok (.aload_n 0, 1) := dr9 dk9_dX1_readWrap_0_0.2.2.2.2 7 (12, .aload_n 0, 1) rfl
theorem dX1_readWrap_13 : decode cX1_readWrap 13 = .ok (.iconst 5, 1) := dr9 dk9_dX1_readWrap_0_0.2.2.2.2 8 (13, .iconst 5, 1) rfl
theorem dX1_readWrap_14 : decode cX1_readWrap 14 = .ok (.invokevirtual 47, 3) := dr9 dk9_dX1_readWrap_0_0.2.2.2.2 9 (14, .invokevirtual 47, 3) rfl
theorem dX1_readWrap_17 : decode cX1_readWrap 17 = .ok (.ireturn, 1) := dr9 dk9_dX1_readWrap_0_0.2.2.2.2 10 (17, .ireturn, 1) rfl
theorem dk9_dX1_readExtras_0_0 : dOk cX1_readExtras [(0, .aload_n 0, 1), (1, .getfield 9, 3), (4, .getfield 37, 3), (7, .sipush 133, 3), (10, .if_icmp .ne 20, 3), (30, .aload_n 0, 1), (31, .getfield 9, 3), (34, .getfield 37, 3), (37, .sipush 134, 3), (40, .if_icmp .ne 30, 3), (70, .aload_n 0, 1), (71, .getfield 9, 3), (74, .getfield 37, 3), (77, .sipush 135, 3), (80, .if_icmp .ne 47, 3), (127, .iconst 1, 1), (128, .ireturn, 1), (83, .aload_n 0, 1), (84, .getfield 9, 3), (87, .invokevirtual 72, 3), (90, .aload_n 0, 1), (91, .invokevirtual 146, 3), (94, .ifCond .ne 5, 3), (99, .aload_n 1, 1)] = true ∧ dOk cX1_readExtras [(100, .aload_n 0, 1), (101, .getfield 137, 3), (104, .putfield 149, 3), (107, .aload_n 0, 1), (108, .iconst 0, 1), (109, .ldc 102, 2), (111, .invokevirtual 103, 3), (114, .ifCond .ne 5, 3), (119, .aload_n 1, 1), (120, .aload_n 0, 1), (121, .getfield 110, 3), (124, .putfield 152, 3), (117, .iconst 0, 1), (118, .ireturn, 1), (97, .iconst 0, 1), (98, .ireturn, 1), (43, .aload_n 0, 1), (44, .getfield 9, 3), (47, .invokevirtual 72, 3), (50, .aload_n 0, 1), (51, .iconst 0, 1), (52, .bipush 9, 2), (54, .invokevirtual 103, 3), (57, .ifCond .ne 5, 3)] = true ∧ dOk cX1_readExtras [(62, .aload_n 1, 1), (63, .aload_n 0, 1), (64, .getfield 110, 3), (67, .putfield 143, 3), (60, .iconst 0, 1), (61, .ireturn, 1), (13, .aload_n 0, 1), (14, .invokevirtual 134, 3), (17, .ifCond .ne 5, 3), (22, .aload_n 1, 1), (23, .aload_n 0, 1), (24, .getfield 137, 3), (27, .putfield 140, 3), (20, .iconst 0, 1), (21, .ireturn, 1)] = true := by decide +kernel
theorem dX1_readExtras_0 : decode cX1_readExtras 0 = .ok (.aload_n 0, 1) := dr9 dk9_dX1_readExtras_0_0.1 0 (0, .aload_n 0, 1) rfl
theorem dX1_readExtras_1 : decode cX1_readExtras 1 = .ok (.getfield 9, 3) := dr9 dk9_dX1_readExtras_0_0.1 1 (1, .getfield 9, 3) rfl
theorem dX1_readExtras_4 : decode cX1_readExtras 4 = .ok (.getfield 37, 3) := dr9 dk9_dX1_readExtras_0_0.1 2 (4, .getfield 37, 3) rfl
theorem dX1_readExtras_7 : decode cX1_readExtras 7 = .ok (.sipush 133, 3) := dr9 dk9_dX1_readExtras_0_0.1 3 (7, .sipush 133, 3) rfl
theorem dX1_readExtras_10 : decode cX1_readExtras 10 = .ok (.if_icmp .ne 20, 3) := dr9 dk9_dX1_readExtras_0_0.1 4 (10, .if_icmp .ne 20, 3) rfl
theorem dX1_readExtras_30 : decode cX1_readExtras 30 = .ok (.aload_n 0, 1) := dr9 dk9_dX1_readExtras_0_0.1 5 (30, .aload_n 0, 1) rfl
theorem dX1_readExtras_31 : decode cX1_readExtras 31 = .ok (.getfield 9, 3) := dr9 dk9_dX1_readExtras_0_0.1 6 (31, .getfield 9, 3) rfl
theorem dX1_readExtras_34 : decode cX1_readExtras 34 = .ok (.getfield 37, 3) := dr9 dk9_dX1_readExtras_0_0.1 7 (34, .getfield 37, 3) rfl
theorem dX1_readExtras_37 : decode cX1_readExtras 37 = .ok (.sipush 134, 3) := dr9 dk9_dX1_readExtras_0_0.1 8 (37, .sipush 134, 3) rfl
theorem dX1_readExtras_40 : decode cX1_readExtras 40 = .ok (.if_icmp .ne 30, 3) := dr9 dk9_dX1_readExtras_0_0.1 9 (40, .if_icmp .ne 30, 3) rfl
theorem dX1_readExtras_70 : decode cX1_readExtras 70 = .ok (.aload_n 0, 1) := dr9 dk9_dX1_readExtras_0_0.1 10 (70, .aload_n 0, 1) rfl
theorem dX1_readExtras_71 : decode cX1_readExtras 71 = .ok (.getfield 9, 3) := dr9 dk9_dX1_readExtras_0_0.1 11 (71, .getfield 9, 3) rfl
theorem dX1_readExtras_74 : decode cX1_readExtras 74 = .ok (.getfield 37, 3) := dr9 dk9_dX1_readExtras_0_0.1 12 (74, .getfield 37, 3) rfl
theorem dX1_readExtras_77 : decode cX1_readExtras 77 = .ok (.sipush 135, 3) := dr9 dk9_dX1_readExtras_0_0.1 13 (77, .sipush 135, 3) rfl
theorem dX1_readExtras_80 : decode cX1_readExtras 80 = .ok (.if_icmp .ne 47, 3) := dr9 dk9_dX1_readExtras_0_0.1 14 (80, .if_icmp .ne 47, 3) rfl
theorem dX1_readExtras_127 : decode cX1_readExtras 127 = .ok (.iconst 1, 1) := dr9 dk9_dX1_readExtras_0_0.1 15 (127, .iconst 1, 1) rfl
theorem dX1_readExtras_128 : decode cX1_readExtras 128 = .ok (.ireturn, 1) := dr9 dk9_dX1_readExtras_0_0.1 16 (128, .ireturn, 1) rfl
theorem dX1_readExtras_83 : decode cX1_readExtras 83 = .ok (.aload_n 0, 1) := dr9 dk9_dX1_readExtras_0_0.1 17 (83, .aload_n 0, 1) rfl
theorem dX1_readExtras_84 : decode cX1_readExtras 84 = .ok (.getfield 9, 3) := dr9 dk9_dX1_readExtras_0_0.1 18 (84, .getfield 9, 3) rfl
theorem dX1_readExtras_87 : decode cX1_readExtras 87 = .ok (.invokevirtual 72, 3) := dr9 dk9_dX1_readExtras_0_0.1 19 (87, .invokevirtual 72, 3) rfl
theorem dX1_readExtras_90 : decode cX1_readExtras 90 = .ok (.aload_n 0, 1) := dr9 dk9_dX1_readExtras_0_0.1 20 (90, .aload_n 0, 1) rfl
theorem dX1_readExtras_91 : decode cX1_readExtras 91 = .ok (.invokevirtual 146, 3) := dr9 dk9_dX1_readExtras_0_0.1 21 (91, .invokevirtual 146, 3) rfl
theorem dX1_readExtras_94 : decode cX1_readExtras 94 = .ok (.ifCond .ne 5, 3) := dr9 dk9_dX1_readExtras_0_0.1 22 (94, .ifCond .ne 5, 3) rfl
theorem dX1_readExtras_99 : decode cX1_readExtras 99 = .ok (.aload_n 1, 1) := dr9 dk9_dX1_readExtras_0_0.1 23 (99, .aload_n 1, 1) rfl
theorem dX1_readExtras_100 : decode cX1_readExtras 100 = .ok (.aload_n 0, 1) := dr9 dk9_dX1_readExtras_0_0.2.1 0 (100, .aload_n 0, 1) rfl
theorem dX1_readExtras_101 : decode cX1_readExtras 101 = .ok (.getfield 137, 3) := dr9 dk9_dX1_readExtras_0_0.2.1 1 (101, .getfield 137, 3) rfl
theorem dX1_readExtras_104 : decode cX1_readExtras 104 = .ok (.putfield 149, 3) := dr9 dk9_dX1_readExtras_0_0.2.1 2 (104, .putfield 149, 3) rfl
theorem dX1_readExtras_107 : decode cX1_readExtras 107 = .ok (.aload_n 0, 1) := dr9 dk9_dX1_readExtras_0_0.2.1 3 (107, .aload_n 0, 1) rfl
theorem dX1_readExtras_108 : decode cX1_readExtras 108 = .ok (.iconst 0, 1) := dr9 dk9_dX1_readExtras_0_0.2.1 4 (108, .iconst 0, 1) rfl
theorem dX1_readExtras_109 : decode cX1_readExtras 109 = .ok (.ldc 102, 2) := dr9 dk9_dX1_readExtras_0_0.2.1 5 (109, .ldc 102, 2) rfl
theorem dX1_readExtras_111 : decode cX1_readExtras 111 = .ok (.invokevirtual 103, 3) := dr9 dk9_dX1_readExtras_0_0.2.1 6 (111, .invokevirtual 103, 3) rfl
theorem dX1_readExtras_114 : decode cX1_readExtras 114 = .ok (.ifCond .ne 5, 3) := dr9 dk9_dX1_readExtras_0_0.2.1 7 (114, .ifCond .ne 5, 3) rfl
theorem dX1_readExtras_119 : decode cX1_readExtras 119 = .ok (.aload_n 1, 1) := dr9 dk9_dX1_readExtras_0_0.2.1 8 (119, .aload_n 1, 1) rfl
theorem dX1_readExtras_120 : decode cX1_readExtras 120 = .ok (.aload_n 0, 1) := dr9 dk9_dX1_readExtras_0_0.2.1 9 (120, .aload_n 0, 1) rfl
theorem dX1_readExtras_121 : decode cX1_readExtras 121 = .ok (.getfield 110, 3) := dr9 dk9_dX1_readExtras_0_0.2.1 10 (121, .getfield 110, 3) rfl
theorem dX1_readExtras_124 : decode cX1_readExtras 124 = .ok (.putfield 152, 3) := dr9 dk9_dX1_readExtras_0_0.2.1 11 (124, .putfield 152, 3) rfl
theorem dX1_readExtras_117 : decode cX1_readExtras 117 = .ok (.iconst 0, 1) := dr9 dk9_dX1_readExtras_0_0.2.1 12 (117, .iconst 0, 1) rfl
theorem dX1_readExtras_118 : decode cX1_readExtras 118 = .ok (.ireturn, 1) := dr9 dk9_dX1_readExtras_0_0.2.1 13 (118, .ireturn, 1) rfl
theorem dX1_readExtras_97 : decode cX1_readExtras 97 = .ok (.iconst 0, 1) := dr9 dk9_dX1_readExtras_0_0.2.1 14 (97, .iconst 0, 1) rfl
theorem dX1_readExtras_98 : decode cX1_readExtras 98 = .ok (.ireturn, 1) := dr9 dk9_dX1_readExtras_0_0.2.1 15 (98, .ireturn, 1) rfl
theorem dX1_readExtras_43 : decode cX1_readExtras 43 = .ok (.aload_n 0, 1) := dr9 dk9_dX1_readExtras_0_0.2.1 16 (43, .aload_n 0, 1) rfl
theorem dX1_readExtras_44 : decode cX1_readExtras 44 = .ok (.getfield 9, 3) := dr9 dk9_dX1_readExtras_0_0.2.1 17 (44, .getfield 9, 3) rfl
theorem dX1_readExtras_47 : decode cX1_readExtras 47 = .ok (.invokevirtual 72, 3) := dr9 dk9_dX1_readExtras_0_0.2.1 18 (47, .invokevirtual 72, 3) rfl
theorem dX1_readExtras_50 : decode cX1_readExtras 50 = .ok (.aload_n 0, 1) := dr9 dk9_dX1_readExtras_0_0.2.1 19 (50, .aload_n 0, 1) rfl
theorem dX1_readExtras_51 : decode cX1_readExtras 51 = .ok (.iconst 0, 1) := dr9 dk9_dX1_readExtras_0_0.2.1 20 (51, .iconst 0, 1) rfl
theorem dX1_readExtras_52 : decode cX1_readExtras 52 = .ok (.bipush 9, 2) := dr9 dk9_dX1_readExtras_0_0.2.1 21 (52, .bipush 9, 2) rfl
theorem dX1_readExtras_54 : decode cX1_readExtras 54 = .ok (.invokevirtual 103, 3) := dr9 dk9_dX1_readExtras_0_0.2.1 22 (54, .invokevirtual 103, 3) rfl
theorem dX1_readExtras_57 : decode cX1_readExtras 57 = .ok (.ifCond .ne 5, 3) := dr9 dk9_dX1_readExtras_0_0.2.1 23 (57, .ifCond .ne 5, 3) rfl
theorem dX1_readExtras_62 : decode cX1_readExtras 62 = .ok (.aload_n 1, 1) := dr9 dk9_dX1_readExtras_0_0.2.2 0 (62, .aload_n 1, 1) rfl
theorem dX1_readExtras_63 : decode cX1_readExtras 63 = .ok (.aload_n 0, 1) := dr9 dk9_dX1_readExtras_0_0.2.2 1 (63, .aload_n 0, 1) rfl
theorem dX1_readExtras_64 : decode cX1_readExtras 64 = .ok (.getfield 110, 3) := dr9 dk9_dX1_readExtras_0_0.2.2 2 (64, .getfield 110, 3) rfl
theorem dX1_readExtras_67 : decode cX1_readExtras 67 = .ok (.putfield 143, 3) := dr9 dk9_dX1_readExtras_0_0.2.2 3 (67, .putfield 143, 3) rfl
theorem dX1_readExtras_60 : decode cX1_readExtras 60 = .ok (.iconst 0, 1) := dr9 dk9_dX1_readExtras_0_0.2.2 4 (60, .iconst 0, 1) rfl
theorem dX1_readExtras_61 : decode cX1_readExtras 61 = .ok (.ireturn, 1) := dr9 dk9_dX1_readExtras_0_0.2.2 5 (61, .ireturn, 1) rfl
theorem dX1_readExtras_13 : decode cX1_readExtras 13 = .ok (.aload_n 0, 1) := dr9 dk9_dX1_readExtras_0_0.2.2 6 (13, .aload_n 0, 1) rfl
theorem dX1_readExtras_14 : decode cX1_readExtras 14 = .ok (.invokevirtual 134, 3) := dr9 dk9_dX1_readExtras_0_0.2.2 7 (14, .invokevirtual 134, 3) rfl
theorem dX1_readExtras_17 : decode cX1_readExtras 17 = .ok (.ifCond .ne 5, 3) := dr9 dk9_dX1_readExtras_0_0.2.2 8 (17, .ifCond .ne 5, 3) rfl
theorem dX1_readExtras_22 : decode cX1_readExtras 22 = .ok (.aload_n 1, 1) := dr9 dk9_dX1_readExtras_0_0.2.2 9 (22, .aload_n 1, 1) rfl
theorem dX1_readExtras_23 : decode cX1_readExtras 23 = .ok (.aload_n 0, 1) := dr9 dk9_dX1_readExtras_0_0.2.2 10 (23, .aload_n 0, 1) rfl
theorem dX1_readExtras_24 : decode cX1_readExtras 24 = .ok (.getfield 137, 3) := dr9 dk9_dX1_readExtras_0_0.2.2 11 (24, .getfield 137, 3) rfl
theorem dX1_readExtras_27 : decode cX1_readExtras 27 = .ok (.putfield 140, 3) := dr9 dk9_dX1_readExtras_0_0.2.2 12 (27, .putfield 140, 3) rfl
theorem dX1_readExtras_20 : decode cX1_readExtras 20 = .ok (.iconst 0, 1) := dr9 dk9_dX1_readExtras_0_0.2.2 13 (20, .iconst 0, 1) rfl
theorem dX1_readExtras_21 : decode cX1_readExtras 21 = .ok (.ireturn, 1) := dr9 dk9_dX1_readExtras_0_0.2.2 14 (21, .ireturn, 1) rfl
theorem dk9_dX1_readSetting_0_0 : dOk cX1_readSetting [(0, .aload_n 0, 1), (1, .getfield 15, 3), (4, .getfield 99, 3), (7, .invokevirtual 67, 3), (10, .ifCond .eq 9, 3), (19, .aload_n 0, 1), (20, .getfield 9, 3), (23, .invokevirtual 72, 3), (26, .aload_n 0, 1), (27, .invokevirtual 75, 3), (30, .ifCond .ne 5, 3), (35, .aload_n 0, 1), (36, .getfield 78, 3), (39, .lstore_n 1, 1), (40, .aload_n 0, 1), (41, .iconst 0, 1), (42, .ldc 102, 2), (44, .invokevirtual 103, 3), (47, .ifCond .eq 12, 3), (59, .iconst 0, 1), (60, .ireturn, 1), (50, .aload_n 0, 1), (51, .bipush 59, 2), (53, .invokevirtual 88, 3)] = true ∧ dOk cX1_readSetting [(56, .ifCond .ne 5, 3), (61, .aload_n 0, 1), (62, .getfield 15, 3), (65, .getfield 99, 3), (68, .lload_n 1, 1), (69, .invokevirtual 91, 3), (72, .istore_n 3, 1), (73, .iload_n 3, 1), (74, .iconst (-1), 1), (75, .if_icmp .eq 16, 3), (91, .iconst 1, 1), (92, .ireturn, 1), (78, .aload_n 0, 1), (79, .getfield 15, 3), (82, .getfield 107, 3), (85, .iload_n 3, 1), (86, .aload_n 0, 1), (87, .getfield 110, 3), (90, .iastore, 1), (33, .iconst 0, 1), (34, .ireturn, 1), (13, .aload_n 0, 1), (14, .iconst 5, 1), (15, .invokevirtual 47, 3)] = true ∧ dOk cX1_readSetting [(18, .ireturn, 1)] = true := by decide +kernel
theorem dX1_readSetting_0 : decode cX1_readSetting 0 = .ok (.aload_n 0, 1) := dr9 dk9_dX1_readSetting_0_0.1 0 (0, .aload_n 0, 1) rfl
theorem dX1_readSetting_1 : decode cX1_readSetting 1 = .ok (.getfield 15, 3) := dr9 dk9_dX1_readSetting_0_0.1 1 (1, .getfield 15, 3) rfl
theorem dX1_readSetting_4 : decode cX1_readSetting 4 = .ok (.getfield 99, 3) := dr9 dk9_dX1_readSetting_0_0.1 2 (4, .getfield 99, 3) rfl
theorem dX1_readSetting_7 : decode cX1_readSetting 7 = .ok (.invokevirtual 67, 3) := dr9 dk9_dX1_readSetting_0_0.1 3 (7, .invokevirtual 67, 3) rfl
theorem dX1_readSetting_10 : decode cX1_readSetting 10 = .ok (.ifCond .eq 9, 3) := dr9 dk9_dX1_readSetting_0_0.1 4 (10, .ifCond .eq 9, 3) rfl
theorem dX1_readSetting_19 : decode cX1_readSetting 19 = .ok (.aload_n 0, 1) := dr9 dk9_dX1_readSetting_0_0.1 5 (19, .aload_n 0, 1) rfl
theorem dX1_readSetting_20 : decode cX1_readSetting 20 = .ok (.getfield 9, 3) := dr9 dk9_dX1_readSetting_0_0.1 6 (20, .getfield 9, 3) rfl
theorem dX1_readSetting_23 : decode cX1_readSetting 23 = .ok (.invokevirtual 72, 3) := dr9 dk9_dX1_readSetting_0_0.1 7 (23, .invokevirtual 72, 3) rfl
theorem dX1_readSetting_26 : decode cX1_readSetting 26 = .ok (.aload_n 0, 1) := dr9 dk9_dX1_readSetting_0_0.1 8 (26, .aload_n 0, 1) rfl
theorem dX1_readSetting_27 : decode cX1_readSetting 27 = .ok (.invokevirtual 75, 3) := dr9 dk9_dX1_readSetting_0_0.1 9 (27, .invokevirtual 75, 3) rfl
theorem dX1_readSetting_30 : decode cX1_readSetting 30 = .ok (.ifCond .ne 5, 3) := dr9 dk9_dX1_readSetting_0_0.1 10 (30, .ifCond .ne 5, 3) rfl
theorem dX1_readSetting_35 : decode cX1_readSetting 35 = .ok (.aload_n 0, 1) := dr9 dk9_dX1_readSetting_0_0.1 11 (35, .aload_n 0, 1) rfl
theorem dX1_readSetting_36 : decode cX1_readSetting 36 = .ok (.getfield 78, 3) := dr9 dk9_dX1_readSetting_0_0.1 12 (36, .getfield 78, 3) rfl
theorem dX1_readSetting_39 : decode cX1_readSetting 39 = .ok (.lstore_n 1, 1) := dr9 dk9_dX1_readSetting_0_0.1 13 (39, .lstore_n 1, 1) rfl
theorem dX1_readSetting_40 : decode cX1_readSetting 40 = .ok (.aload_n 0, 1) := dr9 dk9_dX1_readSetting_0_0.1 14 (40, .aload_n 0, 1) rfl
theorem dX1_readSetting_41 : decode cX1_readSetting 41 = .ok (.iconst 0, 1) := dr9 dk9_dX1_readSetting_0_0.1 15 (41, .iconst 0, 1) rfl
theorem dX1_readSetting_42 : decode cX1_readSetting 42 = .ok (.ldc 102, 2) := dr9 dk9_dX1_readSetting_0_0.1 16 (42, .ldc 102, 2) rfl
theorem dX1_readSetting_44 : decode cX1_readSetting 44 = .ok (.invokevirtual 103, 3) := dr9 dk9_dX1_readSetting_0_0.1 17 (44, .invokevirtual 103, 3) rfl
theorem dX1_readSetting_47 : decode cX1_readSetting 47 = .ok (.ifCond .eq 12, 3) := dr9 dk9_dX1_readSetting_0_0.1 18 (47, .ifCond .eq 12, 3) rfl
theorem dX1_readSetting_59 : decode cX1_readSetting 59 = .ok (.iconst 0, 1) := dr9 dk9_dX1_readSetting_0_0.1 19 (59, .iconst 0, 1) rfl
theorem dX1_readSetting_60 : decode cX1_readSetting 60 = .ok (.ireturn, 1) := dr9 dk9_dX1_readSetting_0_0.1 20 (60, .ireturn, 1) rfl
theorem dX1_readSetting_50 : decode cX1_readSetting 50 = .ok (.aload_n 0, 1) := dr9 dk9_dX1_readSetting_0_0.1 21 (50, .aload_n 0, 1) rfl
theorem dX1_readSetting_51 : decode cX1_readSetting 51 = .ok (.bipush 59, 2) := dr9 dk9_dX1_readSetting_0_0.1 22 (51, .bipush 59, 2) rfl
theorem dX1_readSetting_53 : decode cX1_readSetting 53 = .ok (.invokevirtual 88, 3) := dr9 dk9_dX1_readSetting_0_0.1 23 (53, .invokevirtual 88, 3) rfl
theorem dX1_readSetting_56 : decode cX1_readSetting 56 = .ok (.ifCond .ne 5, 3) := dr9 dk9_dX1_readSetting_0_0.2.1 0 (56, .ifCond .ne 5, 3) rfl
theorem dX1_readSetting_61 : decode cX1_readSetting 61 = .ok (.aload_n 0, 1) := dr9 dk9_dX1_readSetting_0_0.2.1 1 (61, .aload_n 0, 1) rfl
theorem dX1_readSetting_62 : decode cX1_readSetting 62 = .ok (.getfield 15, 3) := dr9 dk9_dX1_readSetting_0_0.2.1 2 (62, .getfield 15, 3) rfl
theorem dX1_readSetting_65 : decode cX1_readSetting 65 = .ok (.getfield 99, 3) := dr9 dk9_dX1_readSetting_0_0.2.1 3 (65, .getfield 99, 3) rfl
theorem dX1_readSetting_68 : decode cX1_readSetting 68 = .ok (.lload_n 1, 1) := dr9 dk9_dX1_readSetting_0_0.2.1 4 (68, .lload_n 1, 1) rfl
theorem dX1_readSetting_69 : decode cX1_readSetting 69 = .ok (.invokevirtual 91, 3) := dr9 dk9_dX1_readSetting_0_0.2.1 5 (69, .invokevirtual 91, 3) rfl
theorem dX1_readSetting_72 : decode cX1_readSetting 72 = .ok (.istore_n 3, 1) := dr9 dk9_dX1_readSetting_0_0.2.1 6 (72, .istore_n 3, 1) rfl
theorem dX1_readSetting_73 : decode cX1_readSetting 73 = .ok (.iload_n 3, 1) := dr9 dk9_dX1_readSetting_0_0.2.1 7 (73, .iload_n 3, 1) rfl
theorem dX1_readSetting_74 : decode cX1_readSetting 74 = .ok (.iconst (-1), 1) := dr9 dk9_dX1_readSetting_0_0.2.1 8 (74, .iconst (-1), 1) rfl
theorem dX1_readSetting_75 : decode cX1_readSetting 75 = .ok (.if_icmp .eq 16, 3) := dr9 dk9_dX1_readSetting_0_0.2.1 9 (75, .if_icmp .eq 16, 3) rfl
theorem dX1_readSetting_91 : decode cX1_readSetting 91 = .ok (.iconst 1, 1) := dr9 dk9_dX1_readSetting_0_0.2.1 10 (91, .iconst 1, 1) rfl
theorem dX1_readSetting_92 : decode cX1_readSetting 92 = .ok (.ireturn, 1) := dr9 dk9_dX1_readSetting_0_0.2.1 11 (92, .ireturn, 1) rfl
theorem dX1_readSetting_78 : decode cX1_readSetting 78 = .ok (.aload_n 0, 1) := dr9 dk9_dX1_readSetting_0_0.2.1 12 (78, .aload_n 0, 1) rfl
theorem dX1_readSetting_79 : decode cX1_readSetting 79 = .ok (.getfield 15, 3) := dr9 dk9_dX1_readSetting_0_0.2.1 13 (79, .getfield 15, 3) rfl
theorem dX1_readSetting_82 : decode cX1_readSetting 82 = .ok (.getfield 107, 3) := dr9 dk9_dX1_readSetting_0_0.2.1 14 (82, .getfield 107, 3) rfl
theorem dX1_readSetting_85 : decode cX1_readSetting 85 = .ok (.iload_n 3, 1) := dr9 dk9_dX1_readSetting_0_0.2.1 15 (85, .iload_n 3, 1) rfl
theorem dX1_readSetting_86 : decode cX1_readSetting 86 = .ok (.aload_n 0, 1) := dr9 dk9_dX1_readSetting_0_0.2.1 16 (86, .aload_n 0, 1) rfl
theorem dX1_readSetting_87 : decode cX1_readSetting 87 = .ok (.getfield 110, 3) := dr9 dk9_dX1_readSetting_0_0.2.1 17 (87, .getfield 110, 3) rfl
theorem dX1_readSetting_90 : decode cX1_readSetting 90 = .ok (.iastore, 1) := dr9 dk9_dX1_readSetting_0_0.2.1 18 (90, .iastore, 1) rfl
theorem dX1_readSetting_33 : decode cX1_readSetting 33 = .ok (.iconst 0, 1) := dr9 dk9_dX1_readSetting_0_0.2.1 19 (33, .iconst 0, 1) rfl
theorem dX1_readSetting_34 : decode cX1_readSetting 34 = .ok (.ireturn, 1) := dr9 dk9_dX1_readSetting_0_0.2.1 20 (34, .ireturn, 1) rfl
theorem dX1_readSetting_13 : decode cX1_readSetting 13 = .ok (.aload_n 0, 1) := dr9 dk9_dX1_readSetting_0_0.2.1 21 (13, .aload_n 0, 1) rfl
theorem dX1_readSetting_14 : decode cX1_readSetting 14 = .ok (.iconst 5, 1) := dr9 dk9_dX1_readSetting_0_0.2.1 22 (14, .iconst 5, 1) rfl
theorem dX1_readSetting_15 : decode cX1_readSetting 15 = .ok (.invokevirtual 47, 3) := dr9 dk9_dX1_readSetting_0_0.2.1 23 (15, .invokevirtual 47, 3) rfl
theorem dX1_readSetting_18 : decode cX1_readSetting 18 = .ok (.ireturn, 1) := dr9 dk9_dX1_readSetting_0_0.2.2 0 (18, .ireturn, 1) rfl
theorem dk9_dX1_readType_0_0 : dOk cX1_readType [(0, .aload_n 0, 1), (1, .getfield 15, 3), (4, .getfield 63, 3), (7, .invokevirtual 67, 3), (10, .ifCond .eq 9, 3), (19, .aload_n 0, 1), (20, .getfield 9, 3), (23, .invokevirtual 72, 3), (26, .aload_n 0, 1), (27, .invokevirtual 75, 3), (30, .ifCond .ne 5, 3), (35, .aload_n 0, 1), (36, .getfield 78, 3), (39, .lstore_n 1, 1), (40, .aload_n 0, 1), (41, .iconst 0, 1), (42, .putfield 82, 3), (45, .aload_n 0, 1), (46, .getfield 9, 3), (49, .getfield 37, 3), (52, .sipush 129, 3), (55, .if_icmp .ne 19, 3), (74, .aload_n 0, 1), (75, .bipush 59, 2)] = true ∧ dOk cX1_readType [(77, .invokevirtual 88, 3), (80, .ifCond .ne 5, 3), (85, .aload_n 0, 1), (86, .getfield 15, 3), (89, .getfield 63, 3), (92, .lload_n 1, 1), (93, .invokevirtual 91, 3), (96, .istore_n 3, 1), (97, .iload_n 3, 1), (98, .iconst (-1), 1), (99, .if_icmp .eq 20, 3), (119, .iconst 1, 1), (120, .ireturn, 1), (102, .aload_n 0, 1), (103, .getfield 15, 3), (106, .getfield 95, 3), (109, .iload_n 3, 1), (110, .aload_n 0, 1), (111, .getfield 82, 3), (114, .iconst 1, 1), (115, .iload_n 3, 1), (116, .ishl, 1), (117, .ior, 1), (118, .iastore, 1)] = true ∧ dOk cX1_readType [(83, .iconst 0, 1), (84, .ireturn, 1), (58, .aload_n 0, 1), (59, .getfield 9, 3), (62, .invokevirtual 72, 3), (65, .aload_n 0, 1), (66, .invokevirtual 85, 3), (69, .ifCond .ne 5, 3), (72, .iconst 0, 1), (73, .ireturn, 1), (33, .iconst 0, 1), (34, .ireturn, 1), (13, .aload_n 0, 1), (14, .iconst 5, 1), (15, .invokevirtual 47, 3), (18, .ireturn, 1)] = true := by decide +kernel
theorem dX1_readType_0 : decode cX1_readType 0 = .ok (.aload_n 0, 1) := dr9 dk9_dX1_readType_0_0.1 0 (0, .aload_n 0, 1) rfl
theorem dX1_readType_1 : decode cX1_readType 1 = .ok (.getfield 15, 3) := dr9 dk9_dX1_readType_0_0.1 1 (1, .getfield 15, 3) rfl
theorem dX1_readType_4 : decode cX1_readType 4 = .ok (.getfield 63, 3) := dr9 dk9_dX1_readType_0_0.1 2 (4, .getfield 63, 3) rfl
theorem dX1_readType_7 : decode cX1_readType 7 = .ok (.invokevirtual 67, 3) := dr9 dk9_dX1_readType_0_0.1 3 (7, .invokevirtual 67, 3) rfl
theorem dX1_readType_10 : decode cX1_readType 10 = .ok (.ifCond .eq 9, 3) := dr9 dk9_dX1_readType_0_0.1 4 (10, .ifCond .eq 9, 3) rfl
theorem dX1_readType_19 : decode cX1_readType 19 = .ok (.aload_n 0, 1) := dr9 dk9_dX1_readType_0_0.1 5 (19, .aload_n 0, 1) rfl
theorem dX1_readType_20 : decode cX1_readType 20 = .ok (.getfield 9, 3) := dr9 dk9_dX1_readType_0_0.1 6 (20, .getfield 9, 3) rfl
theorem dX1_readType_23 : decode cX1_readType 23 = .ok (.invokevirtual 72, 3) := dr9 dk9_dX1_readType_0_0.1 7 (23, .invokevirtual 72, 3) rfl
theorem dX1_readType_26 : decode cX1_readType 26 = .ok (.aload_n 0, 1) := dr9 dk9_dX1_readType_0_0.1 8 (26, .aload_n 0, 1) rfl
theorem dX1_readType_27 : decode cX1_readType 27 = .ok (.invokevirtual 75, 3) := dr9 dk9_dX1_readType_0_0.1 9 (27, .invokevirtual 75, 3) rfl
theorem dX1_readType_30 : decode cX1_readType 30 = .ok (.ifCond .ne 5, 3) := dr9 dk9_dX1_readType_0_0.1 10 (30, .ifCond .ne 5, 3) rfl
theorem dX1_readType_35 : decode cX1_readType 35 = .ok (.aload_n 0, 1) := dr9 dk9_dX1_readType_0_0.1 11 (35, .aload_n 0, 1) rfl
theorem dX1_readType_36 : decode cX1_readType 36 = .ok (.getfield 78, 3) := dr9 dk9_dX1_readType_0_0.1 12 (36, .getfield 78, 3) rfl
theorem dX1_readType_39 : decode cX1_readType 39 = .ok (.lstore_n 1, 1) := dr9 dk9_dX1_readType_0_0.1 13 (39, .lstore_n 1, 1) rfl
theorem dX1_readType_40 : decode cX1_readType 40 = .ok (.aload_n 0, 1) := dr9 dk9_dX1_readType_0_0.1 14 (40, .aload_n 0, 1) rfl
theorem dX1_readType_41 : decode cX1_readType 41 = .ok (.iconst 0, 1) := dr9 dk9_dX1_readType_0_0.1 15 (41, .iconst 0, 1) rfl
theorem dX1_readType_42 : decode cX1_readType 42 = .ok (.putfield 82, 3) := dr9 dk9_dX1_readType_0_0.1 16 (42, .putfield 82, 3) rfl
theorem dX1_readType_45 : decode cX1_readType 45 = .ok (.aload_n 0, 1) := dr9 dk9_dX1_readType_0_0.1 17 (45, .aload_n 0, 1) rfl
theorem dX1_readType_46 : decode cX1_readType 46 = .ok (.getfield 9, 3) := dr9 dk9_dX1_readType_0_0.1 18 (46, .getfield 9, 3) rfl
theorem dX1_readType_49 : decode cX1_readType 49 = .ok (.getfield 37, 3) := dr9 dk9_dX1_readType_0_0.1 19 (49, .getfield 37, 3) rfl
theorem dX1_readType_52 : decode cX1_readType 52 = .ok (.sipush 129, 3) := dr9 dk9_dX1_readType_0_0.1 20 (52, .sipush 129, 3) rfl
theorem dX1_readType_55 : decode cX1_readType 55 = .ok (.if_icmp .ne 19, 3) := dr9 dk9_dX1_readType_0_0.1 21 (55, .if_icmp .ne 19, 3) rfl
theorem dX1_readType_74 : decode cX1_readType 74 = .ok (.aload_n 0, 1) := dr9 dk9_dX1_readType_0_0.1 22 (74, .aload_n 0, 1) rfl
theorem dX1_readType_75 : decode cX1_readType 75 = .ok (.bipush 59, 2) := dr9 dk9_dX1_readType_0_0.1 23 (75, .bipush 59, 2) rfl
theorem dX1_readType_77 : decode cX1_readType 77 = .ok (.invokevirtual 88, 3) := dr9 dk9_dX1_readType_0_0.2.1 0 (77, .invokevirtual 88, 3) rfl
theorem dX1_readType_80 : decode cX1_readType 80 = .ok (.ifCond .ne 5, 3) := dr9 dk9_dX1_readType_0_0.2.1 1 (80, .ifCond .ne 5, 3) rfl
theorem dX1_readType_85 : decode cX1_readType 85 = .ok (.aload_n 0, 1) := dr9 dk9_dX1_readType_0_0.2.1 2 (85, .aload_n 0, 1) rfl
theorem dX1_readType_86 : decode cX1_readType 86 = .ok (.getfield 15, 3) := dr9 dk9_dX1_readType_0_0.2.1 3 (86, .getfield 15, 3) rfl
theorem dX1_readType_89 : decode cX1_readType 89 = .ok (.getfield 63, 3) := dr9 dk9_dX1_readType_0_0.2.1 4 (89, .getfield 63, 3) rfl
theorem dX1_readType_92 : decode cX1_readType 92 = .ok (.lload_n 1, 1) := dr9 dk9_dX1_readType_0_0.2.1 5 (92, .lload_n 1, 1) rfl
theorem dX1_readType_93 : decode cX1_readType 93 = .ok (.invokevirtual 91, 3) := dr9 dk9_dX1_readType_0_0.2.1 6 (93, .invokevirtual 91, 3) rfl
theorem dX1_readType_96 : decode cX1_readType 96 = .ok (.istore_n 3, 1) := dr9 dk9_dX1_readType_0_0.2.1 7 (96, .istore_n 3, 1) rfl
theorem dX1_readType_97 : decode cX1_readType 97 = .ok (.iload_n 3, 1) := dr9 dk9_dX1_readType_0_0.2.1 8 (97, .iload_n 3, 1) rfl
theorem dX1_readType_98 : decode cX1_readType 98 = .ok (.iconst (-1), 1) := dr9 dk9_dX1_readType_0_0.2.1 9 (98, .iconst (-1), 1) rfl
theorem dX1_readType_99 : decode cX1_readType 99 = .ok (.if_icmp .eq 20, 3) := dr9 dk9_dX1_readType_0_0.2.1 10 (99, .if_icmp .eq 20, 3) rfl
theorem dX1_readType_119 : decode cX1_readType 119 = .ok (.iconst 1, 1) := dr9 dk9_dX1_readType_0_0.2.1 11 (119, .iconst 1, 1) rfl
theorem dX1_readType_120 : decode cX1_readType 120 = .ok (.ireturn, 1) := dr9 dk9_dX1_readType_0_0.2.1 12 (120, .ireturn, 1) rfl
theorem dX1_readType_102 : decode cX1_readType 102 = .ok (.aload_n 0, 1) := dr9 dk9_dX1_readType_0_0.2.1 13 (102, .aload_n 0, 1) rfl
theorem dX1_readType_103 : decode cX1_readType 103 = .ok (.getfield 15, 3) := dr9 dk9_dX1_readType_0_0.2.1 14 (103, .getfield 15, 3) rfl
theorem dX1_readType_106 : decode cX1_readType 106 = .ok (.getfield 95, 3) := dr9 dk9_dX1_readType_0_0.2.1 15 (106, .getfield 95, 3) rfl
theorem dX1_readType_109 : decode cX1_readType 109 = .ok (.iload_n 3, 1) := dr9 dk9_dX1_readType_0_0.2.1 16 (109, .iload_n 3, 1) rfl
theorem dX1_readType_110 : decode cX1_readType 110 = .ok (.aload_n 0, 1) := dr9 dk9_dX1_readType_0_0.2.1 17 (110, .aload_n 0, 1) rfl
theorem dX1_readType_111 : decode cX1_readType 111 = .ok (.getfield 82, 3) := dr9 dk9_dX1_readType_0_0.2.1 18 (111, .getfield 82, 3) rfl
theorem dX1_readType_114 : decode cX1_readType 114 = .ok (.iconst 1, 1) := dr9 dk9_dX1_readType_0_0.2.1 19 (114, .iconst 1, 1) rfl
theorem dX1_readType_115 : decode cX1_readType 115 = .ok (.iload_n 3, 1) := dr9 dk9_dX1_readType_0_0.2.1 20 (115, .iload_n 3, 1) rfl
theorem dX1_readType_116 : decode cX1_readType 116 = .ok (.ishl, 1) := dr9 dk9_dX1_readType_0_0.2.1 21 (116, .ishl, 1) rfl
theorem dX1_readType_117 : decode cX1_readType 117 = .ok (.ior, 1) := dr9 dk9_dX1_readType_0_0.2.1 22 (117, .ior, 1) rfl
theorem dX1_readType_118 : decode cX1_readType 118 = .ok (.iastore, 1) := dr9 dk9_dX1_readType_0_0.2.1 23 (118, .iastore, 1) rfl
theorem dX1_readType_83 : decode cX1_readType 83 = .ok (.iconst 0, 1) := dr9 dk9_dX1_readType_0_0.2.2 0 (83, .iconst 0, 1) rfl
theorem dX1_readType_84 : decode cX1_readType 84 = .ok (.ireturn, 1) := dr9 dk9_dX1_readType_0_0.2.2 1 (84, .ireturn, 1) rfl
theorem dX1_readType_58 : decode cX1_readType 58 = .ok (.aload_n 0, 1) := dr9 dk9_dX1_readType_0_0.2.2 2 (58, .aload_n 0, 1) rfl
theorem dX1_readType_59 : decode cX1_readType 59 = .ok (.getfield 9, 3) := dr9 dk9_dX1_readType_0_0.2.2 3 (59, .getfield 9, 3) rfl
theorem dX1_readType_62 : decode cX1_readType 62 = .ok (.invokevirtual 72, 3) := dr9 dk9_dX1_readType_0_0.2.2 4 (62, .invokevirtual 72, 3) rfl
theorem dX1_readType_65 : decode cX1_readType 65 = .ok (.aload_n 0, 1) := dr9 dk9_dX1_readType_0_0.2.2 5 (65, .aload_n 0, 1) rfl
theorem dX1_readType_66 : decode cX1_readType 66 = .ok (.invokevirtual 85, 3) := dr9 dk9_dX1_readType_0_0.2.2 6 (66, .invokevirtual 85, 3) rfl
theorem dX1_readType_69 : decode cX1_readType 69 = .ok (.ifCond .ne 5, 3) := dr9 dk9_dX1_readType_0_0.2.2 7 (69, .ifCond .ne 5, 3) rfl
theorem dX1_readType_72 : decode cX1_readType 72 = .ok (.iconst 0, 1) := dr9 dk9_dX1_readType_0_0.2.2 8 (72, .iconst 0, 1) rfl
theorem dX1_readType_73 : decode cX1_readType 73 = .ok (.ireturn, 1) := dr9 dk9_dX1_readType_0_0.2.2 9 (73, .ireturn, 1) rfl
theorem dX1_readType_33 : decode cX1_readType 33 = .ok (.iconst 0, 1) := dr9 dk9_dX1_readType_0_0.2.2 10 (33, .iconst 0, 1) rfl
theorem dX1_readType_34 : decode cX1_readType 34 = .ok (.ireturn, 1) := dr9 dk9_dX1_readType_0_0.2.2 11 (34, .ireturn, 1) rfl
theorem dX1_readType_13 : decode cX1_readType 13 = .ok (.aload_n 0, 1) := dr9 dk9_dX1_readType_0_0.2.2 12 (13, .aload_n 0, 1) rfl
theorem dX1_readType_14 : decode cX1_readType 14 = .ok (.iconst 5, 1) := dr9 dk9_dX1_readType_0_0.2.2 13 (14, .iconst 5, 1) rfl
theorem dX1_readType_15 : decode cX1_readType 15 = .ok (.invokevirtual 47, 3) := dr9 dk9_dX1_readType_0_0.2.2 14 (15, .invokevirtual 47, 3) rfl
theorem dX1_readType_18 : decode cX1_readType 18 = .ok (.ireturn, 1) := dr9 dk9_dX1_readType_0_0.2.2 15 (18, .ireturn, 1) rfl
abbrev r_x_readExpression8 : Room := { frames := 89, cells := 0, slots := 0, locals := 2640 }
abbrev q_x_readExpression8 (D : va_G) (ks : KS) (ad : Nat → Nat) (kk : Nat → ClassId) (V : Vf) (L : Lf) (Z : XZ) (p0 : Int32) (b : Nat) (A : Nat → Prop) : Array Value → State → Outcome → State → Prop := q_x_readExpression D ks ad kk V L Z p0 b A
theorem x_readExpression8 (l : Launch) (D : va_G) (ks : KS) (sz : Nat) (ad : Nat → Nat) (kk : Nat → ClassId) (V : Vf) (L : Lf) (Z : XZ) (p0 : Int32) (b : Nat) (hMV : rgd bX V) (rg_p0 : 0 ≤ p0.toInt ∧ p0.toInt ≤ 0) (hb2 : b < 2) (rbk : (V 1 1).toInt = (b : Int)) (cd : CD V b) : Met l yX1_readExpression (Cond.code yX1_readExpression cX1_readExpression 3 (some .boolean) :: GW) r_x_readExpression8 (va_Pc [.ref (ad 1), .int p0] (gp D ks (xw ad kk V L Z) (xty kk Z) sz)) (q_x_readExpression8 D ks ad kk V L Z p0 b (va_A (xw ad kk V L Z) sz)) 0 0 (va_A (xw ad kk V L Z) sz) :=
  K_xexpr 8 sz ad kk V L Z p0 b hMV (by omega) hb2 rbk cd (by omega)

abbrev r_x_readE : Room := { frames := 90, cells := 0, slots := 0, locals := 2662 }
abbrev q_x_readE (D : va_G) (ks : KS) (ad : Nat → Nat) (kk : Nat → ClassId) (V : Vf) (L : Lf) (Z : XZ) (p0 : Int32) (b : Nat) (A : Nat → Prop) : Array Value → State → Outcome → State → Prop := va_Qi (fun (r : Int32) (u : Vf × Lf) => rgd bX u.1 ∧ agr [(1, 3), (1, 4), (1, 6), (1, 8), (6, 8), (6, 9), (6, 10)] [42, 43, 44, 48] V u.1 ∧ agL [6, 44] L u.2 ∧ frX (xR b) V u.1 ∧ (0 ≤ r.toInt ∧ r.toInt ≤ 1) ∧ (TX u.1 b) ∧ (CD u.1 b) ∧ (px V u.1 b) ∧ (Imp (r.toInt = 0) (1 ≤ (u.1 1 3).toInt))) (fun u t => gq D A (xw ad kk u.1 u.2 Z) (xty kk Z) t) A
set_option maxHeartbeats 4000000 in
set_option maxRecDepth 100000 in
theorem x_readE (l : Launch) (D : va_G) (ks : KS) (sz : Nat) (ad : Nat → Nat) (kk : Nat → ClassId) (V : Vf) (L : Lf) (Z : XZ) (p0 : Int32) (b : Nat) (hMV : rgd bX V) (rg_p0 : 0 ≤ p0.toInt ∧ p0.toInt ≤ 2) (hb2 : b < 2) (rbk : (V 1 1).toInt = (b : Int)) (cd : CD V b) (tx : TX V b)  : Met l yX1_readE (Cond.code yX1_readE cX1_readE 2 (some .boolean) :: GW) r_x_readE (va_Pc [.ref (ad 1), .int p0] (gp D ks (xw ad kk V L Z) (xty kk Z) sz)) (q_x_readE D ks ad kk V L Z p0 b (va_A (xw ad kk V L Z) sz)) 0 0 (va_A (xw ad kk V L Z) sz) := by
  refine g_met (q_x_readE D ks ad kk V L Z p0 b) (by decide) (Nat.le_of_ble_eq_true rfl) ?_
  intro p e s m below meth c A ls H locs hx hb hr hml hown hg hlocks hin hnw hgk hP hK hD hS hA hl
  have hown : s.vm.findClass RX1 = some m.cls := hown
  have hl : lv_has ls 2 [(0, .ref (ad 1)), (1, .int p0)] := hl
  have hP : va_P D vwCl (xw ad kk V L Z) H := hP
  have hD : va_D A (xw ad kk V L Z) := hD
  have hK : va_K D vwCl (xty kk Z) s := hK
  have agV : agr [(1, 3), (1, 4), (1, 6), (1, 8), (6, 8), (6, 9), (6, 10)] [42, 43, 44, 48] V V := agr.rf
  have alL : agL [6, 44] L L := agL.rf
  have fwV : frX (xR b) V V := frX.rf
  have r1 : (-1) ≤ ((V 1 1)).toInt ∧ ((V 1 1)).toInt ≤ 1 := hMV 1 1
  refine lv_aload_n hx hb dX1_readE_0 rfl (lv_at hl 0 rfl) ?_
  refine lv_iload_n hx hb dX1_readE_1 rfl (lv_at hl 1 rfl) ?_
  refine va_put (D := D) (ci := 1) (v := .int p0) (ty := tyX1 4) (fs := (xfReader ad V L Z)) (C := RX1) (T := TX1) (N := 9) hx hb hg inX1 tyX1 tyX1_ok nmX1 hown hK hP hD hS 1 xgReader rfl 4 (by decide) (hg _ w308) (fun _ h9 => h9) rfl (tyX1_ok 4 (by decide)) rfl rfl (Nat.le_of_ble_eq_true rfl) dX1_readE_2 (fun H locs hP hD hS => ?_)
  obtain ⟨V2, hV2⟩ : ∃ z, z = up2 V 1 4 p0 := ⟨_, rfl⟩
  have ew3 : (xw ad kk V L Z).set 1 ((ad 1), .inr (1, (xfReader ad V L Z).set 4 (.int p0))) = xw ad kk V2 L Z := by rw [hV2]; exact xw_ss (by decide) rfl (xb_si (by decide))
  have hP : va_P D vwCl (xw ad kk V2 L Z) H := by rw [← ew3]; exact hP
  have hD : va_D A (xw ad kk V2 L Z) := by rw [← ew3]; exact hD
  have hMV2 : rgd bX V2 := hMV.put hV2 (show 0 ≤ p0.toInt ∧ p0.toInt ≤ 2 from by first | exact om_8c285ac91b81 rg_p0.1 rg_p0.2 | first | omega | ((try (have i_tx := Imp.go tx (by omega))); (try (have i_cd := Imp.go cd (by omega))); (try (have i_cd := Imp.go cd (by omega))); (try (have i_tx := Imp.go tx (by omega))); omega))
  have agV2 : agr [(1, 3), (1, 4), (1, 6), (1, 8), (6, 8), (6, 9), (6, 10)] [42, 43, 44, 48] V V2 := agV.up hV2 rfl
  have fwV2 : frX (xR b) V V2 := frX.up fwV hV2 (Or.inl (by decide))
  refine lv_aload_n hx hb dX1_readE_5 rfl (lv_at hl 0 rfl) ?_
  refine lv_iconst (v := 0) hx hb dX1_readE_6 (by decide) ?_
  have r4 : Int32.toInt 0 = 0 := by decide
  have pq5 : (V2 1 1).toInt = ((V 1 1)).toInt := congrArg Int32.toInt (up2_k hV2 (by decide))
  have cd6 : CD V2 b := ⟨CB.ag cd.1 (show agr [(1, 4)] [] V V2 from (agr.up agr.rf hV2 rfl)) (fun _ => rfl) (fun _ => rfl), CO.ag cd.2 (show agr [(1, 4)] [] V V2 from (agr.up agr.rf hV2 rfl)) (fun _ => rfl) (fun _ => rfl)⟩
  refine gA_int (gA_runV (As := [.int 0]) (rest := []) (ci := 1) (q0 := 1) hx hb hml hown hg hP hD hK hS hA hnw hgk (x_readExpression8 l D ks H.size ad kk V2 L Z 0 (b) hMV2 (by decide) (show b < 2 from by first | exact om_f940a4667dd6 hb2 | first | omega | ((try (have i_tx := Imp.go tx (by omega))); (try (have i_cd := Imp.go cd (by omega))); (try (have i_cd := Imp.go cd (by omega))); (try (have i_tx := Imp.go tx (by omega))); omega)) (show (V2 1 1).toInt = (b : Int) from by first | exact om_adf531c77a0d rbk pq5 | first | omega | ((try (have i_tx := Imp.go tx (by omega))); (try (have i_cd := Imp.go cd (by omega))); (try (have i_cd := Imp.go cd (by omega))); (try (have i_tx := Imp.go tx (by omega))); omega)) cd6) w951 w953 w21 w162 w954 rfl xgReader hdV_yX1_readExpression ⟨Nat.le_of_ble_eq_true rfl, Nat.le_of_ble_eq_true rfl⟩ rfl hl.1 rfl (Nat.le_of_ble_eq_true rfl) dX1_readE_7 ⟨Nat.le_of_ble_eq_true rfl, Nat.le_of_ble_eq_true rfl⟩) hP hD hK hS hA (fun z7 u8 H locs w9 hP hD hK hS => ?_)
  obtain ⟨V13, L14⟩ := u8
  obtain ⟨hMV13, ajV13, axL14, fyV13, rgz7, t10, t11, t12⟩ := w9
  have alL14 : agL [6, 44] L L14 := agL.tr alL axL14 (by decide)
  have hP : va_P D vwCl (xw ad kk V13 L14 Z) H := hP
  have hD : va_D A (xw ad kk V13 L14 Z) := hD
  have hMV13 : rgd bX V13 := hMV13
  have ajV13 : agr [(1, 3), (1, 6), (1, 8), (6, 8), (6, 9), (6, 10)] [42, 43, 44, 48] V2 V13 := ajV13
  have agV13 : agr [(1, 3), (1, 4), (1, 6), (1, 8), (6, 8), (6, 9), (6, 10)] [42, 43, 44, 48] V V13 := agV2.tr ajV13 (by decide) (by decide)
  have fwV13 : frX (xR b) V V13 := frX.tr fwV2 (fyV13)
  have rgz7 : 0 ≤ z7.toInt ∧ z7.toInt ≤ 1 := rgz7
  have t10 : CD V13 b := t10
  have t11 : px V2 V13 b := t11
  have t12 : Imp (z7.toInt = 0) (1 ≤ (V13 1 3).toInt) := t12
  refine lv_if_ne (tgt := 15) hx hb dX1_readE_10 (by decide) (fun c15 => ?_) (fun c15 => ?_)
  · skip
    have f16 : z7.toInt ≠ 0 := b_neq rfl (by decide) c15
    refine lv_aload_n hx hb dX1_readE_15 rfl (lv_at hl 0 rfl) ?_
    refine va_get (D := D) (ci := 1) (v := rfN ad 38 (V13 1 1)) (fs := (xfReader ad V13 L14 Z)) (C := RX1) (T := TX1) (N := 9) hx hb hg inX1 hown hK hP 1 xgReader rfl 1 (by decide) (hg _ w305) (fun _ h9 => h9) rfl dX1_readE_16 ?_
    have pq17 : (V13 1 1).toInt = ((V 1 1)).toInt := congrArg Int32.toInt ((ajV13 1 1 rfl).trans (up2_k hV2 (by decide)))
    refine g_topv (v := .ref (ad (38 + b))) (rfN_r (by first | omega | ((try (have i_t12 := Imp.go t12 (by omega))); (try (have i_tx := Imp.go tx (by omega))); (try (have i_cd := Imp.go cd (by omega))); (try (have i_cd := Imp.go cd (by omega))); (try (have i_tx := Imp.go tx (by omega))); (try (have i_t12 := Imp.go t12 (by omega))); omega))) ?_
    refine lv_iconst (v := 0) hx hb dX1_readE_19 (by decide) ?_
    refine gA_void (gA_runV (As := [.int 0]) (rest := []) (ci := 0) (q0 := (38 + b)) hx hb hml hown hg hP hD hK hS hA hnw hgk (x_emit l D ks H.size ad kk V13 L14 Z 0 (b) hMV13 (show b < 2 from by first | exact om_f940a4667dd6 hb2 | first | omega | ((try (have i_t12 := Imp.go t12 (by omega))); (try (have i_tx := Imp.go tx (by omega))); (try (have i_cd := Imp.go cd (by omega))); (try (have i_cd := Imp.go cd (by omega))); (try (have i_tx := Imp.go tx (by omega))); (try (have i_t12 := Imp.go t12 (by omega))); omega))) w971 w972 w973 w167 w974 rfl (xgBook hb2) hdV_yX0_emit ⟨Nat.le_of_ble_eq_true rfl, Nat.le_of_ble_eq_true rfl⟩ rfl hl.1 rfl (Nat.le_of_ble_eq_true rfl) dX1_readE_20 ⟨Nat.le_of_ble_eq_true rfl, Nat.le_of_ble_eq_true rfl⟩) hP hD hK hS hA (fun u19 H locs w20 hP hD hK hS => ?_)
    obtain ⟨V22, L23⟩ := u19
    obtain ⟨hMV22, ajV22, axL23, fyV22, t21⟩ := w20
    have axL23 : L14 = L23 := Eq.symm axL23
    subst axL23
    have hP : va_P D vwCl (xw ad kk V22 L14 Z) H := hP
    have hD : va_D A (xw ad kk V22 L14 Z) := hD
    have hMV22 : rgd bX V22 := hMV22
    have ajV22 : agr [] [42, 48] V13 V22 := ajV22
    have agV22 : agr [(1, 3), (1, 4), (1, 6), (1, 8), (6, 8), (6, 9), (6, 10)] [42, 43, 44, 48] V V22 := agV13.tr ajV22 (by decide) (by decide)
    have fwV22 : frX (xR b) V V22 := frX.tr fwV13 (fyV22)
    have t21 : emX V13 V22 b 0 := t21
    refine lv_aload_n hx hb dX1_readE_23 rfl (lv_at hl 0 rfl) ?_
    refine lv_bipush (v := 59) hx hb dX1_readE_24 (by decide) ?_
    have r24 : Int32.toInt 59 = 59 := by decide
    refine gA_int (gA_runV (As := [.int 59]) (rest := []) (ci := 1) (q0 := 1) hx hb hml hown hg hP hD hK hS hA hnw hgk (x_take l D ks H.size ad kk V22 L14 Z 59 hMV22 ) w893 w895 w10 w162 w896 rfl xgReader hdV_yX1_take ⟨Nat.le_of_ble_eq_true rfl, Nat.le_of_ble_eq_true rfl⟩ rfl hl.1 rfl (Nat.le_of_ble_eq_true rfl) dX1_readE_26 ⟨Nat.le_of_ble_eq_true rfl, Nat.le_of_ble_eq_true rfl⟩) hP hD hK hS hA (fun z25 u26 H locs w27 hP hD hK hS => ?_)
    obtain ⟨V29, L30⟩ := u26
    obtain ⟨hMV29, ajV29, axL30, rgz25, t28⟩ := w27
    have alL30 : agL [6, 44] L L30 := agL.tr alL14 axL30 (by decide)
    have hP : va_P D vwCl (xw ad kk V29 L30 Z) H := hP
    have hD : va_D A (xw ad kk V29 L30 Z) := hD
    have hMV29 : rgd bX V29 := hMV29
    have ajV29 : agr [(1, 3), (6, 8), (6, 9), (6, 10)] [] V22 V29 := ajV29
    have agV29 : agr [(1, 3), (1, 4), (1, 6), (1, 8), (6, 8), (6, 9), (6, 10)] [42, 43, 44, 48] V V29 := agV22.tr ajV29 (by decide) (by decide)
    have fwV29 : frX (xR b) V V29 := frX.tr fwV22 (frX.ag ajV29 (by decide) (by decide))
    have rgz25 : 0 ≤ z25.toInt ∧ z25.toInt ≤ 1 := rgz25
    have t28 : Imp (z25.toInt = 0) (1 ≤ (V29 1 3).toInt) := t28
    have px31 : px V V2 b := px.tr (px.rf : px V V b) (px.ag (show agr [(1, 4)] [] V V2 from (agr.up agr.rf hV2 rfl)) (fun _ => rfl) (fun _ => rfl) (fun _ => rfl))
    have px32 : px V V13 b := px.tr px31 t11
    have px33 : px V V22 b := px.tr px32 ⟨emX.p0x t21, ajV22 43 _ rfl⟩
    have px34 : px V V29 b := px.tr px33 (px.ag (show agr [(1, 3), (6, 8), (6, 9), (6, 10)] [] V22 V29 from (agr.tr agr.rf ajV29 (by decide) (by decide))) (fun _ => rfl) (fun _ => rfl) (fun _ => rfl))
    have tx35 : TX V29 b := TX.ag tx (show agr [(1, 3), (1, 4), (1, 6), (1, 8), (6, 8), (6, 9), (6, 10)] [42, 43, 44, 48] V V29 from (agr.tr (agr.tr (agr.tr (agr.up agr.rf hV2 rfl) ajV13 (by decide) (by decide)) ajV22 (by decide) (by decide)) ajV29 (by decide) (by decide))) px34 (fun _ => rfl) (fun _ => rfl) (fun _ => rfl) (fun _ => rfl) (fun _ => rfl) (fun _ => rfl)
    have cl36 : 0 ≤ (V13 42 b).toInt ∧ (V13 42 b).toInt ≤ 8200 := hMV13 42 b
    have cd37 : CD V22 b := ⟨CB.e1 t10.1 t21 (by omega) (by decide), CO.e1 t10.2 t21 (by decide) (by omega)⟩
    have cd38 : CD V29 b := ⟨CB.ag cd37.1 (show agr [(1, 3), (6, 8), (6, 9), (6, 10)] [] V22 V29 from (agr.tr agr.rf ajV29 (by decide) (by decide))) (fun _ => rfl) (fun _ => rfl), CO.ag cd37.2 (show agr [(1, 3), (6, 8), (6, 9), (6, 10)] [] V22 V29 from (agr.tr agr.rf ajV29 (by decide) (by decide))) (fun _ => rfl) (fun _ => rfl)⟩
    have px39 : px V V2 b := px.tr (px.rf : px V V b) (px.ag (show agr [(1, 4)] [] V V2 from (agr.up agr.rf hV2 rfl)) (fun _ => rfl) (fun _ => rfl) (fun _ => rfl))
    have px40 : px V V13 b := px.tr px39 t11
    have px41 : px V V22 b := px.tr px40 ⟨emX.p0x t21, ajV22 43 _ rfl⟩
    have px42 : px V V29 b := px.tr px41 (px.ag (show agr [(1, 3), (6, 8), (6, 9), (6, 10)] [] V22 V29 from (agr.tr agr.rf ajV29 (by decide) (by decide))) (fun _ => rfl) (fun _ => rfl) (fun _ => rfl))
    exact W.zret (v := z25) hx hb hr (nb_ok (by omega)) (fun t ht hW => ⟨⟨z25, (V29, L30), rfl, ⟨hMV29, agV29, alL30, fwV29, (show 0 ≤ z25.toInt ∧ z25.toInt ≤ 1 from by first | exact om_eb7af9d60398 rgz25.1 rgz25.2 | first | omega | ((try (have i_t28 := Imp.go t28 (by omega))); (try (have i_t12 := Imp.go t12 (by omega))); (try (have i_tx := Imp.go tx (by omega))); (try (have i_cd := Imp.go cd (by omega))); first | omega | ((try (have i_cd := Imp.go cd (by omega))); (try (have i_tx := Imp.go tx (by omega))); (try (have i_t12 := Imp.go t12 (by omega))); (try (have i_t28 := Imp.go t28 (by omega))); omega))), tx35, cd38, px42, (Imp.mk (fun hp => have hp : z25.toInt = 0 := hp; (show 1 ≤ (V29 1 3).toInt from by first | exact om_f8d8213eda45 ((Imp.go t28 (hp))) | first | omega | ((try (have i_t28 := Imp.go t28 (hp))); omega) | ((try (have i_t28 := Imp.go t28 (by omega))); (try (have i_t12 := Imp.go t12 (by omega))); (try (have i_tx := Imp.go tx (by omega))); (try (have i_cd := Imp.go cd (by omega))); first | omega | ((try (have i_cd := Imp.go cd (by omega))); (try (have i_tx := Imp.go tx (by omega))); (try (have i_t12 := Imp.go t12 (by omega))); (try (have i_t28 := Imp.go t28 (by omega))); omega)))))⟩, by rw [ht]; exact hP, va_K.moved hW.alike hK, hD⟩, hS.F ht⟩) hS.2.2 dX1_readE_29
  · skip
    have f43 : z7.toInt = 0 := b_eq rfl (by decide) c15
    refine lv_iconst (v := 0) hx hb dX1_readE_13 (by decide) ?_
    have px44 : px V V2 b := px.tr (px.rf : px V V b) (px.ag (show agr [(1, 4)] [] V V2 from (agr.up agr.rf hV2 rfl)) (fun _ => rfl) (fun _ => rfl) (fun _ => rfl))
    have px45 : px V V13 b := px.tr px44 t11
    have tx46 : TX V13 b := TX.ag tx (show agr [(1, 3), (1, 4), (1, 6), (1, 8), (6, 8), (6, 9), (6, 10)] [42, 43, 44, 48] V V13 from (agr.tr (agr.up agr.rf hV2 rfl) ajV13 (by decide) (by decide))) px45 (fun _ => rfl) (fun _ => rfl) (fun _ => rfl) (fun _ => rfl) (fun _ => rfl) (fun _ => rfl)
    have px47 : px V V2 b := px.tr (px.rf : px V V b) (px.ag (show agr [(1, 4)] [] V V2 from (agr.up agr.rf hV2 rfl)) (fun _ => rfl) (fun _ => rfl) (fun _ => rfl))
    have px48 : px V V13 b := px.tr px47 t11
    exact W.zret (v := 0) hx hb hr rfl (fun t ht hW => ⟨⟨0, (V13, L14), rfl, ⟨hMV13, agV13, alL14, fwV13, (by decide), tx46, t10, px48, (Imp.mk (fun _ => (show 1 ≤ (V13 1 3).toInt from by first | exact om_f8d8213eda45 ((Imp.go t12 (f43))) | first | omega | ((try (have i_t12 := Imp.go t12 (by omega))); (try (have i_tx := Imp.go tx (by omega))); (try (have i_cd := Imp.go cd (by omega))); (try (have i_cd := Imp.go cd (by omega))); (try (have i_tx := Imp.go tx (by omega))); (try (have i_t12 := Imp.go t12 (by omega))); omega))))⟩, by rw [ht]; exact hP, va_K.moved hW.alike hK, hD⟩, hS.F ht⟩) hS.2.2 dX1_readE_14
abbrev r_x_readMethod : Room := { frames := 91, cells := 0, slots := 0, locals := 2683 }
abbrev q_x_readMethod (D : va_G) (ks : KS) (ad : Nat → Nat) (kk : Nat → ClassId) (V : Vf) (L : Lf) (Z : XZ) (b : Nat) (go : Nat) (A : Nat → Prop) : Array Value → State → Outcome → State → Prop := va_Qi (fun (r : Int32) (u : Vf × Lf) => rgd bX u.1 ∧ agr [(1, 3), (1, 4), (1, 6), (1, 8), (6, 8), (6, 9), (6, 10)] [42, 43, 44, 48, 61] V u.1 ∧ agL [6, 44] L u.2 ∧ frX (xR b) V u.1 ∧ (0 ≤ r.toInt ∧ r.toInt ≤ 1) ∧ (TX u.1 b) ∧ (CD u.1 b) ∧ (px V u.1 b) ∧ (Imp (r.toInt = 0) (1 ≤ (u.1 1 3).toInt))) (fun u t => gq D A (xw ad kk u.1 u.2 Z) (xty kk Z) t) A
set_option maxHeartbeats 4000000 in
set_option maxRecDepth 100000 in
theorem x_readMethod (l : Launch) (D : va_G) (ks : KS) (sz : Nat) (ad : Nat → Nat) (kk : Nat → ClassId) (V : Vf) (L : Lf) (Z : XZ) (b : Nat) (go : Nat) (hMV : rgd bX V) (hb2 : b < 2) (rbk : (V 1 1).toInt = (b : Int)) (own : (V 1 2).toInt = (go : Int)) (hgo : go < 48) (hgl : 24 * b ≤ go) (hgh : go < 24 * b + 24) (cd : CD V b) (tx : TX V b)  : Met l yX1_readMethod (Cond.code yX1_readMethod cX1_readMethod 2 (some .boolean) :: GW) r_x_readMethod (va_Pc [.ref (ad 1)] (gp D ks (xw ad kk V L Z) (xty kk Z) sz)) (q_x_readMethod D ks ad kk V L Z  b go (va_A (xw ad kk V L Z) sz)) 0 0 (va_A (xw ad kk V L Z) sz) := by
  refine g_met (q_x_readMethod D ks ad kk V L Z  b go) (by decide) (Nat.le_of_ble_eq_true rfl) ?_
  intro p e s m below meth c A ls H locs hx hb hr hml hown hg hlocks hin hnw hgk hP hK hD hS hA hl
  have hown : s.vm.findClass RX1 = some m.cls := hown
  have hl : lv_has ls 2 [(0, .ref (ad 1))] := hl
  have hP : va_P D vwCl (xw ad kk V L Z) H := hP
  have hD : va_D A (xw ad kk V L Z) := hD
  have hK : va_K D vwCl (xty kk Z) s := hK
  have agV : agr [(1, 3), (1, 4), (1, 6), (1, 8), (6, 8), (6, 9), (6, 10)] [42, 43, 44, 48, 61] V V := agr.rf
  have alL : agL [6, 44] L L := agL.rf
  have fwV : frX (xR b) V V := frX.rf
  have r1 : (-1) ≤ ((V 1 1)).toInt ∧ ((V 1 1)).toInt ≤ 1 := hMV 1 1
  have r2 : (-1) ≤ ((V 1 2)).toInt ∧ ((V 1 2)).toInt ≤ 47 := hMV 1 2
  refine lv_aload_n hx hb dX1_readMethod_0 rfl (lv_at hl 0 rfl) ?_
  refine va_get (D := D) (ci := 1) (v := rfN ad 38 (V 1 1)) (fs := (xfReader ad V L Z)) (C := RX1) (T := TX1) (N := 9) hx hb hg inX1 hown hK hP 1 xgReader rfl 1 (by decide) (hg _ w305) (fun _ h9 => h9) rfl dX1_readMethod_1 ?_
  refine g_topv (v := .ref (ad (38 + b))) (rfN_r (by first | omega | ((try (have i_tx := Imp.go tx (by omega))); (try (have i_cd := Imp.go cd (by omega))); (try (have i_cd := Imp.go cd (by omega))); (try (have i_tx := Imp.go tx (by omega))); omega))) ?_
  refine va_getN (D := D) (ci := 0) (v := .int (V 42 b)) (fs := (xfBook ad V b)) (C := RX0) (T := TX0) (N := 13) hx hb hg inX0 hown hK hP (38 + b) (xgBook hb2) rfl 12 (by decide) (hnw.use 630 n630 rfl) (fun _ h9 => h9) rfl dX1_readMethod_4 ?_
  have r3 : 0 ≤ ((V 42 b)).toInt ∧ ((V 42 b)).toInt ≤ 8200 := hMV 42 b
  refine lv_istore_n (lv' := [(1, .int (V 42 b)), (0, .ref (ad 1))]) hx hb dX1_readMethod_7 rfl hl (by decide) rfl (fun ls hl => ?_)
  refine lv_aload_n hx hb dX1_readMethod_8 rfl (lv_at hl 1 rfl) ?_
  refine va_get (D := D) (ci := 1) (v := .ref (ad 6)) (fs := (xfReader ad V L Z)) (C := RX1) (T := TX1) (N := 9) hx hb hg inX1 hown hK hP 1 xgReader rfl 0 (by decide) (hg _ w304) (fun _ h9 => h9) rfl dX1_readMethod_9 ?_
  refine gA_void (gA_runV (As := []) (rest := []) (ci := 9) (q0 := 6) hx hb hml hown hg hP hD hK hS hA hnw hgk (x_next l D ks H.size ad kk V L Z  hMV ) w871 w852 w853 w157 w854 rfl xgTape hdV_yX9_next ⟨Nat.le_of_ble_eq_true rfl, Nat.le_of_ble_eq_true rfl⟩ rfl hl.1 rfl (Nat.le_of_ble_eq_true rfl) dX1_readMethod_12 ⟨Nat.le_of_ble_eq_true rfl, Nat.le_of_ble_eq_true rfl⟩) hP hD hK hS hA (fun u5 H locs w6 hP hD hK hS => ?_)
  obtain ⟨V7, L8⟩ := u5
  obtain ⟨hMV7, ajV7, axL8⟩ := w6
  have alL8 : agL [6, 44] L L8 := agL.tr alL axL8 (by decide)
  have hP : va_P D vwCl (xw ad kk V7 L8 Z) H := hP
  have hD : va_D A (xw ad kk V7 L8 Z) := hD
  have hMV7 : rgd bX V7 := hMV7
  have ajV7 : agr [(6, 8), (6, 9), (6, 10)] [] V V7 := ajV7
  have agV7 : agr [(1, 3), (1, 4), (1, 6), (1, 8), (6, 8), (6, 9), (6, 10)] [42, 43, 44, 48, 61] V V7 := agV.tr ajV7 (by decide) (by decide)
  have fwV7 : frX (xR b) V V7 := frX.tr fwV (frX.ag ajV7 (by decide) (by decide))
  refine lv_aload_n hx hb dX1_readMethod_15 rfl (lv_at hl 1 rfl) ?_
  refine lv_aload_n hx hb dX1_readMethod_16 rfl (lv_at hl 1 rfl) ?_
  refine va_get (D := D) (ci := 1) (v := rfN ad 72 (V7 1 2)) (fs := (xfReader ad V7 L8 Z)) (C := RX1) (T := TX1) (N := 9) hx hb hg inX1 hown hK hP 1 xgReader rfl 2 (by decide) (hg _ w306) (fun _ h9 => h9) rfl dX1_readMethod_17 ?_
  have pq9 : (V7 1 2).toInt = ((V 1 2)).toInt := congrArg Int32.toInt (ajV7 1 2 rfl)
  refine g_topv (v := .ref (ad (72 + go))) (rfN_r (by first | omega | ((try (have i_tx := Imp.go tx (by omega))); (try (have i_cd := Imp.go cd (by omega))); (try (have i_cd := Imp.go cd (by omega))); (try (have i_tx := Imp.go tx (by omega))); omega))) ?_
  have pq10 : (V7 1 1).toInt = ((V 1 1)).toInt := congrArg Int32.toInt (ajV7 1 1 rfl)
  refine gA_int (gA_runV (As := [.ref (ad (72 + go))]) (rest := []) (ci := 1) (q0 := 1) hx hb hml hown hg hP hD hK hS hA hnw hgk (x_takeMethodO l D ks H.size ad kk V7 L8 Z (b) (go) hMV7 (show b < 2 from by first | exact om_f940a4667dd6 hb2 | first | omega | ((try (have i_tx := Imp.go tx (by omega))); (try (have i_cd := Imp.go cd (by omega))); (try (have i_cd := Imp.go cd (by omega))); (try (have i_tx := Imp.go tx (by omega))); omega)) (show (V7 1 1).toInt = (b : Int) from by first | exact om_adf531c77a0d rbk pq10 | first | omega | ((try (have i_tx := Imp.go tx (by omega))); (try (have i_cd := Imp.go cd (by omega))); (try (have i_cd := Imp.go cd (by omega))); (try (have i_tx := Imp.go tx (by omega))); omega)) (show go < 48 from by first | exact om_ed409a757601 hb2 hgh | first | omega | ((try (have i_tx := Imp.go tx (by omega))); (try (have i_cd := Imp.go cd (by omega))); (try (have i_cd := Imp.go cd (by omega))); (try (have i_tx := Imp.go tx (by omega))); omega))) w939 w941 w19 w162 w942 rfl xgReader hdV_yX1_takeMethod ⟨Nat.le_of_ble_eq_true rfl, Nat.le_of_ble_eq_true rfl⟩ rfl hl.1 rfl (Nat.le_of_ble_eq_true rfl) dX1_readMethod_20 ⟨Nat.le_of_ble_eq_true rfl, Nat.le_of_ble_eq_true rfl⟩) hP hD hK hS hA (fun z11 u12 H locs w13 hP hD hK hS => ?_)
  obtain ⟨V17, L18⟩ := u12
  obtain ⟨hMV17, ajV17, axL18, fyV17, rgz11, t14, t15, t16⟩ := w13
  have alL18 : agL [6, 44] L L18 := agL.tr alL8 axL18 (by decide)
  have hP : va_P D vwCl (xw ad kk V17 L18 Z) H := hP
  have hD : va_D A (xw ad kk V17 L18 Z) := hD
  have hMV17 : rgd bX V17 := hMV17
  have ajV17 : agr [(1, 3), (1, 6), (6, 8), (6, 9), (6, 10)] [43, 44] V7 V17 := ajV17
  have agV17 : agr [(1, 3), (1, 4), (1, 6), (1, 8), (6, 8), (6, 9), (6, 10)] [42, 43, 44, 48, 61] V V17 := agV7.tr ajV17 (by decide) (by decide)
  have fwV17 : frX (xR b) V V17 := frX.tr fwV7 (fyV17)
  have rgz11 : 0 ≤ z11.toInt ∧ z11.toInt ≤ 1 := rgz11
  have t14 : Imp (z11.toInt = 1) (0 ≤ (V17 1 6).toInt ∧ (V17 1 6).toInt ≤ 19) := t14
  have t15 : px V7 V17 b := t15
  have t16 : Imp (z11.toInt = 0) (1 ≤ (V17 1 3).toInt) := t16
  have r19 : (-1) ≤ ((V17 1 6)).toInt ∧ ((V17 1 6)).toInt ≤ 23 := hMV17 1 6
  refine lv_if_ne (tgt := 28) hx hb dX1_readMethod_23 (by decide) (fun c20 => ?_) (fun c20 => ?_)
  · skip
    have f21 : z11.toInt ≠ 0 := b_neq rfl (by decide) c20
    have tm := Imp.go t14 (by (first | exact om_2ebe32d50835 rgz11.1 rgz11.2 f21 | omega))
    refine lv_aload_n hx hb dX1_readMethod_28 rfl (lv_at hl 1 rfl) ?_
    refine va_get (D := D) (ci := 1) (v := rfN ad 72 (V17 1 2)) (fs := (xfReader ad V17 L18 Z)) (C := RX1) (T := TX1) (N := 9) hx hb hg inX1 hown hK hP 1 xgReader rfl 2 (by decide) (hg _ w306) (fun _ h9 => h9) rfl dX1_readMethod_29 ?_
    have pq22 : (V17 1 2).toInt = ((V 1 2)).toInt := congrArg Int32.toInt ((ajV17 1 2 rfl).trans (ajV7 1 2 rfl))
    refine g_topv (v := .ref (ad (72 + go))) (rfN_r (by first | omega | ((try (have i_t14 := Imp.go t14 (imp_a (rgz11.1) (rgz11.2) (f21)))); omega) | ((try (have i_t16 := Imp.go t16 (by omega))); (try (have i_t14 := Imp.go t14 (by omega))); (try (have i_tx := Imp.go tx (by omega))); (try (have i_cd := Imp.go cd (by omega))); first | omega | ((try (have i_cd := Imp.go cd (by omega))); (try (have i_tx := Imp.go tx (by omega))); (try (have i_t14 := Imp.go t14 (by omega))); (try (have i_t16 := Imp.go t16 (by omega))); omega)))) ?_
    refine va_getN (D := D) (ci := 3) (v := .ref (ad (264 + go))) (fs := (xfComp ad V17 go)) (C := RX3) (T := TX3) (N := 13) hx hb hg inX3 hown hK hP (72 + go) (xgComp hgo) rfl 3 (by decide) (hnw.use 508 n508 rfl) (fun _ h9 => h9) rfl dX1_readMethod_32 ?_
    refine lv_aload_n hx hb dX1_readMethod_35 rfl (lv_at hl 1 rfl) ?_
    refine va_get (D := D) (ci := 1) (v := .int (V17 1 6)) (fs := (xfReader ad V17 L18 Z)) (C := RX1) (T := TX1) (N := 9) hx hb hg inX1 hown hK hP 1 xgReader rfl 6 (by decide) (hg _ w310) (fun _ h9 => h9) rfl dX1_readMethod_36 ?_
    refine lv_iload_n hx hb dX1_readMethod_39 rfl (lv_at hl 0 rfl) ?_
    have il23 : go < 48 := by first | exact om_ed409a757601 hb2 hgh | first | omega | ((try (have i_t14 := Imp.go t14 (imp_a (rgz11.1) (rgz11.2) (f21)))); omega) | ((try (have i_t16 := Imp.go t16 (by omega))); (try (have i_t14 := Imp.go t14 (by omega))); (try (have i_tx := Imp.go tx (by omega))); (try (have i_cd := Imp.go cd (by omega))); first | omega | ((try (have i_cd := Imp.go cd (by omega))); (try (have i_tx := Imp.go tx (by omega))); (try (have i_t14 := Imp.go t14 (by omega))); (try (have i_t16 := Imp.go t16 (by omega))); omega))
    refine va_iast (D := D) (i := (V17 1 6)) (x := (V 42 b)) hx hb hK hP hD hS (264 + go) (257 + go) (xgmethodStarts il23) (xtmethodStarts il23) (i_in (a := ((V17 1 6)).toInt) rfl (by first | exact om_cfc79b92132e tm.1 tm.2 | first | omega | ((try (have i_t14 := Imp.go t14 (imp_a (rgz11.1) (rgz11.2) (f21)))); omega) | ((try (have i_t16 := Imp.go t16 (by omega))); (try (have i_t14 := Imp.go t14 (by omega))); (try (have i_tx := Imp.go tx (by omega))); (try (have i_cd := Imp.go cd (by omega))); first | omega | ((try (have i_cd := Imp.go cd (by omega))); (try (have i_tx := Imp.go tx (by omega))); (try (have i_t14 := Imp.go t14 (by omega))); (try (have i_t16 := Imp.go t16 (by omega))); omega)))) dX1_readMethod_40 (fun H locs hP hD hS => ?_)
    have kc24 := i_clamp (x := (V17 1 6)) rfl (by first | exact om_eafa9039069c ((Imp.go t14 (imp_a (rgz11.1) (rgz11.2) (f21))).1) | first | omega | ((try (have i_t14 := Imp.go t14 (imp_a (rgz11.1) (rgz11.2) (f21)))); omega) | ((try (have i_t16 := Imp.go t16 (by omega))); (try (have i_t14 := Imp.go t14 (by omega))); (try (have i_tx := Imp.go tx (by omega))); (try (have i_cd := Imp.go cd (by omega))); first | omega | ((try (have i_cd := Imp.go cd (by omega))); (try (have i_tx := Imp.go tx (by omega))); (try (have i_t14 := Imp.go t14 (by omega))); (try (have i_t16 := Imp.go t16 (by omega))); omega)))
    have kl25 : (Int32.toNatClampNeg (V17 1 6)) < 20 := by first | exact om_0683ffbde602 kc24 ((Imp.go t14 (imp_a (rgz11.1) (rgz11.2) (f21))).2) | first | omega | ((try (have i_t14 := Imp.go t14 (imp_a (rgz11.1) (rgz11.2) (f21)))); omega) | ((try (have i_t16 := Imp.go t16 (by omega))); (try (have i_t14 := Imp.go t14 (by omega))); (try (have i_tx := Imp.go tx (by omega))); (try (have i_cd := Imp.go cd (by omega))); first | omega | ((try (have i_cd := Imp.go cd (by omega))); (try (have i_tx := Imp.go tx (by omega))); (try (have i_t14 := Imp.go t14 (by omega))); (try (have i_t16 := Imp.go t16 (by omega))); omega))
    obtain ⟨V26, hV26⟩ : ∃ z, z = up2 V17 61 (20 * go + (Int32.toNatClampNeg (V17 1 6))) (V 42 b) := ⟨_, rfl⟩
    have ew27 : (xw ad kk V17 L18 Z).set (264 + go) ((ad (264 + go)), .inl ((kk (264 + go)), 20, .inl (upd (fun q => if q < 20 then V17 61 (20 * go + q) else 0) (Int32.toNatClampNeg (V17 1 6)) (V 42 b)))) = xw ad kk V26 L18 Z := by rw [hV26]; exact xpmethodStarts il23 kl25
    have hP : va_P D vwCl (xw ad kk V26 L18 Z) H := by rw [← ew27]; exact hP
    have hD : va_D A (xw ad kk V26 L18 Z) := by rw [← ew27]; exact hD
    have hMV26 : rgd bX V26 := hMV17.put hV26 (show (-1) ≤ ((V 42 b)).toInt ∧ ((V 42 b)).toInt ≤ 8200 from by first | exact om_7591b83d41f0 r3.1 r3.2 | first | omega | ((try (have i_t14 := Imp.go t14 (imp_a (rgz11.1) (rgz11.2) (f21)))); omega) | ((try (have i_t16 := Imp.go t16 (by omega))); (try (have i_t14 := Imp.go t14 (by omega))); (try (have i_tx := Imp.go tx (by omega))); (try (have i_cd := Imp.go cd (by omega))); first | omega | ((try (have i_cd := Imp.go cd (by omega))); (try (have i_tx := Imp.go tx (by omega))); (try (have i_t14 := Imp.go t14 (by omega))); (try (have i_t16 := Imp.go t16 (by omega))); omega)))
    have agV26 : agr [(1, 3), (1, 4), (1, 6), (1, 8), (6, 8), (6, 9), (6, 10)] [42, 43, 44, 48, 61] V V26 := agV17.up hV26 rfl
    have fwV26 : frX (xR b) V V26 := frX.up fwV17 hV26 (Or.inr ⟨(by show 480 * b ≤ (20 * go + (Int32.toNatClampNeg (V17 1 6))); first | exact om_dc6deb99eacc hgl | first | omega | ((try (have i_t14 := Imp.go t14 (imp_a (rgz11.1) (rgz11.2) (f21)))); omega) | ((try (have i_t16 := Imp.go t16 (by omega))); (try (have i_t14 := Imp.go t14 (by omega))); (try (have i_tx := Imp.go tx (by omega))); (try (have i_cd := Imp.go cd (by omega))); first | omega | ((try (have i_cd := Imp.go cd (by omega))); (try (have i_tx := Imp.go tx (by omega))); (try (have i_t14 := Imp.go t14 (by omega))); (try (have i_t16 := Imp.go t16 (by omega))); omega))), (by show (20 * go + (Int32.toNatClampNeg (V17 1 6))) < 480 * b + 480; first | exact om_3f1748f42aa3 hgh kl25 | first | omega | ((try (have i_t14 := Imp.go t14 (imp_a (rgz11.1) (rgz11.2) (f21)))); omega) | ((try (have i_t16 := Imp.go t16 (by omega))); (try (have i_t14 := Imp.go t14 (by omega))); (try (have i_tx := Imp.go tx (by omega))); (try (have i_cd := Imp.go cd (by omega))); first | omega | ((try (have i_cd := Imp.go cd (by omega))); (try (have i_tx := Imp.go tx (by omega))); (try (have i_t14 := Imp.go t14 (by omega))); (try (have i_t16 := Imp.go t16 (by omega))); omega)))⟩)
    have px28 : px V V7 b := px.tr (px.rf : px V V b) (px.ag (show agr [(6, 8), (6, 9), (6, 10)] [] V V7 from (agr.tr agr.rf ajV7 (by decide) (by decide))) (fun _ => rfl) (fun _ => rfl) (fun _ => rfl))
    have px29 : px V V17 b := px.tr px28 t15
    have tx30 : TX V17 b := TX.ag tx (show agr [(1, 3), (1, 6), (6, 8), (6, 9), (6, 10)] [43, 44] V V17 from (agr.tr (agr.tr agr.rf ajV7 (by decide) (by decide)) ajV17 (by decide) (by decide))) px29 (fun _ => rfl) (fun _ => rfl) (fun _ => rfl) (fun _ => rfl) (fun _ => rfl) (fun _ => rfl)
    have cl31 : 0 ≤ (V 42 b).toInt ∧ (V 42 b).toInt ≤ 8200 := hMV 42 b
    have px32 : px V V7 b := px.tr (px.rf : px V V b) (px.ag (show agr [(6, 8), (6, 9), (6, 10)] [] V V7 from (agr.tr agr.rf ajV7 (by decide) (by decide))) (fun _ => rfl) (fun _ => rfl) (fun _ => rfl))
    have px33 : px V V17 b := px.tr px32 t15
    have gs34 : gs V17 b (V 42 b).toInt := (CB.gs cd.1 (by omega)).up px33.1
    have tx35 : TX V26 b := TX.st tx30 hV26 (by decide) gs34
    refine lv_aload_n hx hb dX1_readMethod_41 rfl (lv_at hl 1 rfl) ?_
    refine lv_iconst (v := 0) hx hb dX1_readMethod_42 (by decide) ?_
    have r36 : Int32.toInt 0 = 0 := by decide
    have pq37 : (V26 1 1).toInt = ((V 1 1)).toInt := congrArg Int32.toInt ((up2_o hV26 (by decide)).trans ((ajV17 1 1 rfl).trans (ajV7 1 1 rfl)))
    have cd38 : CD V26 b := ⟨CB.ag cd.1 (show agr [(1, 3), (1, 6), (6, 8), (6, 9), (6, 10)] [43, 44, 61] V V26 from (agr.up (agr.tr (agr.tr agr.rf ajV7 (by decide) (by decide)) ajV17 (by decide) (by decide)) hV26 rfl)) (fun _ => rfl) (fun _ => rfl), CO.ag cd.2 (show agr [(1, 3), (1, 6), (6, 8), (6, 9), (6, 10)] [43, 44, 61] V V26 from (agr.up (agr.tr (agr.tr agr.rf ajV7 (by decide) (by decide)) ajV17 (by decide) (by decide)) hV26 rfl)) (fun _ => rfl) (fun _ => rfl)⟩
    refine gA_int (gA_runV (As := [.int 0]) (rest := []) (ci := 1) (q0 := 1) hx hb hml hown hg hP hD hK hS hA hnw hgk (x_readE l D ks H.size ad kk V26 L18 Z 0 (b) hMV26 (by decide) (show b < 2 from by first | exact om_f940a4667dd6 hb2 | first | omega | ((try (have i_t14 := Imp.go t14 (imp_a (rgz11.1) (rgz11.2) (f21)))); omega) | ((try (have i_t16 := Imp.go t16 (by omega))); (try (have i_t14 := Imp.go t14 (by omega))); (try (have i_tx := Imp.go tx (by omega))); (try (have i_cd := Imp.go cd (by omega))); first | omega | ((try (have i_cd := Imp.go cd (by omega))); (try (have i_tx := Imp.go tx (by omega))); (try (have i_t14 := Imp.go t14 (by omega))); (try (have i_t16 := Imp.go t16 (by omega))); omega))) (show (V26 1 1).toInt = (b : Int) from by first | exact om_adf531c77a0d rbk pq37 | first | omega | ((try (have i_t14 := Imp.go t14 (imp_a (rgz11.1) (rgz11.2) (f21)))); omega) | ((try (have i_t16 := Imp.go t16 (by omega))); (try (have i_t14 := Imp.go t14 (by omega))); (try (have i_tx := Imp.go tx (by omega))); (try (have i_cd := Imp.go cd (by omega))); first | omega | ((try (have i_cd := Imp.go cd (by omega))); (try (have i_tx := Imp.go tx (by omega))); (try (have i_t14 := Imp.go t14 (by omega))); (try (have i_t16 := Imp.go t16 (by omega))); omega))) cd38 tx35) w947 w949 w20 w162 w950 rfl xgReader hdV_yX1_readE ⟨Nat.le_of_ble_eq_true rfl, Nat.le_of_ble_eq_true rfl⟩ rfl hl.1 rfl (Nat.le_of_ble_eq_true rfl) dX1_readMethod_43 ⟨Nat.le_of_ble_eq_true rfl, Nat.le_of_ble_eq_true rfl⟩) hP hD hK hS hA (fun z39 u40 H locs w41 hP hD hK hS => ?_)
    obtain ⟨V46, L47⟩ := u40
    obtain ⟨hMV46, ajV46, axL47, fyV46, rgz39, t42, t43, t44, t45⟩ := w41
    have alL47 : agL [6, 44] L L47 := agL.tr alL18 axL47 (by decide)
    have hP : va_P D vwCl (xw ad kk V46 L47 Z) H := hP
    have hD : va_D A (xw ad kk V46 L47 Z) := hD
    have hMV46 : rgd bX V46 := hMV46
    have ajV46 : agr [(1, 3), (1, 4), (1, 6), (1, 8), (6, 8), (6, 9), (6, 10)] [42, 43, 44, 48] V26 V46 := ajV46
    have agV46 : agr [(1, 3), (1, 4), (1, 6), (1, 8), (6, 8), (6, 9), (6, 10)] [42, 43, 44, 48, 61] V V46 := agV26.tr ajV46 (by decide) (by decide)
    have fwV46 : frX (xR b) V V46 := frX.tr fwV26 (fyV46)
    have rgz39 : 0 ≤ z39.toInt ∧ z39.toInt ≤ 1 := rgz39
    have t42 : TX V46 b := t42
    have t43 : CD V46 b := t43
    have t44 : px V26 V46 b := t44
    have t45 : Imp (z39.toInt = 0) (1 ≤ (V46 1 3).toInt) := t45
    have px48 : px V V7 b := px.tr (px.rf : px V V b) (px.ag (show agr [(6, 8), (6, 9), (6, 10)] [] V V7 from (agr.tr agr.rf ajV7 (by decide) (by decide))) (fun _ => rfl) (fun _ => rfl) (fun _ => rfl))
    have px49 : px V V17 b := px.tr px48 t15
    have px50 : px V V26 b := px.tr px49 (px.ag (show agr [] [61] V17 V26 from (agr.up agr.rf hV26 rfl)) (fun _ => rfl) (fun _ => rfl) (fun _ => rfl))
    have px51 : px V V46 b := px.tr px50 t44
    exact W.zret (v := z39) hx hb hr (nb_ok (by omega)) (fun t ht hW => ⟨⟨z39, (V46, L47), rfl, ⟨hMV46, agV46, alL47, fwV46, (show 0 ≤ z39.toInt ∧ z39.toInt ≤ 1 from by first | exact om_eb7af9d60398 rgz39.1 rgz39.2 | first | omega | ((try (have i_t14 := Imp.go t14 (imp_a (rgz11.1) (rgz11.2) (f21)))); omega) | ((try (have i_t45 := Imp.go t45 (by omega))); (try (have i_t16 := Imp.go t16 (by omega))); (try (have i_t14 := Imp.go t14 (by omega))); (try (have i_tx := Imp.go tx (by omega))); first | omega | ((try (have i_cd := Imp.go cd (by omega))); (try (have i_cd := Imp.go cd (by omega))); (try (have i_tx := Imp.go tx (by omega))); (try (have i_t14 := Imp.go t14 (by omega))); (try (have i_t16 := Imp.go t16 (by omega))); (try (have i_t45 := Imp.go t45 (by omega))); omega))), t42, t43, px51, (Imp.mk (fun hp => have hp : z39.toInt = 0 := hp; (show 1 ≤ (V46 1 3).toInt from by first | exact om_f8d8213eda45 ((Imp.go t45 (hp))) | first | omega | ((try (have i_t45 := Imp.go t45 (hp))); (try (have i_t14 := Imp.go t14 (imp_a (rgz11.1) (rgz11.2) (f21)))); omega) | ((try (have i_t45 := Imp.go t45 (by omega))); (try (have i_t16 := Imp.go t16 (by omega))); (try (have i_t14 := Imp.go t14 (by omega))); (try (have i_tx := Imp.go tx (by omega))); first | omega | ((try (have i_cd := Imp.go cd (by omega))); (try (have i_cd := Imp.go cd (by omega))); (try (have i_tx := Imp.go tx (by omega))); (try (have i_t14 := Imp.go t14 (by omega))); (try (have i_t16 := Imp.go t16 (by omega))); (try (have i_t45 := Imp.go t45 (by omega))); omega)))))⟩, by rw [ht]; exact hP, va_K.moved hW.alike hK, hD⟩, hS.F ht⟩) hS.2.2 dX1_readMethod_46
  · skip
    have f52 : z11.toInt = 0 := b_eq rfl (by decide) c20
    refine lv_iconst (v := 0) hx hb dX1_readMethod_26 (by decide) ?_
    have px53 : px V V7 b := px.tr (px.rf : px V V b) (px.ag (show agr [(6, 8), (6, 9), (6, 10)] [] V V7 from (agr.tr agr.rf ajV7 (by decide) (by decide))) (fun _ => rfl) (fun _ => rfl) (fun _ => rfl))
    have px54 : px V V17 b := px.tr px53 t15
    have tx55 : TX V17 b := TX.ag tx (show agr [(1, 3), (1, 6), (6, 8), (6, 9), (6, 10)] [43, 44] V V17 from (agr.tr (agr.tr agr.rf ajV7 (by decide) (by decide)) ajV17 (by decide) (by decide))) px54 (fun _ => rfl) (fun _ => rfl) (fun _ => rfl) (fun _ => rfl) (fun _ => rfl) (fun _ => rfl)
    have cd56 : CD V17 b := ⟨CB.ag cd.1 (show agr [(1, 3), (1, 6), (6, 8), (6, 9), (6, 10)] [43, 44] V V17 from (agr.tr (agr.tr agr.rf ajV7 (by decide) (by decide)) ajV17 (by decide) (by decide))) (fun _ => rfl) (fun _ => rfl), CO.ag cd.2 (show agr [(1, 3), (1, 6), (6, 8), (6, 9), (6, 10)] [43, 44] V V17 from (agr.tr (agr.tr agr.rf ajV7 (by decide) (by decide)) ajV17 (by decide) (by decide))) (fun _ => rfl) (fun _ => rfl)⟩
    have px57 : px V V7 b := px.tr (px.rf : px V V b) (px.ag (show agr [(6, 8), (6, 9), (6, 10)] [] V V7 from (agr.tr agr.rf ajV7 (by decide) (by decide))) (fun _ => rfl) (fun _ => rfl) (fun _ => rfl))
    have px58 : px V V17 b := px.tr px57 t15
    exact W.zret (v := 0) hx hb hr rfl (fun t ht hW => ⟨⟨0, (V17, L18), rfl, ⟨hMV17, agV17, alL18, fwV17, (by decide), tx55, cd56, px58, (Imp.mk (fun _ => (show 1 ≤ (V17 1 3).toInt from by first | exact om_f8d8213eda45 ((Imp.go t16 (f52))) | first | omega | ((try (have i_t16 := Imp.go t16 (f52))); omega) | ((try (have i_t16 := Imp.go t16 (by omega))); (try (have i_t14 := Imp.go t14 (by omega))); (try (have i_tx := Imp.go tx (by omega))); (try (have i_cd := Imp.go cd (by omega))); first | omega | ((try (have i_cd := Imp.go cd (by omega))); (try (have i_tx := Imp.go tx (by omega))); (try (have i_t14 := Imp.go t14 (by omega))); (try (have i_t16 := Imp.go t16 (by omega))); omega)))))⟩, by rw [ht]; exact hP, va_K.moved hW.alike hK, hD⟩, hS.F ht⟩) hS.2.2 dX1_readMethod_27
abbrev r_x_readNeed : Room := { frames := 3, cells := 0, slots := 0, locals := 64 }
abbrev q_x_readNeed (D : va_G) (ks : KS) (ad : Nat → Nat) (kk : Nat → ClassId) (V : Vf) (L : Lf) (Z : XZ) (b : Nat) (go : Nat) (A : Nat → Prop) : Array Value → State → Outcome → State → Prop := va_Qi (fun (r : Int32) (u : Vf × Lf) => rgd bX u.1 ∧ agr [(1, 3), (1, 6), (6, 8), (6, 9), (6, 10)] [43, 44, 49, 58, 59, 60] V u.1 ∧ agL [6, 44] L u.2 ∧ frX (xR b) V u.1 ∧ (0 ≤ r.toInt ∧ r.toInt ≤ 1) ∧ (TX u.1 b) ∧ (CD u.1 b) ∧ (px V u.1 b) ∧ (Imp (r.toInt = 0) (1 ≤ (u.1 1 3).toInt))) (fun u t => gq D A (xw ad kk u.1 u.2 Z) (xty kk Z) t) A
set_option maxHeartbeats 4000000 in
set_option maxRecDepth 100000 in
theorem x_readNeed (l : Launch) (D : va_G) (ks : KS) (sz : Nat) (ad : Nat → Nat) (kk : Nat → ClassId) (V : Vf) (L : Lf) (Z : XZ) (b : Nat) (go : Nat) (hMV : rgd bX V) (hb2 : b < 2) (rbk : (V 1 1).toInt = (b : Int)) (own : (V 1 2).toInt = (go : Int)) (hgo : go < 48) (hgl : 24 * b ≤ go) (hgh : go < 24 * b + 24) (cd : CD V b) (tx : TX V b)  : Met l yX1_readNeed (Cond.code yX1_readNeed cX1_readNeed 4 (some .boolean) :: GW) r_x_readNeed (va_Pc [.ref (ad 1)] (gp D ks (xw ad kk V L Z) (xty kk Z) sz)) (q_x_readNeed D ks ad kk V L Z  b go (va_A (xw ad kk V L Z) sz)) 0 0 (va_A (xw ad kk V L Z) sz) := by
  refine g_met (q_x_readNeed D ks ad kk V L Z  b go) (by decide) (Nat.le_of_ble_eq_true rfl) ?_
  intro p e s m below meth c A ls H locs hx hb hr hml hown hg hlocks hin hnw hgk hP hK hD hS hA hl
  have hown : s.vm.findClass RX1 = some m.cls := hown
  have hl : lv_has ls 4 [(0, .ref (ad 1))] := hl
  have hP : va_P D vwCl (xw ad kk V L Z) H := hP
  have hD : va_D A (xw ad kk V L Z) := hD
  have hK : va_K D vwCl (xty kk Z) s := hK
  have agV : agr [(1, 3), (1, 6), (6, 8), (6, 9), (6, 10)] [43, 44, 49, 58, 59, 60] V V := agr.rf
  have alL : agL [6, 44] L L := agL.rf
  have fwV : frX (xR b) V V := frX.rf
  have r1 : (-1) ≤ ((V 1 1)).toInt ∧ ((V 1 1)).toInt ≤ 1 := hMV 1 1
  have r2 : (-1) ≤ ((V 1 2)).toInt ∧ ((V 1 2)).toInt ≤ 47 := hMV 1 2
  refine lv_aload_n hx hb dX1_readNeed_0 rfl (lv_at hl 0 rfl) ?_
  refine va_get (D := D) (ci := 1) (v := rfN ad 72 (V 1 2)) (fs := (xfReader ad V L Z)) (C := RX1) (T := TX1) (N := 9) hx hb hg inX1 hown hK hP 1 xgReader rfl 2 (by decide) (hg _ w306) (fun _ h9 => h9) rfl dX1_readNeed_1 ?_
  refine g_topv (v := .ref (ad (72 + go))) (rfN_r (by first | omega | ((try (have i_tx := Imp.go tx (by omega))); (try (have i_cd := Imp.go cd (by omega))); (try (have i_cd := Imp.go cd (by omega))); (try (have i_tx := Imp.go tx (by omega))); omega))) ?_
  refine va_getN (D := D) (ci := 3) (v := .int (V 49 go)) (fs := (xfComp ad V go)) (C := RX3) (T := TX3) (N := 13) hx hb hg inX3 hown hK hP (72 + go) (xgComp hgo) rfl 4 (by decide) (hnw.use 513 n513 rfl) (fun _ h9 => h9) rfl dX1_readNeed_4 ?_
  have r3 : 0 ≤ ((V 49 go)).toInt ∧ ((V 49 go)).toInt ≤ 8 := hMV 49 go
  refine lv_bipush (v := 8) hx hb dX1_readNeed_7 (by decide) ?_
  refine lv_icmp_lt (tgt := 18) hx hb dX1_readNeed_9 (by decide) (fun c4 => ?_) (fun c4 => ?_)
  · skip
    have f5 : ((V 49 go)).toInt < 8 := b_lt rfl (by decide) c4
    refine lv_aload_n hx hb dX1_readNeed_18 rfl (lv_at hl 0 rfl) ?_
    refine va_get (D := D) (ci := 1) (v := .ref (ad 6)) (fs := (xfReader ad V L Z)) (C := RX1) (T := TX1) (N := 9) hx hb hg inX1 hown hK hP 1 xgReader rfl 0 (by decide) (hg _ w304) (fun _ h9 => h9) rfl dX1_readNeed_19 ?_
    refine gA_void (gA_runV (As := []) (rest := []) (ci := 9) (q0 := 6) hx hb hml hown hg hP hD hK hS hA hnw hgk (x_next l D ks H.size ad kk V L Z  hMV ) w871 w852 w853 w157 w854 rfl xgTape hdV_yX9_next ⟨Nat.le_of_ble_eq_true rfl, Nat.le_of_ble_eq_true rfl⟩ rfl hl.1 rfl (Nat.le_of_ble_eq_true rfl) dX1_readNeed_22 ⟨Nat.le_of_ble_eq_true rfl, Nat.le_of_ble_eq_true rfl⟩) hP hD hK hS hA (fun u7 H locs w8 hP hD hK hS => ?_)
    obtain ⟨V9, L10⟩ := u7
    obtain ⟨hMV9, ajV9, axL10⟩ := w8
    have alL10 : agL [6, 44] L L10 := agL.tr alL axL10 (by decide)
    have hP : va_P D vwCl (xw ad kk V9 L10 Z) H := hP
    have hD : va_D A (xw ad kk V9 L10 Z) := hD
    have hMV9 : rgd bX V9 := hMV9
    have ajV9 : agr [(6, 8), (6, 9), (6, 10)] [] V V9 := ajV9
    have agV9 : agr [(1, 3), (1, 6), (6, 8), (6, 9), (6, 10)] [43, 44, 49, 58, 59, 60] V V9 := agV.tr ajV9 (by decide) (by decide)
    have fwV9 : frX (xR b) V V9 := frX.tr fwV (frX.ag ajV9 (by decide) (by decide))
    refine lv_aload_n hx hb dX1_readNeed_25 rfl (lv_at hl 0 rfl) ?_
    refine va_get (D := D) (ci := 1) (v := .ref (ad 6)) (fs := (xfReader ad V9 L10 Z)) (C := RX1) (T := TX1) (N := 9) hx hb hg inX1 hown hK hP 1 xgReader rfl 0 (by decide) (hg _ w304) (fun _ h9 => h9) rfl dX1_readNeed_26 ?_
    refine va_getN (D := D) (ci := 9) (v := .int (V9 6 9)) (fs := (xfTape ad V9 L10 Z)) (C := RX9) (T := TX9) (N := 12) hx hb hg inX9 hown hK hP 6 xgTape rfl 9 (by decide) (hnw.use 262 n262 rfl) (fun _ h9 => h9) rfl dX1_readNeed_29 ?_
    refine lv_sipush (v := 138) hx hb dX1_readNeed_32 (by decide) ?_
    refine lv_icmp_ne (tgt := 42) hx hb dX1_readNeed_35 (by decide) (fun c11 => ?_) (fun c11 => ?_)
    · skip
      have f12 : ((V9 6 9)).toInt ≠ 138 := b_neq rfl (by decide) c11
      refine lv_aload_n hx hb dX1_readNeed_42 rfl (lv_at hl 0 rfl) ?_
      refine va_get (D := D) (ci := 1) (v := .ref (ad 6)) (fs := (xfReader ad V9 L10 Z)) (C := RX1) (T := TX1) (N := 9) hx hb hg inX1 hown hK hP 1 xgReader rfl 0 (by decide) (hg _ w304) (fun _ h9 => h9) rfl dX1_readNeed_43 ?_
      refine va_getN (D := D) (ci := 9) (v := .int (V9 6 9)) (fs := (xfTape ad V9 L10 Z)) (C := RX9) (T := TX9) (N := 12) hx hb hg inX9 hown hK hP 6 xgTape rfl 9 (by decide) (hnw.use 262 n262 rfl) (fun _ h9 => h9) rfl dX1_readNeed_46 ?_
      refine lv_sipush (v := 139) hx hb dX1_readNeed_49 (by decide) ?_
      refine lv_icmp_ne (tgt := 59) hx hb dX1_readNeed_52 (by decide) (fun c13 => ?_) (fun c13 => ?_)
      · skip
        have f14 : ((V9 6 9)).toInt ≠ 139 := b_neq rfl (by decide) c13
        refine lv_iconst (v := 0) hx hb dX1_readNeed_59 (by decide) ?_
        refine lv_istore_n (lv' := [(1, .int 0), (0, .ref (ad 1))]) hx hb dX1_readNeed_60 rfl hl (by decide) rfl (fun ls hl => ?_)
        refine lv_iload_n hx hb dX1_readNeed_61 rfl (lv_at hl 0 rfl) ?_
        refine lv_if_eq (tgt := 72) hx hb dX1_readNeed_62 (by decide) (fun _ => ?_) (fun q => absurd (by decide) q)
        refine lv_aload_n hx hb dX1_readNeed_72 rfl (lv_at hl 1 rfl) ?_
        have pq15 : (V9 1 1).toInt = ((V 1 1)).toInt := congrArg Int32.toInt (ajV9 1 1 rfl)
        refine gA_int (gA_runV (As := []) (rest := []) (ci := 1) (q0 := 1) hx hb hml hown hg hP hD hK hS hA hnw hgk (x_isToldType l D ks H.size ad kk V9 L10 Z (b) hMV9 (show b < 2 from by first | exact om_f940a4667dd6 hb2 | first | omega | ((try (have i_tx := Imp.go tx (by omega))); (try (have i_cd := Imp.go cd (by omega))); (try (have i_cd := Imp.go cd (by omega))); (try (have i_tx := Imp.go tx (by omega))); omega)) (show (V9 1 1).toInt = (b : Int) from by first | exact om_adf531c77a0d rbk pq15 | first | omega | ((try (have i_tx := Imp.go tx (by omega))); (try (have i_cd := Imp.go cd (by omega))); (try (have i_cd := Imp.go cd (by omega))); (try (have i_tx := Imp.go tx (by omega))); omega))) w888 w890 w9 w162 w891 rfl xgReader hdV_yX1_isToldType ⟨Nat.le_of_ble_eq_true rfl, Nat.le_of_ble_eq_true rfl⟩ rfl hl.1 rfl (Nat.le_of_ble_eq_true rfl) dX1_readNeed_73 ⟨Nat.le_of_ble_eq_true rfl, Nat.le_of_ble_eq_true rfl⟩) hP hD hK hS hA (fun z16 u17 H locs w18 hP hD hK hS => ?_)
        obtain ⟨V21, L22⟩ := u17
        obtain ⟨hMV21, ajV21, axL22, rgz16, t19, t20⟩ := w18
        have axL22 : L10 = L22 := Eq.symm axL22
        subst axL22
        have hP : va_P D vwCl (xw ad kk V21 L10 Z) H := hP
        have hD : va_D A (xw ad kk V21 L10 Z) := hD
        have hMV21 : rgd bX V21 := hMV21
        have ajV21 : agr [(1, 3), (1, 6)] [] V9 V21 := ajV21
        have agV21 : agr [(1, 3), (1, 6), (6, 8), (6, 9), (6, 10)] [43, 44, 49, 58, 59, 60] V V21 := agV9.tr ajV21 (by decide) (by decide)
        have fwV21 : frX (xR b) V V21 := frX.tr fwV9 (frX.ag ajV21 (by decide) (by decide))
        have rgz16 : 0 ≤ z16.toInt ∧ z16.toInt ≤ 1 := rgz16
        have t19 : Imp (z16.toInt = 1) (0 ≤ (V21 1 6).toInt ∧ (V21 1 6).toInt ≤ 23) := t19
        have t20 : Imp (z16.toInt = 0) (1 ≤ (V21 1 3).toInt) := t20
        have r23 : (-1) ≤ ((V21 1 6)).toInt ∧ ((V21 1 6)).toInt ≤ 23 := hMV21 1 6
        refine lv_if_ne (tgt := 81) hx hb dX1_readNeed_76 (by decide) (fun c24 => ?_) (fun c24 => ?_)
        · skip
          have f25 : z16.toInt ≠ 0 := b_neq rfl (by decide) c24
          refine lv_aload_n hx hb dX1_readNeed_81 rfl (lv_at hl 1 rfl) ?_
          refine va_get (D := D) (ci := 1) (v := .int (V21 1 6)) (fs := (xfReader ad V21 L10 Z)) (C := RX1) (T := TX1) (N := 9) hx hb hg inX1 hown hK hP 1 xgReader rfl 6 (by decide) (hg _ w310) (fun _ h9 => h9) rfl dX1_readNeed_82 ?_
          refine lv_istore_n (lv' := [(2, .int (V21 1 6)), (1, .int 0), (0, .ref (ad 1))]) hx hb dX1_readNeed_85 rfl hl (by decide) rfl (fun ls hl => ?_)
          refine lv_iconst (v := (-1)) hx hb dX1_readNeed_86 (by decide) ?_
          refine lv_istore_n (lv' := [(3, .int (-1)), (2, .int (V21 1 6)), (1, .int 0), (0, .ref (ad 1))]) hx hb dX1_readNeed_87 rfl hl (by decide) rfl (fun ls hl => ?_)
          refine lv_aload_n hx hb dX1_readNeed_88 rfl (lv_at hl 3 rfl) ?_
          refine va_get (D := D) (ci := 1) (v := .ref (ad 6)) (fs := (xfReader ad V21 L10 Z)) (C := RX1) (T := TX1) (N := 9) hx hb hg inX1 hown hK hP 1 xgReader rfl 0 (by decide) (hg _ w304) (fun _ h9 => h9) rfl dX1_readNeed_89 ?_
          refine gA_void (gA_runV (As := []) (rest := []) (ci := 9) (q0 := 6) hx hb hml hown hg hP hD hK hS hA hnw hgk (x_next l D ks H.size ad kk V21 L10 Z  hMV21 ) w871 w852 w853 w157 w854 rfl xgTape hdV_yX9_next ⟨Nat.le_of_ble_eq_true rfl, Nat.le_of_ble_eq_true rfl⟩ rfl hl.1 rfl (Nat.le_of_ble_eq_true rfl) dX1_readNeed_92 ⟨Nat.le_of_ble_eq_true rfl, Nat.le_of_ble_eq_true rfl⟩) hP hD hK hS hA (fun u27 H locs w28 hP hD hK hS => ?_)
          obtain ⟨V29, L30⟩ := u27
          obtain ⟨hMV29, ajV29, axL30⟩ := w28
          have alL30 : agL [6, 44] L L30 := agL.tr alL10 axL30 (by decide)
          have hP : va_P D vwCl (xw ad kk V29 L30 Z) H := hP
          have hD : va_D A (xw ad kk V29 L30 Z) := hD
          have hMV29 : rgd bX V29 := hMV29
          have ajV29 : agr [(6, 8), (6, 9), (6, 10)] [] V21 V29 := ajV29
          have agV29 : agr [(1, 3), (1, 6), (6, 8), (6, 9), (6, 10)] [43, 44, 49, 58, 59, 60] V V29 := agV21.tr ajV29 (by decide) (by decide)
          have fwV29 : frX (xR b) V V29 := frX.tr fwV21 (frX.ag ajV29 (by decide) (by decide))
          refine lv_iload_n hx hb dX1_readNeed_95 rfl (lv_at hl 2 rfl) ?_
          refine lv_iconst (v := 2) hx hb dX1_readNeed_96 (by decide) ?_
          refine lv_icmp_eq (tgt := 127) hx hb dX1_readNeed_97 (by decide) (fun q => absurd q (by decide)) (fun _ => ?_)
          refine lv_aload_n hx hb dX1_readNeed_100 rfl (lv_at hl 3 rfl) ?_
          refine va_get (D := D) (ci := 1) (v := .ref (ad 6)) (fs := (xfReader ad V29 L30 Z)) (C := RX1) (T := TX1) (N := 9) hx hb hg inX1 hown hK hP 1 xgReader rfl 0 (by decide) (hg _ w304) (fun _ h9 => h9) rfl dX1_readNeed_101 ?_
          refine va_getN (D := D) (ci := 9) (v := .int (V29 6 9)) (fs := (xfTape ad V29 L30 Z)) (C := RX9) (T := TX9) (N := 12) hx hb hg inX9 hown hK hP 6 xgTape rfl 9 (by decide) (hnw.use 262 n262 rfl) (fun _ h9 => h9) rfl dX1_readNeed_104 ?_
          refine lv_sipush (v := 133) hx hb dX1_readNeed_107 (by decide) ?_
          refine lv_icmp_ne (tgt := 127) hx hb dX1_readNeed_110 (by decide) (fun c31 => ?_) (fun c31 => ?_)
          · skip
            have f32 : ((V29 6 9)).toInt ≠ 133 := b_neq rfl (by decide) c31
            refine lv_aload_n hx hb dX1_readNeed_127 rfl (lv_at hl 3 rfl) ?_
            refine lv_bipush (v := 59) hx hb dX1_readNeed_128 (by decide) ?_
            have r33 : Int32.toInt 59 = 59 := by decide
            refine gA_int (gA_runV (As := [.int 59]) (rest := []) (ci := 1) (q0 := 1) hx hb hml hown hg hP hD hK hS hA hnw hgk (x_take l D ks H.size ad kk V29 L30 Z 59 hMV29 ) w893 w895 w10 w162 w896 rfl xgReader hdV_yX1_take ⟨Nat.le_of_ble_eq_true rfl, Nat.le_of_ble_eq_true rfl⟩ rfl hl.1 rfl (Nat.le_of_ble_eq_true rfl) dX1_readNeed_130 ⟨Nat.le_of_ble_eq_true rfl, Nat.le_of_ble_eq_true rfl⟩) hP hD hK hS hA (fun z34 u35 H locs w36 hP hD hK hS => ?_)
            obtain ⟨V38, L39⟩ := u35
            obtain ⟨hMV38, ajV38, axL39, rgz34, t37⟩ := w36
            have alL39 : agL [6, 44] L L39 := agL.tr alL30 axL39 (by decide)
            have hP : va_P D vwCl (xw ad kk V38 L39 Z) H := hP
            have hD : va_D A (xw ad kk V38 L39 Z) := hD
            have hMV38 : rgd bX V38 := hMV38
            have ajV38 : agr [(1, 3), (6, 8), (6, 9), (6, 10)] [] V29 V38 := ajV38
            have agV38 : agr [(1, 3), (1, 6), (6, 8), (6, 9), (6, 10)] [43, 44, 49, 58, 59, 60] V V38 := agV29.tr ajV38 (by decide) (by decide)
            have fwV38 : frX (xR b) V V38 := frX.tr fwV29 (frX.ag ajV38 (by decide) (by decide))
            have rgz34 : 0 ≤ z34.toInt ∧ z34.toInt ≤ 1 := rgz34
            have t37 : Imp (z34.toInt = 0) (1 ≤ (V38 1 3).toInt) := t37
            refine lv_if_ne (tgt := 138) hx hb dX1_readNeed_133 (by decide) (fun c40 => ?_) (fun c40 => ?_)
            · skip
              have f41 : z34.toInt ≠ 0 := b_neq rfl (by decide) c40
              refine lv_aload_n hx hb dX1_readNeed_138 rfl (lv_at hl 3 rfl) ?_
              refine va_get (D := D) (ci := 1) (v := rfN ad 72 (V38 1 2)) (fs := (xfReader ad V38 L39 Z)) (C := RX1) (T := TX1) (N := 9) hx hb hg inX1 hown hK hP 1 xgReader rfl 2 (by decide) (hg _ w306) (fun _ h9 => h9) rfl dX1_readNeed_139 ?_
              have pq42 : (V38 1 2).toInt = ((V 1 2)).toInt := congrArg Int32.toInt ((ajV38 1 2 rfl).trans ((ajV29 1 2 rfl).trans ((ajV21 1 2 rfl).trans (ajV9 1 2 rfl))))
              refine g_topv (v := .ref (ad (72 + go))) (rfN_r (by first | omega | ((try (have i_t19 := Imp.go t19 (imp_a (rgz16.1) (rgz16.2) (f25)))); omega) | ((try (have i_t37 := Imp.go t37 (by omega))); (try (have i_t20 := Imp.go t20 (by omega))); (try (have i_t19 := Imp.go t19 (by omega))); (try (have i_tx := Imp.go tx (by omega))); first | omega | ((try (have i_cd := Imp.go cd (by omega))); (try (have i_cd := Imp.go cd (by omega))); (try (have i_tx := Imp.go tx (by omega))); (try (have i_t19 := Imp.go t19 (by omega))); (try (have i_t20 := Imp.go t20 (by omega))); (try (have i_t37 := Imp.go t37 (by omega))); omega)))) ?_
              refine lv_iload_n hx hb dX1_readNeed_142 rfl (lv_at hl 2 rfl) ?_
              refine lv_iload_n hx hb dX1_readNeed_143 rfl (lv_at hl 1 rfl) ?_
              refine lv_iload_n hx hb dX1_readNeed_144 rfl (lv_at hl 0 rfl) ?_
              have r43 : Int32.toInt 0 = 0 := by decide
              have r44 : Int32.toInt (-1) = (-1) := by decide
              refine gA_void (gA_runV (As := [.int 0, .int (V21 1 6), .int (-1)]) (rest := []) (ci := 3) (q0 := (72 + go)) hx hb hml hown hg hP hD hK hS hA hnw hgk (x_addNeed l D ks H.size ad kk V38 L39 Z 0 (V21 1 6) (-1) (go) hMV38 (show go < 48 from by first | exact om_ed409a757601 hb2 hgh | first | omega | ((try (have i_t19 := Imp.go t19 (imp_a (rgz16.1) (rgz16.2) (f25)))); omega) | ((try (have i_t37 := Imp.go t37 (by omega))); (try (have i_t20 := Imp.go t20 (by omega))); (try (have i_t19 := Imp.go t19 (by omega))); (try (have i_tx := Imp.go tx (by omega))); first | omega | ((try (have i_cd := Imp.go cd (by omega))); (try (have i_cd := Imp.go cd (by omega))); (try (have i_tx := Imp.go tx (by omega))); (try (have i_t19 := Imp.go t19 (by omega))); (try (have i_t20 := Imp.go t20 (by omega))); (try (have i_t37 := Imp.go t37 (by omega))); omega)))) w1011 w1012 w1013 w169 w1014 rfl (xgComp hgo) hdV_yX3_addNeed ⟨Nat.le_of_ble_eq_true rfl, Nat.le_of_ble_eq_true rfl⟩ rfl hl.1 rfl (Nat.le_of_ble_eq_true rfl) dX1_readNeed_145 ⟨Nat.le_of_ble_eq_true rfl, Nat.le_of_ble_eq_true rfl⟩) hP hD hK hS hA (fun u46 H locs w47 hP hD hK hS => ?_)
              obtain ⟨V48, L49⟩ := u46
              obtain ⟨hMV48, ajV48, axL49, fyV48⟩ := w47
              have axL49 : L39 = L49 := Eq.symm axL49
              subst axL49
              have hP : va_P D vwCl (xw ad kk V48 L39 Z) H := hP
              have hD : va_D A (xw ad kk V48 L39 Z) := hD
              have hMV48 : rgd bX V48 := hMV48
              have ajV48 : agr [] [49, 58, 59, 60] V38 V48 := ajV48
              have agV48 : agr [(1, 3), (1, 6), (6, 8), (6, 9), (6, 10)] [43, 44, 49, 58, 59, 60] V V48 := agV38.tr ajV48 (by decide) (by decide)
              have fwV48 : frX (xR b) V V48 := frX.tr fwV38 (frX_IB fyV48 (by first | omega | ((try (have i_t19 := Imp.go t19 (imp_a (rgz16.1) (rgz16.2) (f25)))); omega) | ((try (have i_t37 := Imp.go t37 (by omega))); (try (have i_t20 := Imp.go t20 (by omega))); (try (have i_t19 := Imp.go t19 (by omega))); (try (have i_tx := Imp.go tx (by omega))); first | omega | ((try (have i_cd := Imp.go cd (by omega))); (try (have i_cd := Imp.go cd (by omega))); (try (have i_tx := Imp.go tx (by omega))); (try (have i_t19 := Imp.go t19 (by omega))); (try (have i_t20 := Imp.go t20 (by omega))); (try (have i_t37 := Imp.go t37 (by omega))); omega))) (by first | omega | ((try (have i_t19 := Imp.go t19 (imp_a (rgz16.1) (rgz16.2) (f25)))); omega) | ((try (have i_t37 := Imp.go t37 (by omega))); (try (have i_t20 := Imp.go t20 (by omega))); (try (have i_t19 := Imp.go t19 (by omega))); (try (have i_tx := Imp.go tx (by omega))); first | omega | ((try (have i_cd := Imp.go cd (by omega))); (try (have i_cd := Imp.go cd (by omega))); (try (have i_tx := Imp.go tx (by omega))); (try (have i_t19 := Imp.go t19 (by omega))); (try (have i_t20 := Imp.go t20 (by omega))); (try (have i_t37 := Imp.go t37 (by omega))); omega))))
              refine lv_iconst (v := 1) hx hb dX1_readNeed_148 (by decide) ?_
              have pq50 : (V48 1 3).toInt = ((V38 1 3)).toInt := congrArg Int32.toInt (ajV48 1 3 rfl)
              have px51 : px V V48 b := px.tr (px.rf : px V V b) (px.ag (show agr [(1, 3), (1, 6), (6, 8), (6, 9), (6, 10)] [49, 58, 59, 60] V V48 from (agr.tr (agr.tr (agr.tr (agr.tr (agr.tr agr.rf ajV9 (by decide) (by decide)) ajV21 (by decide) (by decide)) ajV29 (by decide) (by decide)) ajV38 (by decide) (by decide)) ajV48 (by decide) (by decide))) (fun _ => rfl) (fun _ => rfl) (fun _ => rfl))
              have tx52 : TX V48 b := TX.ag tx (show agr [(1, 3), (1, 6), (6, 8), (6, 9), (6, 10)] [49, 58, 59, 60] V V48 from (agr.tr (agr.tr (agr.tr (agr.tr (agr.tr agr.rf ajV9 (by decide) (by decide)) ajV21 (by decide) (by decide)) ajV29 (by decide) (by decide)) ajV38 (by decide) (by decide)) ajV48 (by decide) (by decide))) px51 (fun _ => rfl) (fun _ => rfl) (fun _ => rfl) (fun _ => rfl) (fun _ => rfl) (fun _ => rfl)
              have cd53 : CD V48 b := ⟨CB.ag cd.1 (show agr [(1, 3), (1, 6), (6, 8), (6, 9), (6, 10)] [49, 58, 59, 60] V V48 from (agr.tr (agr.tr (agr.tr (agr.tr (agr.tr agr.rf ajV9 (by decide) (by decide)) ajV21 (by decide) (by decide)) ajV29 (by decide) (by decide)) ajV38 (by decide) (by decide)) ajV48 (by decide) (by decide))) (fun _ => rfl) (fun _ => rfl), CO.ag cd.2 (show agr [(1, 3), (1, 6), (6, 8), (6, 9), (6, 10)] [49, 58, 59, 60] V V48 from (agr.tr (agr.tr (agr.tr (agr.tr (agr.tr agr.rf ajV9 (by decide) (by decide)) ajV21 (by decide) (by decide)) ajV29 (by decide) (by decide)) ajV38 (by decide) (by decide)) ajV48 (by decide) (by decide))) (fun _ => rfl) (fun _ => rfl)⟩
              have px54 : px V V48 b := px.tr (px.rf : px V V b) (px.ag (show agr [(1, 3), (1, 6), (6, 8), (6, 9), (6, 10)] [49, 58, 59, 60] V V48 from (agr.tr (agr.tr (agr.tr (agr.tr (agr.tr agr.rf ajV9 (by decide) (by decide)) ajV21 (by decide) (by decide)) ajV29 (by decide) (by decide)) ajV38 (by decide) (by decide)) ajV48 (by decide) (by decide))) (fun _ => rfl) (fun _ => rfl) (fun _ => rfl))
              exact W.zret (v := 1) hx hb hr rfl (fun t ht hW => ⟨⟨1, (V48, L39), rfl, ⟨hMV48, agV48, alL39, fwV48, (by decide), tx52, cd53, px54, (Imp.mk (fun hp => absurd hp (by decide)))⟩, by rw [ht]; exact hP, va_K.moved hW.alike hK, hD⟩, hS.F ht⟩) hS.2.2 dX1_readNeed_149
            · skip
              have f55 : z34.toInt = 0 := b_eq rfl (by decide) c40
              refine lv_iconst (v := 0) hx hb dX1_readNeed_136 (by decide) ?_
              have px56 : px V V38 b := px.tr (px.rf : px V V b) (px.ag (show agr [(1, 3), (1, 6), (6, 8), (6, 9), (6, 10)] [] V V38 from (agr.tr (agr.tr (agr.tr (agr.tr agr.rf ajV9 (by decide) (by decide)) ajV21 (by decide) (by decide)) ajV29 (by decide) (by decide)) ajV38 (by decide) (by decide))) (fun _ => rfl) (fun _ => rfl) (fun _ => rfl))
              have tx57 : TX V38 b := TX.ag tx (show agr [(1, 3), (1, 6), (6, 8), (6, 9), (6, 10)] [] V V38 from (agr.tr (agr.tr (agr.tr (agr.tr agr.rf ajV9 (by decide) (by decide)) ajV21 (by decide) (by decide)) ajV29 (by decide) (by decide)) ajV38 (by decide) (by decide))) px56 (fun _ => rfl) (fun _ => rfl) (fun _ => rfl) (fun _ => rfl) (fun _ => rfl) (fun _ => rfl)
              have cd58 : CD V38 b := ⟨CB.ag cd.1 (show agr [(1, 3), (1, 6), (6, 8), (6, 9), (6, 10)] [] V V38 from (agr.tr (agr.tr (agr.tr (agr.tr agr.rf ajV9 (by decide) (by decide)) ajV21 (by decide) (by decide)) ajV29 (by decide) (by decide)) ajV38 (by decide) (by decide))) (fun _ => rfl) (fun _ => rfl), CO.ag cd.2 (show agr [(1, 3), (1, 6), (6, 8), (6, 9), (6, 10)] [] V V38 from (agr.tr (agr.tr (agr.tr (agr.tr agr.rf ajV9 (by decide) (by decide)) ajV21 (by decide) (by decide)) ajV29 (by decide) (by decide)) ajV38 (by decide) (by decide))) (fun _ => rfl) (fun _ => rfl)⟩
              have px59 : px V V38 b := px.tr (px.rf : px V V b) (px.ag (show agr [(1, 3), (1, 6), (6, 8), (6, 9), (6, 10)] [] V V38 from (agr.tr (agr.tr (agr.tr (agr.tr agr.rf ajV9 (by decide) (by decide)) ajV21 (by decide) (by decide)) ajV29 (by decide) (by decide)) ajV38 (by decide) (by decide))) (fun _ => rfl) (fun _ => rfl) (fun _ => rfl))
              exact W.zret (v := 0) hx hb hr rfl (fun t ht hW => ⟨⟨0, (V38, L39), rfl, ⟨hMV38, agV38, alL39, fwV38, (by decide), tx57, cd58, px59, (Imp.mk (fun _ => (show 1 ≤ (V38 1 3).toInt from by first | exact om_f8d8213eda45 ((Imp.go t37 (f55))) | first | omega | ((try (have i_t37 := Imp.go t37 (f55))); (try (have i_t19 := Imp.go t19 (imp_a (rgz16.1) (rgz16.2) (f25)))); omega) | ((try (have i_t37 := Imp.go t37 (by omega))); (try (have i_t20 := Imp.go t20 (by omega))); (try (have i_t19 := Imp.go t19 (by omega))); (try (have i_tx := Imp.go tx (by omega))); first | omega | ((try (have i_cd := Imp.go cd (by omega))); (try (have i_cd := Imp.go cd (by omega))); (try (have i_tx := Imp.go tx (by omega))); (try (have i_t19 := Imp.go t19 (by omega))); (try (have i_t20 := Imp.go t20 (by omega))); (try (have i_t37 := Imp.go t37 (by omega))); omega)))))⟩, by rw [ht]; exact hP, va_K.moved hW.alike hK, hD⟩, hS.F ht⟩) hS.2.2 dX1_readNeed_137
          · skip
            have f60 : ((V29 6 9)).toInt = 133 := b_eq rfl (by decide) c31
            refine lv_aload_n hx hb dX1_readNeed_113 rfl (lv_at hl 3 rfl) ?_
            have pq61 : (V29 1 1).toInt = ((V 1 1)).toInt := congrArg Int32.toInt ((ajV29 1 1 rfl).trans ((ajV21 1 1 rfl).trans (ajV9 1 1 rfl)))
            refine gA_int (gA_runV (As := []) (rest := []) (ci := 1) (q0 := 1) hx hb hml hown hg hP hD hK hS hA hnw hgk (x_takeCalled l D ks H.size ad kk V29 L30 Z (b) hMV29 (show b < 2 from by first | exact om_f940a4667dd6 hb2 | first | omega | ((try (have i_t19 := Imp.go t19 (imp_a (rgz16.1) (rgz16.2) (f25)))); omega) | ((try (have i_t20 := Imp.go t20 (by omega))); (try (have i_t19 := Imp.go t19 (by omega))); (try (have i_tx := Imp.go tx (by omega))); (try (have i_cd := Imp.go cd (by omega))); first | omega | ((try (have i_cd := Imp.go cd (by omega))); (try (have i_tx := Imp.go tx (by omega))); (try (have i_t19 := Imp.go t19 (by omega))); (try (have i_t20 := Imp.go t20 (by omega))); omega))) (show (V29 1 1).toInt = (b : Int) from by first | exact om_adf531c77a0d rbk pq61 | first | omega | ((try (have i_t19 := Imp.go t19 (imp_a (rgz16.1) (rgz16.2) (f25)))); omega) | ((try (have i_t20 := Imp.go t20 (by omega))); (try (have i_t19 := Imp.go t19 (by omega))); (try (have i_tx := Imp.go tx (by omega))); (try (have i_cd := Imp.go cd (by omega))); first | omega | ((try (have i_cd := Imp.go cd (by omega))); (try (have i_tx := Imp.go tx (by omega))); (try (have i_t19 := Imp.go t19 (by omega))); (try (have i_t20 := Imp.go t20 (by omega))); omega)))) w923 w925 w15 w162 w926 rfl xgReader hdV_yX1_takeCalled ⟨Nat.le_of_ble_eq_true rfl, Nat.le_of_ble_eq_true rfl⟩ rfl hl.1 rfl (Nat.le_of_ble_eq_true rfl) dX1_readNeed_114 ⟨Nat.le_of_ble_eq_true rfl, Nat.le_of_ble_eq_true rfl⟩) hP hD hK hS hA (fun z62 u63 H locs w64 hP hD hK hS => ?_)
            obtain ⟨V67, L68⟩ := u63
            obtain ⟨hMV67, ajV67, axL68, fyV67, rgz62, t65, t66⟩ := w64
            have alL68 : agL [6, 44] L L68 := agL.tr alL30 axL68 (by decide)
            have hP : va_P D vwCl (xw ad kk V67 L68 Z) H := hP
            have hD : va_D A (xw ad kk V67 L68 Z) := hD
            have hMV67 : rgd bX V67 := hMV67
            have ajV67 : agr [(1, 3), (1, 6), (6, 8), (6, 9), (6, 10)] [43, 44] V29 V67 := ajV67
            have agV67 : agr [(1, 3), (1, 6), (6, 8), (6, 9), (6, 10)] [43, 44, 49, 58, 59, 60] V V67 := agV29.tr ajV67 (by decide) (by decide)
            have fwV67 : frX (xR b) V V67 := frX.tr fwV29 (fyV67)
            have rgz62 : 0 ≤ z62.toInt ∧ z62.toInt ≤ 1 := rgz62
            have t65 : px V29 V67 b := t65
            have t66 : Imp (z62.toInt = 0) (1 ≤ (V67 1 3).toInt) := t66
            refine lv_if_ne (tgt := 122) hx hb dX1_readNeed_117 (by decide) (fun c69 => ?_) (fun c69 => ?_)
            · skip
              have f70 : z62.toInt ≠ 0 := b_neq rfl (by decide) c69
              refine lv_aload_n hx hb dX1_readNeed_122 rfl (lv_at hl 3 rfl) ?_
              refine va_get (D := D) (ci := 1) (v := .int (V67 1 6)) (fs := (xfReader ad V67 L68 Z)) (C := RX1) (T := TX1) (N := 9) hx hb hg inX1 hown hK hP 1 xgReader rfl 6 (by decide) (hg _ w310) (fun _ h9 => h9) rfl dX1_readNeed_123 ?_
              have r71 : (-1) ≤ ((V67 1 6)).toInt ∧ ((V67 1 6)).toInt ≤ 23 := hMV67 1 6
              refine lv_istore_n (lv' := [(3, .int (V67 1 6)), (2, .int (V21 1 6)), (1, .int 0), (0, .ref (ad 1))]) hx hb dX1_readNeed_126 rfl hl (by decide) rfl (fun ls hl => ?_)
              refine lv_aload_n hx hb dX1_readNeed_127 rfl (lv_at hl 3 rfl) ?_
              refine lv_bipush (v := 59) hx hb dX1_readNeed_128 (by decide) ?_
              have r72 : Int32.toInt 59 = 59 := by decide
              refine gA_int (gA_runV (As := [.int 59]) (rest := []) (ci := 1) (q0 := 1) hx hb hml hown hg hP hD hK hS hA hnw hgk (x_take l D ks H.size ad kk V67 L68 Z 59 hMV67 ) w893 w895 w10 w162 w896 rfl xgReader hdV_yX1_take ⟨Nat.le_of_ble_eq_true rfl, Nat.le_of_ble_eq_true rfl⟩ rfl hl.1 rfl (Nat.le_of_ble_eq_true rfl) dX1_readNeed_130 ⟨Nat.le_of_ble_eq_true rfl, Nat.le_of_ble_eq_true rfl⟩) hP hD hK hS hA (fun z73 u74 H locs w75 hP hD hK hS => ?_)
              obtain ⟨V77, L78⟩ := u74
              obtain ⟨hMV77, ajV77, axL78, rgz73, t76⟩ := w75
              have alL78 : agL [6, 44] L L78 := agL.tr alL68 axL78 (by decide)
              have hP : va_P D vwCl (xw ad kk V77 L78 Z) H := hP
              have hD : va_D A (xw ad kk V77 L78 Z) := hD
              have hMV77 : rgd bX V77 := hMV77
              have ajV77 : agr [(1, 3), (6, 8), (6, 9), (6, 10)] [] V67 V77 := ajV77
              have agV77 : agr [(1, 3), (1, 6), (6, 8), (6, 9), (6, 10)] [43, 44, 49, 58, 59, 60] V V77 := agV67.tr ajV77 (by decide) (by decide)
              have fwV77 : frX (xR b) V V77 := frX.tr fwV67 (frX.ag ajV77 (by decide) (by decide))
              have rgz73 : 0 ≤ z73.toInt ∧ z73.toInt ≤ 1 := rgz73
              have t76 : Imp (z73.toInt = 0) (1 ≤ (V77 1 3).toInt) := t76
              refine lv_if_ne (tgt := 138) hx hb dX1_readNeed_133 (by decide) (fun c79 => ?_) (fun c79 => ?_)
              · skip
                have f80 : z73.toInt ≠ 0 := b_neq rfl (by decide) c79
                refine lv_aload_n hx hb dX1_readNeed_138 rfl (lv_at hl 3 rfl) ?_
                refine va_get (D := D) (ci := 1) (v := rfN ad 72 (V77 1 2)) (fs := (xfReader ad V77 L78 Z)) (C := RX1) (T := TX1) (N := 9) hx hb hg inX1 hown hK hP 1 xgReader rfl 2 (by decide) (hg _ w306) (fun _ h9 => h9) rfl dX1_readNeed_139 ?_
                have pq81 : (V77 1 2).toInt = ((V 1 2)).toInt := congrArg Int32.toInt ((ajV77 1 2 rfl).trans ((ajV67 1 2 rfl).trans ((ajV29 1 2 rfl).trans ((ajV21 1 2 rfl).trans (ajV9 1 2 rfl)))))
                refine g_topv (v := .ref (ad (72 + go))) (rfN_r (by first | omega | ((try (have i_t19 := Imp.go t19 (imp_a (rgz16.1) (rgz16.2) (f25)))); omega) | ((try (have i_t76 := Imp.go t76 (by omega))); (try (have i_t66 := Imp.go t66 (by omega))); (try (have i_t20 := Imp.go t20 (by omega))); (try (have i_t19 := Imp.go t19 (by omega))); first | omega | ((try (have i_tx := Imp.go tx (by omega))); (try (have i_cd := Imp.go cd (by omega))); (try (have i_cd := Imp.go cd (by omega))); (try (have i_tx := Imp.go tx (by omega))); first | omega | ((try (have i_t19 := Imp.go t19 (by omega))); (try (have i_t20 := Imp.go t20 (by omega))); (try (have i_t66 := Imp.go t66 (by omega))); (try (have i_t76 := Imp.go t76 (by omega))); omega))))) ?_
                refine lv_iload_n hx hb dX1_readNeed_142 rfl (lv_at hl 2 rfl) ?_
                refine lv_iload_n hx hb dX1_readNeed_143 rfl (lv_at hl 1 rfl) ?_
                refine lv_iload_n hx hb dX1_readNeed_144 rfl (lv_at hl 0 rfl) ?_
                have r82 : Int32.toInt 0 = 0 := by decide
                refine gA_void (gA_runV (As := [.int 0, .int (V21 1 6), .int (V67 1 6)]) (rest := []) (ci := 3) (q0 := (72 + go)) hx hb hml hown hg hP hD hK hS hA hnw hgk (x_addNeed l D ks H.size ad kk V77 L78 Z 0 (V21 1 6) (V67 1 6) (go) hMV77 (show go < 48 from by first | exact om_ed409a757601 hb2 hgh | first | omega | ((try (have i_t19 := Imp.go t19 (imp_a (rgz16.1) (rgz16.2) (f25)))); omega) | ((try (have i_t76 := Imp.go t76 (by omega))); (try (have i_t66 := Imp.go t66 (by omega))); (try (have i_t20 := Imp.go t20 (by omega))); (try (have i_t19 := Imp.go t19 (by omega))); first | omega | ((try (have i_tx := Imp.go tx (by omega))); (try (have i_cd := Imp.go cd (by omega))); (try (have i_cd := Imp.go cd (by omega))); (try (have i_tx := Imp.go tx (by omega))); first | omega | ((try (have i_t19 := Imp.go t19 (by omega))); (try (have i_t20 := Imp.go t20 (by omega))); (try (have i_t66 := Imp.go t66 (by omega))); (try (have i_t76 := Imp.go t76 (by omega))); omega))))) w1011 w1012 w1013 w169 w1014 rfl (xgComp hgo) hdV_yX3_addNeed ⟨Nat.le_of_ble_eq_true rfl, Nat.le_of_ble_eq_true rfl⟩ rfl hl.1 rfl (Nat.le_of_ble_eq_true rfl) dX1_readNeed_145 ⟨Nat.le_of_ble_eq_true rfl, Nat.le_of_ble_eq_true rfl⟩) hP hD hK hS hA (fun u84 H locs w85 hP hD hK hS => ?_)
                obtain ⟨V86, L87⟩ := u84
                obtain ⟨hMV86, ajV86, axL87, fyV86⟩ := w85
                have axL87 : L78 = L87 := Eq.symm axL87
                subst axL87
                have hP : va_P D vwCl (xw ad kk V86 L78 Z) H := hP
                have hD : va_D A (xw ad kk V86 L78 Z) := hD
                have hMV86 : rgd bX V86 := hMV86
                have ajV86 : agr [] [49, 58, 59, 60] V77 V86 := ajV86
                have agV86 : agr [(1, 3), (1, 6), (6, 8), (6, 9), (6, 10)] [43, 44, 49, 58, 59, 60] V V86 := agV77.tr ajV86 (by decide) (by decide)
                have fwV86 : frX (xR b) V V86 := frX.tr fwV77 (frX_IB fyV86 (by first | omega | ((try (have i_t19 := Imp.go t19 (imp_a (rgz16.1) (rgz16.2) (f25)))); omega) | ((try (have i_t76 := Imp.go t76 (by omega))); (try (have i_t66 := Imp.go t66 (by omega))); (try (have i_t20 := Imp.go t20 (by omega))); (try (have i_t19 := Imp.go t19 (by omega))); first | omega | ((try (have i_tx := Imp.go tx (by omega))); (try (have i_cd := Imp.go cd (by omega))); (try (have i_cd := Imp.go cd (by omega))); (try (have i_tx := Imp.go tx (by omega))); first | omega | ((try (have i_t19 := Imp.go t19 (by omega))); (try (have i_t20 := Imp.go t20 (by omega))); (try (have i_t66 := Imp.go t66 (by omega))); (try (have i_t76 := Imp.go t76 (by omega))); omega)))) (by first | omega | ((try (have i_t19 := Imp.go t19 (imp_a (rgz16.1) (rgz16.2) (f25)))); omega) | ((try (have i_t76 := Imp.go t76 (by omega))); (try (have i_t66 := Imp.go t66 (by omega))); (try (have i_t20 := Imp.go t20 (by omega))); (try (have i_t19 := Imp.go t19 (by omega))); first | omega | ((try (have i_tx := Imp.go tx (by omega))); (try (have i_cd := Imp.go cd (by omega))); (try (have i_cd := Imp.go cd (by omega))); (try (have i_tx := Imp.go tx (by omega))); first | omega | ((try (have i_t19 := Imp.go t19 (by omega))); (try (have i_t20 := Imp.go t20 (by omega))); (try (have i_t66 := Imp.go t66 (by omega))); (try (have i_t76 := Imp.go t76 (by omega))); omega)))))
                refine lv_iconst (v := 1) hx hb dX1_readNeed_148 (by decide) ?_
                have pq88 : (V86 1 3).toInt = ((V77 1 3)).toInt := congrArg Int32.toInt (ajV86 1 3 rfl)
                have px89 : px V V29 b := px.tr (px.rf : px V V b) (px.ag (show agr [(1, 3), (1, 6), (6, 8), (6, 9), (6, 10)] [] V V29 from (agr.tr (agr.tr (agr.tr agr.rf ajV9 (by decide) (by decide)) ajV21 (by decide) (by decide)) ajV29 (by decide) (by decide))) (fun _ => rfl) (fun _ => rfl) (fun _ => rfl))
                have px90 : px V V67 b := px.tr px89 t65
                have px91 : px V V86 b := px.tr px90 (px.ag (show agr [(1, 3), (6, 8), (6, 9), (6, 10)] [49, 58, 59, 60] V67 V86 from (agr.tr (agr.tr agr.rf ajV77 (by decide) (by decide)) ajV86 (by decide) (by decide))) (fun _ => rfl) (fun _ => rfl) (fun _ => rfl))
                have tx92 : TX V86 b := TX.ag tx (show agr [(1, 3), (1, 6), (6, 8), (6, 9), (6, 10)] [43, 44, 49, 58, 59, 60] V V86 from (agr.tr (agr.tr (agr.tr (agr.tr (agr.tr (agr.tr agr.rf ajV9 (by decide) (by decide)) ajV21 (by decide) (by decide)) ajV29 (by decide) (by decide)) ajV67 (by decide) (by decide)) ajV77 (by decide) (by decide)) ajV86 (by decide) (by decide))) px91 (fun _ => rfl) (fun _ => rfl) (fun _ => rfl) (fun _ => rfl) (fun _ => rfl) (fun _ => rfl)
                have cd93 : CD V86 b := ⟨CB.ag cd.1 (show agr [(1, 3), (1, 6), (6, 8), (6, 9), (6, 10)] [43, 44, 49, 58, 59, 60] V V86 from (agr.tr (agr.tr (agr.tr (agr.tr (agr.tr (agr.tr agr.rf ajV9 (by decide) (by decide)) ajV21 (by decide) (by decide)) ajV29 (by decide) (by decide)) ajV67 (by decide) (by decide)) ajV77 (by decide) (by decide)) ajV86 (by decide) (by decide))) (fun _ => rfl) (fun _ => rfl), CO.ag cd.2 (show agr [(1, 3), (1, 6), (6, 8), (6, 9), (6, 10)] [43, 44, 49, 58, 59, 60] V V86 from (agr.tr (agr.tr (agr.tr (agr.tr (agr.tr (agr.tr agr.rf ajV9 (by decide) (by decide)) ajV21 (by decide) (by decide)) ajV29 (by decide) (by decide)) ajV67 (by decide) (by decide)) ajV77 (by decide) (by decide)) ajV86 (by decide) (by decide))) (fun _ => rfl) (fun _ => rfl)⟩
                have px94 : px V V29 b := px.tr (px.rf : px V V b) (px.ag (show agr [(1, 3), (1, 6), (6, 8), (6, 9), (6, 10)] [] V V29 from (agr.tr (agr.tr (agr.tr agr.rf ajV9 (by decide) (by decide)) ajV21 (by decide) (by decide)) ajV29 (by decide) (by decide))) (fun _ => rfl) (fun _ => rfl) (fun _ => rfl))
                have px95 : px V V67 b := px.tr px94 t65
                have px96 : px V V86 b := px.tr px95 (px.ag (show agr [(1, 3), (6, 8), (6, 9), (6, 10)] [49, 58, 59, 60] V67 V86 from (agr.tr (agr.tr agr.rf ajV77 (by decide) (by decide)) ajV86 (by decide) (by decide))) (fun _ => rfl) (fun _ => rfl) (fun _ => rfl))
                exact W.zret (v := 1) hx hb hr rfl (fun t ht hW => ⟨⟨1, (V86, L78), rfl, ⟨hMV86, agV86, alL78, fwV86, (by decide), tx92, cd93, px96, (Imp.mk (fun hp => absurd hp (by decide)))⟩, by rw [ht]; exact hP, va_K.moved hW.alike hK, hD⟩, hS.F ht⟩) hS.2.2 dX1_readNeed_149
              · skip
                have f97 : z73.toInt = 0 := b_eq rfl (by decide) c79
                refine lv_iconst (v := 0) hx hb dX1_readNeed_136 (by decide) ?_
                have px98 : px V V29 b := px.tr (px.rf : px V V b) (px.ag (show agr [(1, 3), (1, 6), (6, 8), (6, 9), (6, 10)] [] V V29 from (agr.tr (agr.tr (agr.tr agr.rf ajV9 (by decide) (by decide)) ajV21 (by decide) (by decide)) ajV29 (by decide) (by decide))) (fun _ => rfl) (fun _ => rfl) (fun _ => rfl))
                have px99 : px V V67 b := px.tr px98 t65
                have px100 : px V V77 b := px.tr px99 (px.ag (show agr [(1, 3), (6, 8), (6, 9), (6, 10)] [] V67 V77 from (agr.tr agr.rf ajV77 (by decide) (by decide))) (fun _ => rfl) (fun _ => rfl) (fun _ => rfl))
                have tx101 : TX V77 b := TX.ag tx (show agr [(1, 3), (1, 6), (6, 8), (6, 9), (6, 10)] [43, 44] V V77 from (agr.tr (agr.tr (agr.tr (agr.tr (agr.tr agr.rf ajV9 (by decide) (by decide)) ajV21 (by decide) (by decide)) ajV29 (by decide) (by decide)) ajV67 (by decide) (by decide)) ajV77 (by decide) (by decide))) px100 (fun _ => rfl) (fun _ => rfl) (fun _ => rfl) (fun _ => rfl) (fun _ => rfl) (fun _ => rfl)
                have cd102 : CD V77 b := ⟨CB.ag cd.1 (show agr [(1, 3), (1, 6), (6, 8), (6, 9), (6, 10)] [43, 44] V V77 from (agr.tr (agr.tr (agr.tr (agr.tr (agr.tr agr.rf ajV9 (by decide) (by decide)) ajV21 (by decide) (by decide)) ajV29 (by decide) (by decide)) ajV67 (by decide) (by decide)) ajV77 (by decide) (by decide))) (fun _ => rfl) (fun _ => rfl), CO.ag cd.2 (show agr [(1, 3), (1, 6), (6, 8), (6, 9), (6, 10)] [43, 44] V V77 from (agr.tr (agr.tr (agr.tr (agr.tr (agr.tr agr.rf ajV9 (by decide) (by decide)) ajV21 (by decide) (by decide)) ajV29 (by decide) (by decide)) ajV67 (by decide) (by decide)) ajV77 (by decide) (by decide))) (fun _ => rfl) (fun _ => rfl)⟩
                have px103 : px V V29 b := px.tr (px.rf : px V V b) (px.ag (show agr [(1, 3), (1, 6), (6, 8), (6, 9), (6, 10)] [] V V29 from (agr.tr (agr.tr (agr.tr agr.rf ajV9 (by decide) (by decide)) ajV21 (by decide) (by decide)) ajV29 (by decide) (by decide))) (fun _ => rfl) (fun _ => rfl) (fun _ => rfl))
                have px104 : px V V67 b := px.tr px103 t65
                have px105 : px V V77 b := px.tr px104 (px.ag (show agr [(1, 3), (6, 8), (6, 9), (6, 10)] [] V67 V77 from (agr.tr agr.rf ajV77 (by decide) (by decide))) (fun _ => rfl) (fun _ => rfl) (fun _ => rfl))
                exact W.zret (v := 0) hx hb hr rfl (fun t ht hW => ⟨⟨0, (V77, L78), rfl, ⟨hMV77, agV77, alL78, fwV77, (by decide), tx101, cd102, px105, (Imp.mk (fun _ => (show 1 ≤ (V77 1 3).toInt from by first | exact om_f8d8213eda45 ((Imp.go t76 (f97))) | first | omega | ((try (have i_t76 := Imp.go t76 (f97))); (try (have i_t19 := Imp.go t19 (imp_a (rgz16.1) (rgz16.2) (f25)))); omega) | ((try (have i_t76 := Imp.go t76 (by omega))); (try (have i_t66 := Imp.go t66 (by omega))); (try (have i_t20 := Imp.go t20 (by omega))); (try (have i_t19 := Imp.go t19 (by omega))); first | omega | ((try (have i_tx := Imp.go tx (by omega))); (try (have i_cd := Imp.go cd (by omega))); (try (have i_cd := Imp.go cd (by omega))); (try (have i_tx := Imp.go tx (by omega))); first | omega | ((try (have i_t19 := Imp.go t19 (by omega))); (try (have i_t20 := Imp.go t20 (by omega))); (try (have i_t66 := Imp.go t66 (by omega))); (try (have i_t76 := Imp.go t76 (by omega))); omega))))))⟩, by rw [ht]; exact hP, va_K.moved hW.alike hK, hD⟩, hS.F ht⟩) hS.2.2 dX1_readNeed_137
            · skip
              have f106 : z62.toInt = 0 := b_eq rfl (by decide) c69
              refine lv_iconst (v := 0) hx hb dX1_readNeed_120 (by decide) ?_
              have px107 : px V V29 b := px.tr (px.rf : px V V b) (px.ag (show agr [(1, 3), (1, 6), (6, 8), (6, 9), (6, 10)] [] V V29 from (agr.tr (agr.tr (agr.tr agr.rf ajV9 (by decide) (by decide)) ajV21 (by decide) (by decide)) ajV29 (by decide) (by decide))) (fun _ => rfl) (fun _ => rfl) (fun _ => rfl))
              have px108 : px V V67 b := px.tr px107 t65
              have tx109 : TX V67 b := TX.ag tx (show agr [(1, 3), (1, 6), (6, 8), (6, 9), (6, 10)] [43, 44] V V67 from (agr.tr (agr.tr (agr.tr (agr.tr agr.rf ajV9 (by decide) (by decide)) ajV21 (by decide) (by decide)) ajV29 (by decide) (by decide)) ajV67 (by decide) (by decide))) px108 (fun _ => rfl) (fun _ => rfl) (fun _ => rfl) (fun _ => rfl) (fun _ => rfl) (fun _ => rfl)
              have cd110 : CD V67 b := ⟨CB.ag cd.1 (show agr [(1, 3), (1, 6), (6, 8), (6, 9), (6, 10)] [43, 44] V V67 from (agr.tr (agr.tr (agr.tr (agr.tr agr.rf ajV9 (by decide) (by decide)) ajV21 (by decide) (by decide)) ajV29 (by decide) (by decide)) ajV67 (by decide) (by decide))) (fun _ => rfl) (fun _ => rfl), CO.ag cd.2 (show agr [(1, 3), (1, 6), (6, 8), (6, 9), (6, 10)] [43, 44] V V67 from (agr.tr (agr.tr (agr.tr (agr.tr agr.rf ajV9 (by decide) (by decide)) ajV21 (by decide) (by decide)) ajV29 (by decide) (by decide)) ajV67 (by decide) (by decide))) (fun _ => rfl) (fun _ => rfl)⟩
              have px111 : px V V29 b := px.tr (px.rf : px V V b) (px.ag (show agr [(1, 3), (1, 6), (6, 8), (6, 9), (6, 10)] [] V V29 from (agr.tr (agr.tr (agr.tr agr.rf ajV9 (by decide) (by decide)) ajV21 (by decide) (by decide)) ajV29 (by decide) (by decide))) (fun _ => rfl) (fun _ => rfl) (fun _ => rfl))
              have px112 : px V V67 b := px.tr px111 t65
              exact W.zret (v := 0) hx hb hr rfl (fun t ht hW => ⟨⟨0, (V67, L68), rfl, ⟨hMV67, agV67, alL68, fwV67, (by decide), tx109, cd110, px112, (Imp.mk (fun _ => (show 1 ≤ (V67 1 3).toInt from by first | exact om_f8d8213eda45 ((Imp.go t66 (f106))) | first | omega | ((try (have i_t66 := Imp.go t66 (f106))); (try (have i_t19 := Imp.go t19 (imp_a (rgz16.1) (rgz16.2) (f25)))); omega) | ((try (have i_t66 := Imp.go t66 (by omega))); (try (have i_t20 := Imp.go t20 (by omega))); (try (have i_t19 := Imp.go t19 (by omega))); (try (have i_tx := Imp.go tx (by omega))); first | omega | ((try (have i_cd := Imp.go cd (by omega))); (try (have i_cd := Imp.go cd (by omega))); (try (have i_tx := Imp.go tx (by omega))); (try (have i_t19 := Imp.go t19 (by omega))); (try (have i_t20 := Imp.go t20 (by omega))); (try (have i_t66 := Imp.go t66 (by omega))); omega)))))⟩, by rw [ht]; exact hP, va_K.moved hW.alike hK, hD⟩, hS.F ht⟩) hS.2.2 dX1_readNeed_121
        · skip
          have f113 : z16.toInt = 0 := b_eq rfl (by decide) c24
          refine lv_iconst (v := 0) hx hb dX1_readNeed_79 (by decide) ?_
          have px114 : px V V21 b := px.tr (px.rf : px V V b) (px.ag (show agr [(1, 3), (1, 6), (6, 8), (6, 9), (6, 10)] [] V V21 from (agr.tr (agr.tr agr.rf ajV9 (by decide) (by decide)) ajV21 (by decide) (by decide))) (fun _ => rfl) (fun _ => rfl) (fun _ => rfl))
          have tx115 : TX V21 b := TX.ag tx (show agr [(1, 3), (1, 6), (6, 8), (6, 9), (6, 10)] [] V V21 from (agr.tr (agr.tr agr.rf ajV9 (by decide) (by decide)) ajV21 (by decide) (by decide))) px114 (fun _ => rfl) (fun _ => rfl) (fun _ => rfl) (fun _ => rfl) (fun _ => rfl) (fun _ => rfl)
          have cd116 : CD V21 b := ⟨CB.ag cd.1 (show agr [(1, 3), (1, 6), (6, 8), (6, 9), (6, 10)] [] V V21 from (agr.tr (agr.tr agr.rf ajV9 (by decide) (by decide)) ajV21 (by decide) (by decide))) (fun _ => rfl) (fun _ => rfl), CO.ag cd.2 (show agr [(1, 3), (1, 6), (6, 8), (6, 9), (6, 10)] [] V V21 from (agr.tr (agr.tr agr.rf ajV9 (by decide) (by decide)) ajV21 (by decide) (by decide))) (fun _ => rfl) (fun _ => rfl)⟩
          have px117 : px V V21 b := px.tr (px.rf : px V V b) (px.ag (show agr [(1, 3), (1, 6), (6, 8), (6, 9), (6, 10)] [] V V21 from (agr.tr (agr.tr agr.rf ajV9 (by decide) (by decide)) ajV21 (by decide) (by decide))) (fun _ => rfl) (fun _ => rfl) (fun _ => rfl))
          exact W.zret (v := 0) hx hb hr rfl (fun t ht hW => ⟨⟨0, (V21, L10), rfl, ⟨hMV21, agV21, alL10, fwV21, (by decide), tx115, cd116, px117, (Imp.mk (fun _ => (show 1 ≤ (V21 1 3).toInt from by first | exact om_f8d8213eda45 ((Imp.go t20 (f113))) | first | omega | ((try (have i_t20 := Imp.go t20 (f113))); omega) | ((try (have i_t20 := Imp.go t20 (by omega))); (try (have i_t19 := Imp.go t19 (by omega))); (try (have i_tx := Imp.go tx (by omega))); (try (have i_cd := Imp.go cd (by omega))); first | omega | ((try (have i_cd := Imp.go cd (by omega))); (try (have i_tx := Imp.go tx (by omega))); (try (have i_t19 := Imp.go t19 (by omega))); (try (have i_t20 := Imp.go t20 (by omega))); omega)))))⟩, by rw [ht]; exact hP, va_K.moved hW.alike hK, hD⟩, hS.F ht⟩) hS.2.2 dX1_readNeed_80
      · skip
        have f118 : ((V9 6 9)).toInt = 139 := b_eq rfl (by decide) c13
        refine lv_iconst (v := 2) hx hb dX1_readNeed_55 (by decide) ?_
        refine lv_goto (tgt := 60) hx hb dX1_readNeed_56 (by decide) ?_
        refine lv_istore_n (lv' := [(1, .int 2), (0, .ref (ad 1))]) hx hb dX1_readNeed_60 rfl hl (by decide) rfl (fun ls hl => ?_)
        refine lv_iload_n hx hb dX1_readNeed_61 rfl (lv_at hl 0 rfl) ?_
        refine lv_if_eq (tgt := 72) hx hb dX1_readNeed_62 (by decide) (fun q => absurd q (by decide)) (fun _ => ?_)
        refine lv_aload_n hx hb dX1_readNeed_65 rfl (lv_at hl 1 rfl) ?_
        refine va_get (D := D) (ci := 1) (v := .ref (ad 6)) (fs := (xfReader ad V9 L10 Z)) (C := RX1) (T := TX1) (N := 9) hx hb hg inX1 hown hK hP 1 xgReader rfl 0 (by decide) (hg _ w304) (fun _ h9 => h9) rfl dX1_readNeed_66 ?_
        refine gA_void (gA_runV (As := []) (rest := []) (ci := 9) (q0 := 6) hx hb hml hown hg hP hD hK hS hA hnw hgk (x_next l D ks H.size ad kk V9 L10 Z  hMV9 ) w871 w852 w853 w157 w854 rfl xgTape hdV_yX9_next ⟨Nat.le_of_ble_eq_true rfl, Nat.le_of_ble_eq_true rfl⟩ rfl hl.1 rfl (Nat.le_of_ble_eq_true rfl) dX1_readNeed_69 ⟨Nat.le_of_ble_eq_true rfl, Nat.le_of_ble_eq_true rfl⟩) hP hD hK hS hA (fun u120 H locs w121 hP hD hK hS => ?_)
        obtain ⟨V122, L123⟩ := u120
        obtain ⟨hMV122, ajV122, axL123⟩ := w121
        have alL123 : agL [6, 44] L L123 := agL.tr alL10 axL123 (by decide)
        have hP : va_P D vwCl (xw ad kk V122 L123 Z) H := hP
        have hD : va_D A (xw ad kk V122 L123 Z) := hD
        have hMV122 : rgd bX V122 := hMV122
        have ajV122 : agr [(6, 8), (6, 9), (6, 10)] [] V9 V122 := ajV122
        have agV122 : agr [(1, 3), (1, 6), (6, 8), (6, 9), (6, 10)] [43, 44, 49, 58, 59, 60] V V122 := agV9.tr ajV122 (by decide) (by decide)
        have fwV122 : frX (xR b) V V122 := frX.tr fwV9 (frX.ag ajV122 (by decide) (by decide))
        refine lv_aload_n hx hb dX1_readNeed_72 rfl (lv_at hl 1 rfl) ?_
        have pq124 : (V122 1 1).toInt = ((V 1 1)).toInt := congrArg Int32.toInt ((ajV122 1 1 rfl).trans (ajV9 1 1 rfl))
        refine gA_int (gA_runV (As := []) (rest := []) (ci := 1) (q0 := 1) hx hb hml hown hg hP hD hK hS hA hnw hgk (x_isToldType l D ks H.size ad kk V122 L123 Z (b) hMV122 (show b < 2 from by first | exact om_f940a4667dd6 hb2 | first | omega | ((try (have i_tx := Imp.go tx (by omega))); (try (have i_cd := Imp.go cd (by omega))); (try (have i_cd := Imp.go cd (by omega))); (try (have i_tx := Imp.go tx (by omega))); omega)) (show (V122 1 1).toInt = (b : Int) from by first | exact om_adf531c77a0d rbk pq124 | first | omega | ((try (have i_tx := Imp.go tx (by omega))); (try (have i_cd := Imp.go cd (by omega))); (try (have i_cd := Imp.go cd (by omega))); (try (have i_tx := Imp.go tx (by omega))); omega))) w888 w890 w9 w162 w891 rfl xgReader hdV_yX1_isToldType ⟨Nat.le_of_ble_eq_true rfl, Nat.le_of_ble_eq_true rfl⟩ rfl hl.1 rfl (Nat.le_of_ble_eq_true rfl) dX1_readNeed_73 ⟨Nat.le_of_ble_eq_true rfl, Nat.le_of_ble_eq_true rfl⟩) hP hD hK hS hA (fun z125 u126 H locs w127 hP hD hK hS => ?_)
        obtain ⟨V130, L131⟩ := u126
        obtain ⟨hMV130, ajV130, axL131, rgz125, t128, t129⟩ := w127
        have axL131 : L123 = L131 := Eq.symm axL131
        subst axL131
        have hP : va_P D vwCl (xw ad kk V130 L123 Z) H := hP
        have hD : va_D A (xw ad kk V130 L123 Z) := hD
        have hMV130 : rgd bX V130 := hMV130
        have ajV130 : agr [(1, 3), (1, 6)] [] V122 V130 := ajV130
        have agV130 : agr [(1, 3), (1, 6), (6, 8), (6, 9), (6, 10)] [43, 44, 49, 58, 59, 60] V V130 := agV122.tr ajV130 (by decide) (by decide)
        have fwV130 : frX (xR b) V V130 := frX.tr fwV122 (frX.ag ajV130 (by decide) (by decide))
        have rgz125 : 0 ≤ z125.toInt ∧ z125.toInt ≤ 1 := rgz125
        have t128 : Imp (z125.toInt = 1) (0 ≤ (V130 1 6).toInt ∧ (V130 1 6).toInt ≤ 23) := t128
        have t129 : Imp (z125.toInt = 0) (1 ≤ (V130 1 3).toInt) := t129
        have r132 : (-1) ≤ ((V130 1 6)).toInt ∧ ((V130 1 6)).toInt ≤ 23 := hMV130 1 6
        refine lv_if_ne (tgt := 81) hx hb dX1_readNeed_76 (by decide) (fun c133 => ?_) (fun c133 => ?_)
        · skip
          have f134 : z125.toInt ≠ 0 := b_neq rfl (by decide) c133
          refine lv_aload_n hx hb dX1_readNeed_81 rfl (lv_at hl 1 rfl) ?_
          refine va_get (D := D) (ci := 1) (v := .int (V130 1 6)) (fs := (xfReader ad V130 L123 Z)) (C := RX1) (T := TX1) (N := 9) hx hb hg inX1 hown hK hP 1 xgReader rfl 6 (by decide) (hg _ w310) (fun _ h9 => h9) rfl dX1_readNeed_82 ?_
          refine lv_istore_n (lv' := [(2, .int (V130 1 6)), (1, .int 2), (0, .ref (ad 1))]) hx hb dX1_readNeed_85 rfl hl (by decide) rfl (fun ls hl => ?_)
          refine lv_iconst (v := (-1)) hx hb dX1_readNeed_86 (by decide) ?_
          refine lv_istore_n (lv' := [(3, .int (-1)), (2, .int (V130 1 6)), (1, .int 2), (0, .ref (ad 1))]) hx hb dX1_readNeed_87 rfl hl (by decide) rfl (fun ls hl => ?_)
          refine lv_aload_n hx hb dX1_readNeed_88 rfl (lv_at hl 3 rfl) ?_
          refine va_get (D := D) (ci := 1) (v := .ref (ad 6)) (fs := (xfReader ad V130 L123 Z)) (C := RX1) (T := TX1) (N := 9) hx hb hg inX1 hown hK hP 1 xgReader rfl 0 (by decide) (hg _ w304) (fun _ h9 => h9) rfl dX1_readNeed_89 ?_
          refine gA_void (gA_runV (As := []) (rest := []) (ci := 9) (q0 := 6) hx hb hml hown hg hP hD hK hS hA hnw hgk (x_next l D ks H.size ad kk V130 L123 Z  hMV130 ) w871 w852 w853 w157 w854 rfl xgTape hdV_yX9_next ⟨Nat.le_of_ble_eq_true rfl, Nat.le_of_ble_eq_true rfl⟩ rfl hl.1 rfl (Nat.le_of_ble_eq_true rfl) dX1_readNeed_92 ⟨Nat.le_of_ble_eq_true rfl, Nat.le_of_ble_eq_true rfl⟩) hP hD hK hS hA (fun u136 H locs w137 hP hD hK hS => ?_)
          obtain ⟨V138, L139⟩ := u136
          obtain ⟨hMV138, ajV138, axL139⟩ := w137
          have alL139 : agL [6, 44] L L139 := agL.tr alL123 axL139 (by decide)
          have hP : va_P D vwCl (xw ad kk V138 L139 Z) H := hP
          have hD : va_D A (xw ad kk V138 L139 Z) := hD
          have hMV138 : rgd bX V138 := hMV138
          have ajV138 : agr [(6, 8), (6, 9), (6, 10)] [] V130 V138 := ajV138
          have agV138 : agr [(1, 3), (1, 6), (6, 8), (6, 9), (6, 10)] [43, 44, 49, 58, 59, 60] V V138 := agV130.tr ajV138 (by decide) (by decide)
          have fwV138 : frX (xR b) V V138 := frX.tr fwV130 (frX.ag ajV138 (by decide) (by decide))
          refine lv_iload_n hx hb dX1_readNeed_95 rfl (lv_at hl 2 rfl) ?_
          refine lv_iconst (v := 2) hx hb dX1_readNeed_96 (by decide) ?_
          refine lv_icmp_eq (tgt := 127) hx hb dX1_readNeed_97 (by decide) (fun _ => ?_) (fun q => absurd (by decide) q)
          refine lv_aload_n hx hb dX1_readNeed_127 rfl (lv_at hl 3 rfl) ?_
          refine lv_bipush (v := 59) hx hb dX1_readNeed_128 (by decide) ?_
          have r140 : Int32.toInt 59 = 59 := by decide
          refine gA_int (gA_runV (As := [.int 59]) (rest := []) (ci := 1) (q0 := 1) hx hb hml hown hg hP hD hK hS hA hnw hgk (x_take l D ks H.size ad kk V138 L139 Z 59 hMV138 ) w893 w895 w10 w162 w896 rfl xgReader hdV_yX1_take ⟨Nat.le_of_ble_eq_true rfl, Nat.le_of_ble_eq_true rfl⟩ rfl hl.1 rfl (Nat.le_of_ble_eq_true rfl) dX1_readNeed_130 ⟨Nat.le_of_ble_eq_true rfl, Nat.le_of_ble_eq_true rfl⟩) hP hD hK hS hA (fun z141 u142 H locs w143 hP hD hK hS => ?_)
          obtain ⟨V145, L146⟩ := u142
          obtain ⟨hMV145, ajV145, axL146, rgz141, t144⟩ := w143
          have alL146 : agL [6, 44] L L146 := agL.tr alL139 axL146 (by decide)
          have hP : va_P D vwCl (xw ad kk V145 L146 Z) H := hP
          have hD : va_D A (xw ad kk V145 L146 Z) := hD
          have hMV145 : rgd bX V145 := hMV145
          have ajV145 : agr [(1, 3), (6, 8), (6, 9), (6, 10)] [] V138 V145 := ajV145
          have agV145 : agr [(1, 3), (1, 6), (6, 8), (6, 9), (6, 10)] [43, 44, 49, 58, 59, 60] V V145 := agV138.tr ajV145 (by decide) (by decide)
          have fwV145 : frX (xR b) V V145 := frX.tr fwV138 (frX.ag ajV145 (by decide) (by decide))
          have rgz141 : 0 ≤ z141.toInt ∧ z141.toInt ≤ 1 := rgz141
          have t144 : Imp (z141.toInt = 0) (1 ≤ (V145 1 3).toInt) := t144
          refine lv_if_ne (tgt := 138) hx hb dX1_readNeed_133 (by decide) (fun c147 => ?_) (fun c147 => ?_)
          · skip
            have f148 : z141.toInt ≠ 0 := b_neq rfl (by decide) c147
            refine lv_aload_n hx hb dX1_readNeed_138 rfl (lv_at hl 3 rfl) ?_
            refine va_get (D := D) (ci := 1) (v := rfN ad 72 (V145 1 2)) (fs := (xfReader ad V145 L146 Z)) (C := RX1) (T := TX1) (N := 9) hx hb hg inX1 hown hK hP 1 xgReader rfl 2 (by decide) (hg _ w306) (fun _ h9 => h9) rfl dX1_readNeed_139 ?_
            have pq149 : (V145 1 2).toInt = ((V 1 2)).toInt := congrArg Int32.toInt ((ajV145 1 2 rfl).trans ((ajV138 1 2 rfl).trans ((ajV130 1 2 rfl).trans ((ajV122 1 2 rfl).trans (ajV9 1 2 rfl)))))
            refine g_topv (v := .ref (ad (72 + go))) (rfN_r (by first | omega | ((try (have i_t128 := Imp.go t128 (imp_a (rgz125.1) (rgz125.2) (f134)))); omega) | ((try (have i_t144 := Imp.go t144 (by omega))); (try (have i_t129 := Imp.go t129 (by omega))); (try (have i_t128 := Imp.go t128 (by omega))); (try (have i_tx := Imp.go tx (by omega))); first | omega | ((try (have i_cd := Imp.go cd (by omega))); (try (have i_cd := Imp.go cd (by omega))); (try (have i_tx := Imp.go tx (by omega))); (try (have i_t128 := Imp.go t128 (by omega))); (try (have i_t129 := Imp.go t129 (by omega))); (try (have i_t144 := Imp.go t144 (by omega))); omega)))) ?_
            refine lv_iload_n hx hb dX1_readNeed_142 rfl (lv_at hl 2 rfl) ?_
            refine lv_iload_n hx hb dX1_readNeed_143 rfl (lv_at hl 1 rfl) ?_
            refine lv_iload_n hx hb dX1_readNeed_144 rfl (lv_at hl 0 rfl) ?_
            have r150 : Int32.toInt 2 = 2 := by decide
            have r151 : Int32.toInt (-1) = (-1) := by decide
            refine gA_void (gA_runV (As := [.int 2, .int (V130 1 6), .int (-1)]) (rest := []) (ci := 3) (q0 := (72 + go)) hx hb hml hown hg hP hD hK hS hA hnw hgk (x_addNeed l D ks H.size ad kk V145 L146 Z 2 (V130 1 6) (-1) (go) hMV145 (show go < 48 from by first | exact om_ed409a757601 hb2 hgh | first | omega | ((try (have i_t128 := Imp.go t128 (imp_a (rgz125.1) (rgz125.2) (f134)))); omega) | ((try (have i_t144 := Imp.go t144 (by omega))); (try (have i_t129 := Imp.go t129 (by omega))); (try (have i_t128 := Imp.go t128 (by omega))); (try (have i_tx := Imp.go tx (by omega))); first | omega | ((try (have i_cd := Imp.go cd (by omega))); (try (have i_cd := Imp.go cd (by omega))); (try (have i_tx := Imp.go tx (by omega))); (try (have i_t128 := Imp.go t128 (by omega))); (try (have i_t129 := Imp.go t129 (by omega))); (try (have i_t144 := Imp.go t144 (by omega))); omega)))) w1011 w1012 w1013 w169 w1014 rfl (xgComp hgo) hdV_yX3_addNeed ⟨Nat.le_of_ble_eq_true rfl, Nat.le_of_ble_eq_true rfl⟩ rfl hl.1 rfl (Nat.le_of_ble_eq_true rfl) dX1_readNeed_145 ⟨Nat.le_of_ble_eq_true rfl, Nat.le_of_ble_eq_true rfl⟩) hP hD hK hS hA (fun u153 H locs w154 hP hD hK hS => ?_)
            obtain ⟨V155, L156⟩ := u153
            obtain ⟨hMV155, ajV155, axL156, fyV155⟩ := w154
            have axL156 : L146 = L156 := Eq.symm axL156
            subst axL156
            have hP : va_P D vwCl (xw ad kk V155 L146 Z) H := hP
            have hD : va_D A (xw ad kk V155 L146 Z) := hD
            have hMV155 : rgd bX V155 := hMV155
            have ajV155 : agr [] [49, 58, 59, 60] V145 V155 := ajV155
            have agV155 : agr [(1, 3), (1, 6), (6, 8), (6, 9), (6, 10)] [43, 44, 49, 58, 59, 60] V V155 := agV145.tr ajV155 (by decide) (by decide)
            have fwV155 : frX (xR b) V V155 := frX.tr fwV145 (frX_IB fyV155 (by first | omega | ((try (have i_t128 := Imp.go t128 (imp_a (rgz125.1) (rgz125.2) (f134)))); omega) | ((try (have i_t144 := Imp.go t144 (by omega))); (try (have i_t129 := Imp.go t129 (by omega))); (try (have i_t128 := Imp.go t128 (by omega))); (try (have i_tx := Imp.go tx (by omega))); first | omega | ((try (have i_cd := Imp.go cd (by omega))); (try (have i_cd := Imp.go cd (by omega))); (try (have i_tx := Imp.go tx (by omega))); (try (have i_t128 := Imp.go t128 (by omega))); (try (have i_t129 := Imp.go t129 (by omega))); (try (have i_t144 := Imp.go t144 (by omega))); omega))) (by first | omega | ((try (have i_t128 := Imp.go t128 (imp_a (rgz125.1) (rgz125.2) (f134)))); omega) | ((try (have i_t144 := Imp.go t144 (by omega))); (try (have i_t129 := Imp.go t129 (by omega))); (try (have i_t128 := Imp.go t128 (by omega))); (try (have i_tx := Imp.go tx (by omega))); first | omega | ((try (have i_cd := Imp.go cd (by omega))); (try (have i_cd := Imp.go cd (by omega))); (try (have i_tx := Imp.go tx (by omega))); (try (have i_t128 := Imp.go t128 (by omega))); (try (have i_t129 := Imp.go t129 (by omega))); (try (have i_t144 := Imp.go t144 (by omega))); omega))))
            refine lv_iconst (v := 1) hx hb dX1_readNeed_148 (by decide) ?_
            have pq157 : (V155 1 3).toInt = ((V145 1 3)).toInt := congrArg Int32.toInt (ajV155 1 3 rfl)
            have px158 : px V V155 b := px.tr (px.rf : px V V b) (px.ag (show agr [(1, 3), (1, 6), (6, 8), (6, 9), (6, 10)] [49, 58, 59, 60] V V155 from (agr.tr (agr.tr (agr.tr (agr.tr (agr.tr (agr.tr agr.rf ajV9 (by decide) (by decide)) ajV122 (by decide) (by decide)) ajV130 (by decide) (by decide)) ajV138 (by decide) (by decide)) ajV145 (by decide) (by decide)) ajV155 (by decide) (by decide))) (fun _ => rfl) (fun _ => rfl) (fun _ => rfl))
            have tx159 : TX V155 b := TX.ag tx (show agr [(1, 3), (1, 6), (6, 8), (6, 9), (6, 10)] [49, 58, 59, 60] V V155 from (agr.tr (agr.tr (agr.tr (agr.tr (agr.tr (agr.tr agr.rf ajV9 (by decide) (by decide)) ajV122 (by decide) (by decide)) ajV130 (by decide) (by decide)) ajV138 (by decide) (by decide)) ajV145 (by decide) (by decide)) ajV155 (by decide) (by decide))) px158 (fun _ => rfl) (fun _ => rfl) (fun _ => rfl) (fun _ => rfl) (fun _ => rfl) (fun _ => rfl)
            have cd160 : CD V155 b := ⟨CB.ag cd.1 (show agr [(1, 3), (1, 6), (6, 8), (6, 9), (6, 10)] [49, 58, 59, 60] V V155 from (agr.tr (agr.tr (agr.tr (agr.tr (agr.tr (agr.tr agr.rf ajV9 (by decide) (by decide)) ajV122 (by decide) (by decide)) ajV130 (by decide) (by decide)) ajV138 (by decide) (by decide)) ajV145 (by decide) (by decide)) ajV155 (by decide) (by decide))) (fun _ => rfl) (fun _ => rfl), CO.ag cd.2 (show agr [(1, 3), (1, 6), (6, 8), (6, 9), (6, 10)] [49, 58, 59, 60] V V155 from (agr.tr (agr.tr (agr.tr (agr.tr (agr.tr (agr.tr agr.rf ajV9 (by decide) (by decide)) ajV122 (by decide) (by decide)) ajV130 (by decide) (by decide)) ajV138 (by decide) (by decide)) ajV145 (by decide) (by decide)) ajV155 (by decide) (by decide))) (fun _ => rfl) (fun _ => rfl)⟩
            have px161 : px V V155 b := px.tr (px.rf : px V V b) (px.ag (show agr [(1, 3), (1, 6), (6, 8), (6, 9), (6, 10)] [49, 58, 59, 60] V V155 from (agr.tr (agr.tr (agr.tr (agr.tr (agr.tr (agr.tr agr.rf ajV9 (by decide) (by decide)) ajV122 (by decide) (by decide)) ajV130 (by decide) (by decide)) ajV138 (by decide) (by decide)) ajV145 (by decide) (by decide)) ajV155 (by decide) (by decide))) (fun _ => rfl) (fun _ => rfl) (fun _ => rfl))
            exact W.zret (v := 1) hx hb hr rfl (fun t ht hW => ⟨⟨1, (V155, L146), rfl, ⟨hMV155, agV155, alL146, fwV155, (by decide), tx159, cd160, px161, (Imp.mk (fun hp => absurd hp (by decide)))⟩, by rw [ht]; exact hP, va_K.moved hW.alike hK, hD⟩, hS.F ht⟩) hS.2.2 dX1_readNeed_149
          · skip
            have f162 : z141.toInt = 0 := b_eq rfl (by decide) c147
            refine lv_iconst (v := 0) hx hb dX1_readNeed_136 (by decide) ?_
            have px163 : px V V145 b := px.tr (px.rf : px V V b) (px.ag (show agr [(1, 3), (1, 6), (6, 8), (6, 9), (6, 10)] [] V V145 from (agr.tr (agr.tr (agr.tr (agr.tr (agr.tr agr.rf ajV9 (by decide) (by decide)) ajV122 (by decide) (by decide)) ajV130 (by decide) (by decide)) ajV138 (by decide) (by decide)) ajV145 (by decide) (by decide))) (fun _ => rfl) (fun _ => rfl) (fun _ => rfl))
            have tx164 : TX V145 b := TX.ag tx (show agr [(1, 3), (1, 6), (6, 8), (6, 9), (6, 10)] [] V V145 from (agr.tr (agr.tr (agr.tr (agr.tr (agr.tr agr.rf ajV9 (by decide) (by decide)) ajV122 (by decide) (by decide)) ajV130 (by decide) (by decide)) ajV138 (by decide) (by decide)) ajV145 (by decide) (by decide))) px163 (fun _ => rfl) (fun _ => rfl) (fun _ => rfl) (fun _ => rfl) (fun _ => rfl) (fun _ => rfl)
            have cd165 : CD V145 b := ⟨CB.ag cd.1 (show agr [(1, 3), (1, 6), (6, 8), (6, 9), (6, 10)] [] V V145 from (agr.tr (agr.tr (agr.tr (agr.tr (agr.tr agr.rf ajV9 (by decide) (by decide)) ajV122 (by decide) (by decide)) ajV130 (by decide) (by decide)) ajV138 (by decide) (by decide)) ajV145 (by decide) (by decide))) (fun _ => rfl) (fun _ => rfl), CO.ag cd.2 (show agr [(1, 3), (1, 6), (6, 8), (6, 9), (6, 10)] [] V V145 from (agr.tr (agr.tr (agr.tr (agr.tr (agr.tr agr.rf ajV9 (by decide) (by decide)) ajV122 (by decide) (by decide)) ajV130 (by decide) (by decide)) ajV138 (by decide) (by decide)) ajV145 (by decide) (by decide))) (fun _ => rfl) (fun _ => rfl)⟩
            have px166 : px V V145 b := px.tr (px.rf : px V V b) (px.ag (show agr [(1, 3), (1, 6), (6, 8), (6, 9), (6, 10)] [] V V145 from (agr.tr (agr.tr (agr.tr (agr.tr (agr.tr agr.rf ajV9 (by decide) (by decide)) ajV122 (by decide) (by decide)) ajV130 (by decide) (by decide)) ajV138 (by decide) (by decide)) ajV145 (by decide) (by decide))) (fun _ => rfl) (fun _ => rfl) (fun _ => rfl))
            exact W.zret (v := 0) hx hb hr rfl (fun t ht hW => ⟨⟨0, (V145, L146), rfl, ⟨hMV145, agV145, alL146, fwV145, (by decide), tx164, cd165, px166, (Imp.mk (fun _ => (show 1 ≤ (V145 1 3).toInt from by first | exact om_f8d8213eda45 ((Imp.go t144 (f162))) | first | omega | ((try (have i_t144 := Imp.go t144 (f162))); (try (have i_t128 := Imp.go t128 (imp_a (rgz125.1) (rgz125.2) (f134)))); omega) | ((try (have i_t144 := Imp.go t144 (by omega))); (try (have i_t129 := Imp.go t129 (by omega))); (try (have i_t128 := Imp.go t128 (by omega))); (try (have i_tx := Imp.go tx (by omega))); first | omega | ((try (have i_cd := Imp.go cd (by omega))); (try (have i_cd := Imp.go cd (by omega))); (try (have i_tx := Imp.go tx (by omega))); (try (have i_t128 := Imp.go t128 (by omega))); (try (have i_t129 := Imp.go t129 (by omega))); (try (have i_t144 := Imp.go t144 (by omega))); omega)))))⟩, by rw [ht]; exact hP, va_K.moved hW.alike hK, hD⟩, hS.F ht⟩) hS.2.2 dX1_readNeed_137
        · skip
          have f167 : z125.toInt = 0 := b_eq rfl (by decide) c133
          refine lv_iconst (v := 0) hx hb dX1_readNeed_79 (by decide) ?_
          have px168 : px V V130 b := px.tr (px.rf : px V V b) (px.ag (show agr [(1, 3), (1, 6), (6, 8), (6, 9), (6, 10)] [] V V130 from (agr.tr (agr.tr (agr.tr agr.rf ajV9 (by decide) (by decide)) ajV122 (by decide) (by decide)) ajV130 (by decide) (by decide))) (fun _ => rfl) (fun _ => rfl) (fun _ => rfl))
          have tx169 : TX V130 b := TX.ag tx (show agr [(1, 3), (1, 6), (6, 8), (6, 9), (6, 10)] [] V V130 from (agr.tr (agr.tr (agr.tr agr.rf ajV9 (by decide) (by decide)) ajV122 (by decide) (by decide)) ajV130 (by decide) (by decide))) px168 (fun _ => rfl) (fun _ => rfl) (fun _ => rfl) (fun _ => rfl) (fun _ => rfl) (fun _ => rfl)
          have cd170 : CD V130 b := ⟨CB.ag cd.1 (show agr [(1, 3), (1, 6), (6, 8), (6, 9), (6, 10)] [] V V130 from (agr.tr (agr.tr (agr.tr agr.rf ajV9 (by decide) (by decide)) ajV122 (by decide) (by decide)) ajV130 (by decide) (by decide))) (fun _ => rfl) (fun _ => rfl), CO.ag cd.2 (show agr [(1, 3), (1, 6), (6, 8), (6, 9), (6, 10)] [] V V130 from (agr.tr (agr.tr (agr.tr agr.rf ajV9 (by decide) (by decide)) ajV122 (by decide) (by decide)) ajV130 (by decide) (by decide))) (fun _ => rfl) (fun _ => rfl)⟩
          have px171 : px V V130 b := px.tr (px.rf : px V V b) (px.ag (show agr [(1, 3), (1, 6), (6, 8), (6, 9), (6, 10)] [] V V130 from (agr.tr (agr.tr (agr.tr agr.rf ajV9 (by decide) (by decide)) ajV122 (by decide) (by decide)) ajV130 (by decide) (by decide))) (fun _ => rfl) (fun _ => rfl) (fun _ => rfl))
          exact W.zret (v := 0) hx hb hr rfl (fun t ht hW => ⟨⟨0, (V130, L123), rfl, ⟨hMV130, agV130, alL123, fwV130, (by decide), tx169, cd170, px171, (Imp.mk (fun _ => (show 1 ≤ (V130 1 3).toInt from by first | exact om_f8d8213eda45 ((Imp.go t129 (f167))) | first | omega | ((try (have i_t129 := Imp.go t129 (f167))); omega) | ((try (have i_t129 := Imp.go t129 (by omega))); (try (have i_t128 := Imp.go t128 (by omega))); (try (have i_tx := Imp.go tx (by omega))); (try (have i_cd := Imp.go cd (by omega))); first | omega | ((try (have i_cd := Imp.go cd (by omega))); (try (have i_tx := Imp.go tx (by omega))); (try (have i_t128 := Imp.go t128 (by omega))); (try (have i_t129 := Imp.go t129 (by omega))); omega)))))⟩, by rw [ht]; exact hP, va_K.moved hW.alike hK, hD⟩, hS.F ht⟩) hS.2.2 dX1_readNeed_80
    · skip
      have f172 : ((V9 6 9)).toInt = 138 := b_eq rfl (by decide) c11
      refine lv_iconst (v := 1) hx hb dX1_readNeed_38 (by decide) ?_
      refine lv_goto (tgt := 60) hx hb dX1_readNeed_39 (by decide) ?_
      refine lv_istore_n (lv' := [(1, .int 1), (0, .ref (ad 1))]) hx hb dX1_readNeed_60 rfl hl (by decide) rfl (fun ls hl => ?_)
      refine lv_iload_n hx hb dX1_readNeed_61 rfl (lv_at hl 0 rfl) ?_
      refine lv_if_eq (tgt := 72) hx hb dX1_readNeed_62 (by decide) (fun q => absurd q (by decide)) (fun _ => ?_)
      refine lv_aload_n hx hb dX1_readNeed_65 rfl (lv_at hl 1 rfl) ?_
      refine va_get (D := D) (ci := 1) (v := .ref (ad 6)) (fs := (xfReader ad V9 L10 Z)) (C := RX1) (T := TX1) (N := 9) hx hb hg inX1 hown hK hP 1 xgReader rfl 0 (by decide) (hg _ w304) (fun _ h9 => h9) rfl dX1_readNeed_66 ?_
      refine gA_void (gA_runV (As := []) (rest := []) (ci := 9) (q0 := 6) hx hb hml hown hg hP hD hK hS hA hnw hgk (x_next l D ks H.size ad kk V9 L10 Z  hMV9 ) w871 w852 w853 w157 w854 rfl xgTape hdV_yX9_next ⟨Nat.le_of_ble_eq_true rfl, Nat.le_of_ble_eq_true rfl⟩ rfl hl.1 rfl (Nat.le_of_ble_eq_true rfl) dX1_readNeed_69 ⟨Nat.le_of_ble_eq_true rfl, Nat.le_of_ble_eq_true rfl⟩) hP hD hK hS hA (fun u174 H locs w175 hP hD hK hS => ?_)
      obtain ⟨V176, L177⟩ := u174
      obtain ⟨hMV176, ajV176, axL177⟩ := w175
      have alL177 : agL [6, 44] L L177 := agL.tr alL10 axL177 (by decide)
      have hP : va_P D vwCl (xw ad kk V176 L177 Z) H := hP
      have hD : va_D A (xw ad kk V176 L177 Z) := hD
      have hMV176 : rgd bX V176 := hMV176
      have ajV176 : agr [(6, 8), (6, 9), (6, 10)] [] V9 V176 := ajV176
      have agV176 : agr [(1, 3), (1, 6), (6, 8), (6, 9), (6, 10)] [43, 44, 49, 58, 59, 60] V V176 := agV9.tr ajV176 (by decide) (by decide)
      have fwV176 : frX (xR b) V V176 := frX.tr fwV9 (frX.ag ajV176 (by decide) (by decide))
      refine lv_aload_n hx hb dX1_readNeed_72 rfl (lv_at hl 1 rfl) ?_
      have pq178 : (V176 1 1).toInt = ((V 1 1)).toInt := congrArg Int32.toInt ((ajV176 1 1 rfl).trans (ajV9 1 1 rfl))
      refine gA_int (gA_runV (As := []) (rest := []) (ci := 1) (q0 := 1) hx hb hml hown hg hP hD hK hS hA hnw hgk (x_isToldType l D ks H.size ad kk V176 L177 Z (b) hMV176 (show b < 2 from by first | exact om_f940a4667dd6 hb2 | first | omega | ((try (have i_tx := Imp.go tx (by omega))); (try (have i_cd := Imp.go cd (by omega))); (try (have i_cd := Imp.go cd (by omega))); (try (have i_tx := Imp.go tx (by omega))); omega)) (show (V176 1 1).toInt = (b : Int) from by first | exact om_adf531c77a0d rbk pq178 | first | omega | ((try (have i_tx := Imp.go tx (by omega))); (try (have i_cd := Imp.go cd (by omega))); (try (have i_cd := Imp.go cd (by omega))); (try (have i_tx := Imp.go tx (by omega))); omega))) w888 w890 w9 w162 w891 rfl xgReader hdV_yX1_isToldType ⟨Nat.le_of_ble_eq_true rfl, Nat.le_of_ble_eq_true rfl⟩ rfl hl.1 rfl (Nat.le_of_ble_eq_true rfl) dX1_readNeed_73 ⟨Nat.le_of_ble_eq_true rfl, Nat.le_of_ble_eq_true rfl⟩) hP hD hK hS hA (fun z179 u180 H locs w181 hP hD hK hS => ?_)
      obtain ⟨V184, L185⟩ := u180
      obtain ⟨hMV184, ajV184, axL185, rgz179, t182, t183⟩ := w181
      have axL185 : L177 = L185 := Eq.symm axL185
      subst axL185
      have hP : va_P D vwCl (xw ad kk V184 L177 Z) H := hP
      have hD : va_D A (xw ad kk V184 L177 Z) := hD
      have hMV184 : rgd bX V184 := hMV184
      have ajV184 : agr [(1, 3), (1, 6)] [] V176 V184 := ajV184
      have agV184 : agr [(1, 3), (1, 6), (6, 8), (6, 9), (6, 10)] [43, 44, 49, 58, 59, 60] V V184 := agV176.tr ajV184 (by decide) (by decide)
      have fwV184 : frX (xR b) V V184 := frX.tr fwV176 (frX.ag ajV184 (by decide) (by decide))
      have rgz179 : 0 ≤ z179.toInt ∧ z179.toInt ≤ 1 := rgz179
      have t182 : Imp (z179.toInt = 1) (0 ≤ (V184 1 6).toInt ∧ (V184 1 6).toInt ≤ 23) := t182
      have t183 : Imp (z179.toInt = 0) (1 ≤ (V184 1 3).toInt) := t183
      have r186 : (-1) ≤ ((V184 1 6)).toInt ∧ ((V184 1 6)).toInt ≤ 23 := hMV184 1 6
      refine lv_if_ne (tgt := 81) hx hb dX1_readNeed_76 (by decide) (fun c187 => ?_) (fun c187 => ?_)
      · skip
        have f188 : z179.toInt ≠ 0 := b_neq rfl (by decide) c187
        refine lv_aload_n hx hb dX1_readNeed_81 rfl (lv_at hl 1 rfl) ?_
        refine va_get (D := D) (ci := 1) (v := .int (V184 1 6)) (fs := (xfReader ad V184 L177 Z)) (C := RX1) (T := TX1) (N := 9) hx hb hg inX1 hown hK hP 1 xgReader rfl 6 (by decide) (hg _ w310) (fun _ h9 => h9) rfl dX1_readNeed_82 ?_
        refine lv_istore_n (lv' := [(2, .int (V184 1 6)), (1, .int 1), (0, .ref (ad 1))]) hx hb dX1_readNeed_85 rfl hl (by decide) rfl (fun ls hl => ?_)
        refine lv_iconst (v := (-1)) hx hb dX1_readNeed_86 (by decide) ?_
        refine lv_istore_n (lv' := [(3, .int (-1)), (2, .int (V184 1 6)), (1, .int 1), (0, .ref (ad 1))]) hx hb dX1_readNeed_87 rfl hl (by decide) rfl (fun ls hl => ?_)
        refine lv_aload_n hx hb dX1_readNeed_88 rfl (lv_at hl 3 rfl) ?_
        refine va_get (D := D) (ci := 1) (v := .ref (ad 6)) (fs := (xfReader ad V184 L177 Z)) (C := RX1) (T := TX1) (N := 9) hx hb hg inX1 hown hK hP 1 xgReader rfl 0 (by decide) (hg _ w304) (fun _ h9 => h9) rfl dX1_readNeed_89 ?_
        refine gA_void (gA_runV (As := []) (rest := []) (ci := 9) (q0 := 6) hx hb hml hown hg hP hD hK hS hA hnw hgk (x_next l D ks H.size ad kk V184 L177 Z  hMV184 ) w871 w852 w853 w157 w854 rfl xgTape hdV_yX9_next ⟨Nat.le_of_ble_eq_true rfl, Nat.le_of_ble_eq_true rfl⟩ rfl hl.1 rfl (Nat.le_of_ble_eq_true rfl) dX1_readNeed_92 ⟨Nat.le_of_ble_eq_true rfl, Nat.le_of_ble_eq_true rfl⟩) hP hD hK hS hA (fun u190 H locs w191 hP hD hK hS => ?_)
        obtain ⟨V192, L193⟩ := u190
        obtain ⟨hMV192, ajV192, axL193⟩ := w191
        have alL193 : agL [6, 44] L L193 := agL.tr alL177 axL193 (by decide)
        have hP : va_P D vwCl (xw ad kk V192 L193 Z) H := hP
        have hD : va_D A (xw ad kk V192 L193 Z) := hD
        have hMV192 : rgd bX V192 := hMV192
        have ajV192 : agr [(6, 8), (6, 9), (6, 10)] [] V184 V192 := ajV192
        have agV192 : agr [(1, 3), (1, 6), (6, 8), (6, 9), (6, 10)] [43, 44, 49, 58, 59, 60] V V192 := agV184.tr ajV192 (by decide) (by decide)
        have fwV192 : frX (xR b) V V192 := frX.tr fwV184 (frX.ag ajV192 (by decide) (by decide))
        refine lv_iload_n hx hb dX1_readNeed_95 rfl (lv_at hl 2 rfl) ?_
        refine lv_iconst (v := 2) hx hb dX1_readNeed_96 (by decide) ?_
        refine lv_icmp_eq (tgt := 127) hx hb dX1_readNeed_97 (by decide) (fun q => absurd q (by decide)) (fun _ => ?_)
        refine lv_aload_n hx hb dX1_readNeed_100 rfl (lv_at hl 3 rfl) ?_
        refine va_get (D := D) (ci := 1) (v := .ref (ad 6)) (fs := (xfReader ad V192 L193 Z)) (C := RX1) (T := TX1) (N := 9) hx hb hg inX1 hown hK hP 1 xgReader rfl 0 (by decide) (hg _ w304) (fun _ h9 => h9) rfl dX1_readNeed_101 ?_
        refine va_getN (D := D) (ci := 9) (v := .int (V192 6 9)) (fs := (xfTape ad V192 L193 Z)) (C := RX9) (T := TX9) (N := 12) hx hb hg inX9 hown hK hP 6 xgTape rfl 9 (by decide) (hnw.use 262 n262 rfl) (fun _ h9 => h9) rfl dX1_readNeed_104 ?_
        refine lv_sipush (v := 133) hx hb dX1_readNeed_107 (by decide) ?_
        refine lv_icmp_ne (tgt := 127) hx hb dX1_readNeed_110 (by decide) (fun c194 => ?_) (fun c194 => ?_)
        · skip
          have f195 : ((V192 6 9)).toInt ≠ 133 := b_neq rfl (by decide) c194
          refine lv_aload_n hx hb dX1_readNeed_127 rfl (lv_at hl 3 rfl) ?_
          refine lv_bipush (v := 59) hx hb dX1_readNeed_128 (by decide) ?_
          have r196 : Int32.toInt 59 = 59 := by decide
          refine gA_int (gA_runV (As := [.int 59]) (rest := []) (ci := 1) (q0 := 1) hx hb hml hown hg hP hD hK hS hA hnw hgk (x_take l D ks H.size ad kk V192 L193 Z 59 hMV192 ) w893 w895 w10 w162 w896 rfl xgReader hdV_yX1_take ⟨Nat.le_of_ble_eq_true rfl, Nat.le_of_ble_eq_true rfl⟩ rfl hl.1 rfl (Nat.le_of_ble_eq_true rfl) dX1_readNeed_130 ⟨Nat.le_of_ble_eq_true rfl, Nat.le_of_ble_eq_true rfl⟩) hP hD hK hS hA (fun z197 u198 H locs w199 hP hD hK hS => ?_)
          obtain ⟨V201, L202⟩ := u198
          obtain ⟨hMV201, ajV201, axL202, rgz197, t200⟩ := w199
          have alL202 : agL [6, 44] L L202 := agL.tr alL193 axL202 (by decide)
          have hP : va_P D vwCl (xw ad kk V201 L202 Z) H := hP
          have hD : va_D A (xw ad kk V201 L202 Z) := hD
          have hMV201 : rgd bX V201 := hMV201
          have ajV201 : agr [(1, 3), (6, 8), (6, 9), (6, 10)] [] V192 V201 := ajV201
          have agV201 : agr [(1, 3), (1, 6), (6, 8), (6, 9), (6, 10)] [43, 44, 49, 58, 59, 60] V V201 := agV192.tr ajV201 (by decide) (by decide)
          have fwV201 : frX (xR b) V V201 := frX.tr fwV192 (frX.ag ajV201 (by decide) (by decide))
          have rgz197 : 0 ≤ z197.toInt ∧ z197.toInt ≤ 1 := rgz197
          have t200 : Imp (z197.toInt = 0) (1 ≤ (V201 1 3).toInt) := t200
          refine lv_if_ne (tgt := 138) hx hb dX1_readNeed_133 (by decide) (fun c203 => ?_) (fun c203 => ?_)
          · skip
            have f204 : z197.toInt ≠ 0 := b_neq rfl (by decide) c203
            refine lv_aload_n hx hb dX1_readNeed_138 rfl (lv_at hl 3 rfl) ?_
            refine va_get (D := D) (ci := 1) (v := rfN ad 72 (V201 1 2)) (fs := (xfReader ad V201 L202 Z)) (C := RX1) (T := TX1) (N := 9) hx hb hg inX1 hown hK hP 1 xgReader rfl 2 (by decide) (hg _ w306) (fun _ h9 => h9) rfl dX1_readNeed_139 ?_
            have pq205 : (V201 1 2).toInt = ((V 1 2)).toInt := congrArg Int32.toInt ((ajV201 1 2 rfl).trans ((ajV192 1 2 rfl).trans ((ajV184 1 2 rfl).trans ((ajV176 1 2 rfl).trans (ajV9 1 2 rfl)))))
            refine g_topv (v := .ref (ad (72 + go))) (rfN_r (by first | omega | ((try (have i_t182 := Imp.go t182 (imp_a (rgz179.1) (rgz179.2) (f188)))); omega) | ((try (have i_t200 := Imp.go t200 (by omega))); (try (have i_t183 := Imp.go t183 (by omega))); (try (have i_t182 := Imp.go t182 (by omega))); (try (have i_tx := Imp.go tx (by omega))); first | omega | ((try (have i_cd := Imp.go cd (by omega))); (try (have i_cd := Imp.go cd (by omega))); (try (have i_tx := Imp.go tx (by omega))); (try (have i_t182 := Imp.go t182 (by omega))); (try (have i_t183 := Imp.go t183 (by omega))); (try (have i_t200 := Imp.go t200 (by omega))); omega)))) ?_
            refine lv_iload_n hx hb dX1_readNeed_142 rfl (lv_at hl 2 rfl) ?_
            refine lv_iload_n hx hb dX1_readNeed_143 rfl (lv_at hl 1 rfl) ?_
            refine lv_iload_n hx hb dX1_readNeed_144 rfl (lv_at hl 0 rfl) ?_
            have r206 : Int32.toInt 1 = 1 := by decide
            have r207 : Int32.toInt (-1) = (-1) := by decide
            refine gA_void (gA_runV (As := [.int 1, .int (V184 1 6), .int (-1)]) (rest := []) (ci := 3) (q0 := (72 + go)) hx hb hml hown hg hP hD hK hS hA hnw hgk (x_addNeed l D ks H.size ad kk V201 L202 Z 1 (V184 1 6) (-1) (go) hMV201 (show go < 48 from by first | exact om_ed409a757601 hb2 hgh | first | omega | ((try (have i_t182 := Imp.go t182 (imp_a (rgz179.1) (rgz179.2) (f188)))); omega) | ((try (have i_t200 := Imp.go t200 (by omega))); (try (have i_t183 := Imp.go t183 (by omega))); (try (have i_t182 := Imp.go t182 (by omega))); (try (have i_tx := Imp.go tx (by omega))); first | omega | ((try (have i_cd := Imp.go cd (by omega))); (try (have i_cd := Imp.go cd (by omega))); (try (have i_tx := Imp.go tx (by omega))); (try (have i_t182 := Imp.go t182 (by omega))); (try (have i_t183 := Imp.go t183 (by omega))); (try (have i_t200 := Imp.go t200 (by omega))); omega)))) w1011 w1012 w1013 w169 w1014 rfl (xgComp hgo) hdV_yX3_addNeed ⟨Nat.le_of_ble_eq_true rfl, Nat.le_of_ble_eq_true rfl⟩ rfl hl.1 rfl (Nat.le_of_ble_eq_true rfl) dX1_readNeed_145 ⟨Nat.le_of_ble_eq_true rfl, Nat.le_of_ble_eq_true rfl⟩) hP hD hK hS hA (fun u209 H locs w210 hP hD hK hS => ?_)
            obtain ⟨V211, L212⟩ := u209
            obtain ⟨hMV211, ajV211, axL212, fyV211⟩ := w210
            have axL212 : L202 = L212 := Eq.symm axL212
            subst axL212
            have hP : va_P D vwCl (xw ad kk V211 L202 Z) H := hP
            have hD : va_D A (xw ad kk V211 L202 Z) := hD
            have hMV211 : rgd bX V211 := hMV211
            have ajV211 : agr [] [49, 58, 59, 60] V201 V211 := ajV211
            have agV211 : agr [(1, 3), (1, 6), (6, 8), (6, 9), (6, 10)] [43, 44, 49, 58, 59, 60] V V211 := agV201.tr ajV211 (by decide) (by decide)
            have fwV211 : frX (xR b) V V211 := frX.tr fwV201 (frX_IB fyV211 (by first | omega | ((try (have i_t182 := Imp.go t182 (imp_a (rgz179.1) (rgz179.2) (f188)))); omega) | ((try (have i_t200 := Imp.go t200 (by omega))); (try (have i_t183 := Imp.go t183 (by omega))); (try (have i_t182 := Imp.go t182 (by omega))); (try (have i_tx := Imp.go tx (by omega))); first | omega | ((try (have i_cd := Imp.go cd (by omega))); (try (have i_cd := Imp.go cd (by omega))); (try (have i_tx := Imp.go tx (by omega))); (try (have i_t182 := Imp.go t182 (by omega))); (try (have i_t183 := Imp.go t183 (by omega))); (try (have i_t200 := Imp.go t200 (by omega))); omega))) (by first | omega | ((try (have i_t182 := Imp.go t182 (imp_a (rgz179.1) (rgz179.2) (f188)))); omega) | ((try (have i_t200 := Imp.go t200 (by omega))); (try (have i_t183 := Imp.go t183 (by omega))); (try (have i_t182 := Imp.go t182 (by omega))); (try (have i_tx := Imp.go tx (by omega))); first | omega | ((try (have i_cd := Imp.go cd (by omega))); (try (have i_cd := Imp.go cd (by omega))); (try (have i_tx := Imp.go tx (by omega))); (try (have i_t182 := Imp.go t182 (by omega))); (try (have i_t183 := Imp.go t183 (by omega))); (try (have i_t200 := Imp.go t200 (by omega))); omega))))
            refine lv_iconst (v := 1) hx hb dX1_readNeed_148 (by decide) ?_
            have pq213 : (V211 1 3).toInt = ((V201 1 3)).toInt := congrArg Int32.toInt (ajV211 1 3 rfl)
            have px214 : px V V211 b := px.tr (px.rf : px V V b) (px.ag (show agr [(1, 3), (1, 6), (6, 8), (6, 9), (6, 10)] [49, 58, 59, 60] V V211 from (agr.tr (agr.tr (agr.tr (agr.tr (agr.tr (agr.tr agr.rf ajV9 (by decide) (by decide)) ajV176 (by decide) (by decide)) ajV184 (by decide) (by decide)) ajV192 (by decide) (by decide)) ajV201 (by decide) (by decide)) ajV211 (by decide) (by decide))) (fun _ => rfl) (fun _ => rfl) (fun _ => rfl))
            have tx215 : TX V211 b := TX.ag tx (show agr [(1, 3), (1, 6), (6, 8), (6, 9), (6, 10)] [49, 58, 59, 60] V V211 from (agr.tr (agr.tr (agr.tr (agr.tr (agr.tr (agr.tr agr.rf ajV9 (by decide) (by decide)) ajV176 (by decide) (by decide)) ajV184 (by decide) (by decide)) ajV192 (by decide) (by decide)) ajV201 (by decide) (by decide)) ajV211 (by decide) (by decide))) px214 (fun _ => rfl) (fun _ => rfl) (fun _ => rfl) (fun _ => rfl) (fun _ => rfl) (fun _ => rfl)
            have cd216 : CD V211 b := ⟨CB.ag cd.1 (show agr [(1, 3), (1, 6), (6, 8), (6, 9), (6, 10)] [49, 58, 59, 60] V V211 from (agr.tr (agr.tr (agr.tr (agr.tr (agr.tr (agr.tr agr.rf ajV9 (by decide) (by decide)) ajV176 (by decide) (by decide)) ajV184 (by decide) (by decide)) ajV192 (by decide) (by decide)) ajV201 (by decide) (by decide)) ajV211 (by decide) (by decide))) (fun _ => rfl) (fun _ => rfl), CO.ag cd.2 (show agr [(1, 3), (1, 6), (6, 8), (6, 9), (6, 10)] [49, 58, 59, 60] V V211 from (agr.tr (agr.tr (agr.tr (agr.tr (agr.tr (agr.tr agr.rf ajV9 (by decide) (by decide)) ajV176 (by decide) (by decide)) ajV184 (by decide) (by decide)) ajV192 (by decide) (by decide)) ajV201 (by decide) (by decide)) ajV211 (by decide) (by decide))) (fun _ => rfl) (fun _ => rfl)⟩
            have px217 : px V V211 b := px.tr (px.rf : px V V b) (px.ag (show agr [(1, 3), (1, 6), (6, 8), (6, 9), (6, 10)] [49, 58, 59, 60] V V211 from (agr.tr (agr.tr (agr.tr (agr.tr (agr.tr (agr.tr agr.rf ajV9 (by decide) (by decide)) ajV176 (by decide) (by decide)) ajV184 (by decide) (by decide)) ajV192 (by decide) (by decide)) ajV201 (by decide) (by decide)) ajV211 (by decide) (by decide))) (fun _ => rfl) (fun _ => rfl) (fun _ => rfl))
            exact W.zret (v := 1) hx hb hr rfl (fun t ht hW => ⟨⟨1, (V211, L202), rfl, ⟨hMV211, agV211, alL202, fwV211, (by decide), tx215, cd216, px217, (Imp.mk (fun hp => absurd hp (by decide)))⟩, by rw [ht]; exact hP, va_K.moved hW.alike hK, hD⟩, hS.F ht⟩) hS.2.2 dX1_readNeed_149
          · skip
            have f218 : z197.toInt = 0 := b_eq rfl (by decide) c203
            refine lv_iconst (v := 0) hx hb dX1_readNeed_136 (by decide) ?_
            have px219 : px V V201 b := px.tr (px.rf : px V V b) (px.ag (show agr [(1, 3), (1, 6), (6, 8), (6, 9), (6, 10)] [] V V201 from (agr.tr (agr.tr (agr.tr (agr.tr (agr.tr agr.rf ajV9 (by decide) (by decide)) ajV176 (by decide) (by decide)) ajV184 (by decide) (by decide)) ajV192 (by decide) (by decide)) ajV201 (by decide) (by decide))) (fun _ => rfl) (fun _ => rfl) (fun _ => rfl))
            have tx220 : TX V201 b := TX.ag tx (show agr [(1, 3), (1, 6), (6, 8), (6, 9), (6, 10)] [] V V201 from (agr.tr (agr.tr (agr.tr (agr.tr (agr.tr agr.rf ajV9 (by decide) (by decide)) ajV176 (by decide) (by decide)) ajV184 (by decide) (by decide)) ajV192 (by decide) (by decide)) ajV201 (by decide) (by decide))) px219 (fun _ => rfl) (fun _ => rfl) (fun _ => rfl) (fun _ => rfl) (fun _ => rfl) (fun _ => rfl)
            have cd221 : CD V201 b := ⟨CB.ag cd.1 (show agr [(1, 3), (1, 6), (6, 8), (6, 9), (6, 10)] [] V V201 from (agr.tr (agr.tr (agr.tr (agr.tr (agr.tr agr.rf ajV9 (by decide) (by decide)) ajV176 (by decide) (by decide)) ajV184 (by decide) (by decide)) ajV192 (by decide) (by decide)) ajV201 (by decide) (by decide))) (fun _ => rfl) (fun _ => rfl), CO.ag cd.2 (show agr [(1, 3), (1, 6), (6, 8), (6, 9), (6, 10)] [] V V201 from (agr.tr (agr.tr (agr.tr (agr.tr (agr.tr agr.rf ajV9 (by decide) (by decide)) ajV176 (by decide) (by decide)) ajV184 (by decide) (by decide)) ajV192 (by decide) (by decide)) ajV201 (by decide) (by decide))) (fun _ => rfl) (fun _ => rfl)⟩
            have px222 : px V V201 b := px.tr (px.rf : px V V b) (px.ag (show agr [(1, 3), (1, 6), (6, 8), (6, 9), (6, 10)] [] V V201 from (agr.tr (agr.tr (agr.tr (agr.tr (agr.tr agr.rf ajV9 (by decide) (by decide)) ajV176 (by decide) (by decide)) ajV184 (by decide) (by decide)) ajV192 (by decide) (by decide)) ajV201 (by decide) (by decide))) (fun _ => rfl) (fun _ => rfl) (fun _ => rfl))
            exact W.zret (v := 0) hx hb hr rfl (fun t ht hW => ⟨⟨0, (V201, L202), rfl, ⟨hMV201, agV201, alL202, fwV201, (by decide), tx220, cd221, px222, (Imp.mk (fun _ => (show 1 ≤ (V201 1 3).toInt from by first | exact om_f8d8213eda45 ((Imp.go t200 (f218))) | first | omega | ((try (have i_t200 := Imp.go t200 (f218))); (try (have i_t182 := Imp.go t182 (imp_a (rgz179.1) (rgz179.2) (f188)))); omega) | ((try (have i_t200 := Imp.go t200 (by omega))); (try (have i_t183 := Imp.go t183 (by omega))); (try (have i_t182 := Imp.go t182 (by omega))); (try (have i_tx := Imp.go tx (by omega))); first | omega | ((try (have i_cd := Imp.go cd (by omega))); (try (have i_cd := Imp.go cd (by omega))); (try (have i_tx := Imp.go tx (by omega))); (try (have i_t182 := Imp.go t182 (by omega))); (try (have i_t183 := Imp.go t183 (by omega))); (try (have i_t200 := Imp.go t200 (by omega))); omega)))))⟩, by rw [ht]; exact hP, va_K.moved hW.alike hK, hD⟩, hS.F ht⟩) hS.2.2 dX1_readNeed_137
        · skip
          have f223 : ((V192 6 9)).toInt = 133 := b_eq rfl (by decide) c194
          refine lv_aload_n hx hb dX1_readNeed_113 rfl (lv_at hl 3 rfl) ?_
          have pq224 : (V192 1 1).toInt = ((V 1 1)).toInt := congrArg Int32.toInt ((ajV192 1 1 rfl).trans ((ajV184 1 1 rfl).trans ((ajV176 1 1 rfl).trans (ajV9 1 1 rfl))))
          refine gA_int (gA_runV (As := []) (rest := []) (ci := 1) (q0 := 1) hx hb hml hown hg hP hD hK hS hA hnw hgk (x_takeCalled l D ks H.size ad kk V192 L193 Z (b) hMV192 (show b < 2 from by first | exact om_f940a4667dd6 hb2 | first | omega | ((try (have i_t182 := Imp.go t182 (imp_a (rgz179.1) (rgz179.2) (f188)))); omega) | ((try (have i_t183 := Imp.go t183 (by omega))); (try (have i_t182 := Imp.go t182 (by omega))); (try (have i_tx := Imp.go tx (by omega))); (try (have i_cd := Imp.go cd (by omega))); first | omega | ((try (have i_cd := Imp.go cd (by omega))); (try (have i_tx := Imp.go tx (by omega))); (try (have i_t182 := Imp.go t182 (by omega))); (try (have i_t183 := Imp.go t183 (by omega))); omega))) (show (V192 1 1).toInt = (b : Int) from by first | exact om_adf531c77a0d rbk pq224 | first | omega | ((try (have i_t182 := Imp.go t182 (imp_a (rgz179.1) (rgz179.2) (f188)))); omega) | ((try (have i_t183 := Imp.go t183 (by omega))); (try (have i_t182 := Imp.go t182 (by omega))); (try (have i_tx := Imp.go tx (by omega))); (try (have i_cd := Imp.go cd (by omega))); first | omega | ((try (have i_cd := Imp.go cd (by omega))); (try (have i_tx := Imp.go tx (by omega))); (try (have i_t182 := Imp.go t182 (by omega))); (try (have i_t183 := Imp.go t183 (by omega))); omega)))) w923 w925 w15 w162 w926 rfl xgReader hdV_yX1_takeCalled ⟨Nat.le_of_ble_eq_true rfl, Nat.le_of_ble_eq_true rfl⟩ rfl hl.1 rfl (Nat.le_of_ble_eq_true rfl) dX1_readNeed_114 ⟨Nat.le_of_ble_eq_true rfl, Nat.le_of_ble_eq_true rfl⟩) hP hD hK hS hA (fun z225 u226 H locs w227 hP hD hK hS => ?_)
          obtain ⟨V230, L231⟩ := u226
          obtain ⟨hMV230, ajV230, axL231, fyV230, rgz225, t228, t229⟩ := w227
          have alL231 : agL [6, 44] L L231 := agL.tr alL193 axL231 (by decide)
          have hP : va_P D vwCl (xw ad kk V230 L231 Z) H := hP
          have hD : va_D A (xw ad kk V230 L231 Z) := hD
          have hMV230 : rgd bX V230 := hMV230
          have ajV230 : agr [(1, 3), (1, 6), (6, 8), (6, 9), (6, 10)] [43, 44] V192 V230 := ajV230
          have agV230 : agr [(1, 3), (1, 6), (6, 8), (6, 9), (6, 10)] [43, 44, 49, 58, 59, 60] V V230 := agV192.tr ajV230 (by decide) (by decide)
          have fwV230 : frX (xR b) V V230 := frX.tr fwV192 (fyV230)
          have rgz225 : 0 ≤ z225.toInt ∧ z225.toInt ≤ 1 := rgz225
          have t228 : px V192 V230 b := t228
          have t229 : Imp (z225.toInt = 0) (1 ≤ (V230 1 3).toInt) := t229
          refine lv_if_ne (tgt := 122) hx hb dX1_readNeed_117 (by decide) (fun c232 => ?_) (fun c232 => ?_)
          · skip
            have f233 : z225.toInt ≠ 0 := b_neq rfl (by decide) c232
            refine lv_aload_n hx hb dX1_readNeed_122 rfl (lv_at hl 3 rfl) ?_
            refine va_get (D := D) (ci := 1) (v := .int (V230 1 6)) (fs := (xfReader ad V230 L231 Z)) (C := RX1) (T := TX1) (N := 9) hx hb hg inX1 hown hK hP 1 xgReader rfl 6 (by decide) (hg _ w310) (fun _ h9 => h9) rfl dX1_readNeed_123 ?_
            have r234 : (-1) ≤ ((V230 1 6)).toInt ∧ ((V230 1 6)).toInt ≤ 23 := hMV230 1 6
            refine lv_istore_n (lv' := [(3, .int (V230 1 6)), (2, .int (V184 1 6)), (1, .int 1), (0, .ref (ad 1))]) hx hb dX1_readNeed_126 rfl hl (by decide) rfl (fun ls hl => ?_)
            refine lv_aload_n hx hb dX1_readNeed_127 rfl (lv_at hl 3 rfl) ?_
            refine lv_bipush (v := 59) hx hb dX1_readNeed_128 (by decide) ?_
            have r235 : Int32.toInt 59 = 59 := by decide
            refine gA_int (gA_runV (As := [.int 59]) (rest := []) (ci := 1) (q0 := 1) hx hb hml hown hg hP hD hK hS hA hnw hgk (x_take l D ks H.size ad kk V230 L231 Z 59 hMV230 ) w893 w895 w10 w162 w896 rfl xgReader hdV_yX1_take ⟨Nat.le_of_ble_eq_true rfl, Nat.le_of_ble_eq_true rfl⟩ rfl hl.1 rfl (Nat.le_of_ble_eq_true rfl) dX1_readNeed_130 ⟨Nat.le_of_ble_eq_true rfl, Nat.le_of_ble_eq_true rfl⟩) hP hD hK hS hA (fun z236 u237 H locs w238 hP hD hK hS => ?_)
            obtain ⟨V240, L241⟩ := u237
            obtain ⟨hMV240, ajV240, axL241, rgz236, t239⟩ := w238
            have alL241 : agL [6, 44] L L241 := agL.tr alL231 axL241 (by decide)
            have hP : va_P D vwCl (xw ad kk V240 L241 Z) H := hP
            have hD : va_D A (xw ad kk V240 L241 Z) := hD
            have hMV240 : rgd bX V240 := hMV240
            have ajV240 : agr [(1, 3), (6, 8), (6, 9), (6, 10)] [] V230 V240 := ajV240
            have agV240 : agr [(1, 3), (1, 6), (6, 8), (6, 9), (6, 10)] [43, 44, 49, 58, 59, 60] V V240 := agV230.tr ajV240 (by decide) (by decide)
            have fwV240 : frX (xR b) V V240 := frX.tr fwV230 (frX.ag ajV240 (by decide) (by decide))
            have rgz236 : 0 ≤ z236.toInt ∧ z236.toInt ≤ 1 := rgz236
            have t239 : Imp (z236.toInt = 0) (1 ≤ (V240 1 3).toInt) := t239
            refine lv_if_ne (tgt := 138) hx hb dX1_readNeed_133 (by decide) (fun c242 => ?_) (fun c242 => ?_)
            · skip
              have f243 : z236.toInt ≠ 0 := b_neq rfl (by decide) c242
              refine lv_aload_n hx hb dX1_readNeed_138 rfl (lv_at hl 3 rfl) ?_
              refine va_get (D := D) (ci := 1) (v := rfN ad 72 (V240 1 2)) (fs := (xfReader ad V240 L241 Z)) (C := RX1) (T := TX1) (N := 9) hx hb hg inX1 hown hK hP 1 xgReader rfl 2 (by decide) (hg _ w306) (fun _ h9 => h9) rfl dX1_readNeed_139 ?_
              have pq244 : (V240 1 2).toInt = ((V 1 2)).toInt := congrArg Int32.toInt ((ajV240 1 2 rfl).trans ((ajV230 1 2 rfl).trans ((ajV192 1 2 rfl).trans ((ajV184 1 2 rfl).trans ((ajV176 1 2 rfl).trans (ajV9 1 2 rfl))))))
              refine g_topv (v := .ref (ad (72 + go))) (rfN_r (by first | omega | ((try (have i_t182 := Imp.go t182 (imp_a (rgz179.1) (rgz179.2) (f188)))); omega) | ((try (have i_t239 := Imp.go t239 (by omega))); (try (have i_t229 := Imp.go t229 (by omega))); (try (have i_t183 := Imp.go t183 (by omega))); (try (have i_t182 := Imp.go t182 (by omega))); first | omega | ((try (have i_tx := Imp.go tx (by omega))); (try (have i_cd := Imp.go cd (by omega))); (try (have i_cd := Imp.go cd (by omega))); (try (have i_tx := Imp.go tx (by omega))); first | omega | ((try (have i_t182 := Imp.go t182 (by omega))); (try (have i_t183 := Imp.go t183 (by omega))); (try (have i_t229 := Imp.go t229 (by omega))); (try (have i_t239 := Imp.go t239 (by omega))); omega))))) ?_
              refine lv_iload_n hx hb dX1_readNeed_142 rfl (lv_at hl 2 rfl) ?_
              refine lv_iload_n hx hb dX1_readNeed_143 rfl (lv_at hl 1 rfl) ?_
              refine lv_iload_n hx hb dX1_readNeed_144 rfl (lv_at hl 0 rfl) ?_
              have r245 : Int32.toInt 1 = 1 := by decide
              refine gA_void (gA_runV (As := [.int 1, .int (V184 1 6), .int (V230 1 6)]) (rest := []) (ci := 3) (q0 := (72 + go)) hx hb hml hown hg hP hD hK hS hA hnw hgk (x_addNeed l D ks H.size ad kk V240 L241 Z 1 (V184 1 6) (V230 1 6) (go) hMV240 (show go < 48 from by first | exact om_ed409a757601 hb2 hgh | first | omega | ((try (have i_t182 := Imp.go t182 (imp_a (rgz179.1) (rgz179.2) (f188)))); omega) | ((try (have i_t239 := Imp.go t239 (by omega))); (try (have i_t229 := Imp.go t229 (by omega))); (try (have i_t183 := Imp.go t183 (by omega))); (try (have i_t182 := Imp.go t182 (by omega))); first | omega | ((try (have i_tx := Imp.go tx (by omega))); (try (have i_cd := Imp.go cd (by omega))); (try (have i_cd := Imp.go cd (by omega))); (try (have i_tx := Imp.go tx (by omega))); first | omega | ((try (have i_t182 := Imp.go t182 (by omega))); (try (have i_t183 := Imp.go t183 (by omega))); (try (have i_t229 := Imp.go t229 (by omega))); (try (have i_t239 := Imp.go t239 (by omega))); omega))))) w1011 w1012 w1013 w169 w1014 rfl (xgComp hgo) hdV_yX3_addNeed ⟨Nat.le_of_ble_eq_true rfl, Nat.le_of_ble_eq_true rfl⟩ rfl hl.1 rfl (Nat.le_of_ble_eq_true rfl) dX1_readNeed_145 ⟨Nat.le_of_ble_eq_true rfl, Nat.le_of_ble_eq_true rfl⟩) hP hD hK hS hA (fun u247 H locs w248 hP hD hK hS => ?_)
              obtain ⟨V249, L250⟩ := u247
              obtain ⟨hMV249, ajV249, axL250, fyV249⟩ := w248
              have axL250 : L241 = L250 := Eq.symm axL250
              subst axL250
              have hP : va_P D vwCl (xw ad kk V249 L241 Z) H := hP
              have hD : va_D A (xw ad kk V249 L241 Z) := hD
              have hMV249 : rgd bX V249 := hMV249
              have ajV249 : agr [] [49, 58, 59, 60] V240 V249 := ajV249
              have agV249 : agr [(1, 3), (1, 6), (6, 8), (6, 9), (6, 10)] [43, 44, 49, 58, 59, 60] V V249 := agV240.tr ajV249 (by decide) (by decide)
              have fwV249 : frX (xR b) V V249 := frX.tr fwV240 (frX_IB fyV249 (by first | omega | ((try (have i_t182 := Imp.go t182 (imp_a (rgz179.1) (rgz179.2) (f188)))); omega) | ((try (have i_t239 := Imp.go t239 (by omega))); (try (have i_t229 := Imp.go t229 (by omega))); (try (have i_t183 := Imp.go t183 (by omega))); (try (have i_t182 := Imp.go t182 (by omega))); first | omega | ((try (have i_tx := Imp.go tx (by omega))); (try (have i_cd := Imp.go cd (by omega))); (try (have i_cd := Imp.go cd (by omega))); (try (have i_tx := Imp.go tx (by omega))); first | omega | ((try (have i_t182 := Imp.go t182 (by omega))); (try (have i_t183 := Imp.go t183 (by omega))); (try (have i_t229 := Imp.go t229 (by omega))); (try (have i_t239 := Imp.go t239 (by omega))); omega)))) (by first | omega | ((try (have i_t182 := Imp.go t182 (imp_a (rgz179.1) (rgz179.2) (f188)))); omega) | ((try (have i_t239 := Imp.go t239 (by omega))); (try (have i_t229 := Imp.go t229 (by omega))); (try (have i_t183 := Imp.go t183 (by omega))); (try (have i_t182 := Imp.go t182 (by omega))); first | omega | ((try (have i_tx := Imp.go tx (by omega))); (try (have i_cd := Imp.go cd (by omega))); (try (have i_cd := Imp.go cd (by omega))); (try (have i_tx := Imp.go tx (by omega))); first | omega | ((try (have i_t182 := Imp.go t182 (by omega))); (try (have i_t183 := Imp.go t183 (by omega))); (try (have i_t229 := Imp.go t229 (by omega))); (try (have i_t239 := Imp.go t239 (by omega))); omega)))))
              refine lv_iconst (v := 1) hx hb dX1_readNeed_148 (by decide) ?_
              have pq251 : (V249 1 3).toInt = ((V240 1 3)).toInt := congrArg Int32.toInt (ajV249 1 3 rfl)
              have px252 : px V V192 b := px.tr (px.rf : px V V b) (px.ag (show agr [(1, 3), (1, 6), (6, 8), (6, 9), (6, 10)] [] V V192 from (agr.tr (agr.tr (agr.tr (agr.tr agr.rf ajV9 (by decide) (by decide)) ajV176 (by decide) (by decide)) ajV184 (by decide) (by decide)) ajV192 (by decide) (by decide))) (fun _ => rfl) (fun _ => rfl) (fun _ => rfl))
              have px253 : px V V230 b := px.tr px252 t228
              have px254 : px V V249 b := px.tr px253 (px.ag (show agr [(1, 3), (6, 8), (6, 9), (6, 10)] [49, 58, 59, 60] V230 V249 from (agr.tr (agr.tr agr.rf ajV240 (by decide) (by decide)) ajV249 (by decide) (by decide))) (fun _ => rfl) (fun _ => rfl) (fun _ => rfl))
              have tx255 : TX V249 b := TX.ag tx (show agr [(1, 3), (1, 6), (6, 8), (6, 9), (6, 10)] [43, 44, 49, 58, 59, 60] V V249 from (agr.tr (agr.tr (agr.tr (agr.tr (agr.tr (agr.tr (agr.tr agr.rf ajV9 (by decide) (by decide)) ajV176 (by decide) (by decide)) ajV184 (by decide) (by decide)) ajV192 (by decide) (by decide)) ajV230 (by decide) (by decide)) ajV240 (by decide) (by decide)) ajV249 (by decide) (by decide))) px254 (fun _ => rfl) (fun _ => rfl) (fun _ => rfl) (fun _ => rfl) (fun _ => rfl) (fun _ => rfl)
              have cd256 : CD V249 b := ⟨CB.ag cd.1 (show agr [(1, 3), (1, 6), (6, 8), (6, 9), (6, 10)] [43, 44, 49, 58, 59, 60] V V249 from (agr.tr (agr.tr (agr.tr (agr.tr (agr.tr (agr.tr (agr.tr agr.rf ajV9 (by decide) (by decide)) ajV176 (by decide) (by decide)) ajV184 (by decide) (by decide)) ajV192 (by decide) (by decide)) ajV230 (by decide) (by decide)) ajV240 (by decide) (by decide)) ajV249 (by decide) (by decide))) (fun _ => rfl) (fun _ => rfl), CO.ag cd.2 (show agr [(1, 3), (1, 6), (6, 8), (6, 9), (6, 10)] [43, 44, 49, 58, 59, 60] V V249 from (agr.tr (agr.tr (agr.tr (agr.tr (agr.tr (agr.tr (agr.tr agr.rf ajV9 (by decide) (by decide)) ajV176 (by decide) (by decide)) ajV184 (by decide) (by decide)) ajV192 (by decide) (by decide)) ajV230 (by decide) (by decide)) ajV240 (by decide) (by decide)) ajV249 (by decide) (by decide))) (fun _ => rfl) (fun _ => rfl)⟩
              have px257 : px V V192 b := px.tr (px.rf : px V V b) (px.ag (show agr [(1, 3), (1, 6), (6, 8), (6, 9), (6, 10)] [] V V192 from (agr.tr (agr.tr (agr.tr (agr.tr agr.rf ajV9 (by decide) (by decide)) ajV176 (by decide) (by decide)) ajV184 (by decide) (by decide)) ajV192 (by decide) (by decide))) (fun _ => rfl) (fun _ => rfl) (fun _ => rfl))
              have px258 : px V V230 b := px.tr px257 t228
              have px259 : px V V249 b := px.tr px258 (px.ag (show agr [(1, 3), (6, 8), (6, 9), (6, 10)] [49, 58, 59, 60] V230 V249 from (agr.tr (agr.tr agr.rf ajV240 (by decide) (by decide)) ajV249 (by decide) (by decide))) (fun _ => rfl) (fun _ => rfl) (fun _ => rfl))
              exact W.zret (v := 1) hx hb hr rfl (fun t ht hW => ⟨⟨1, (V249, L241), rfl, ⟨hMV249, agV249, alL241, fwV249, (by decide), tx255, cd256, px259, (Imp.mk (fun hp => absurd hp (by decide)))⟩, by rw [ht]; exact hP, va_K.moved hW.alike hK, hD⟩, hS.F ht⟩) hS.2.2 dX1_readNeed_149
            · skip
              have f260 : z236.toInt = 0 := b_eq rfl (by decide) c242
              refine lv_iconst (v := 0) hx hb dX1_readNeed_136 (by decide) ?_
              have px261 : px V V192 b := px.tr (px.rf : px V V b) (px.ag (show agr [(1, 3), (1, 6), (6, 8), (6, 9), (6, 10)] [] V V192 from (agr.tr (agr.tr (agr.tr (agr.tr agr.rf ajV9 (by decide) (by decide)) ajV176 (by decide) (by decide)) ajV184 (by decide) (by decide)) ajV192 (by decide) (by decide))) (fun _ => rfl) (fun _ => rfl) (fun _ => rfl))
              have px262 : px V V230 b := px.tr px261 t228
              have px263 : px V V240 b := px.tr px262 (px.ag (show agr [(1, 3), (6, 8), (6, 9), (6, 10)] [] V230 V240 from (agr.tr agr.rf ajV240 (by decide) (by decide))) (fun _ => rfl) (fun _ => rfl) (fun _ => rfl))
              have tx264 : TX V240 b := TX.ag tx (show agr [(1, 3), (1, 6), (6, 8), (6, 9), (6, 10)] [43, 44] V V240 from (agr.tr (agr.tr (agr.tr (agr.tr (agr.tr (agr.tr agr.rf ajV9 (by decide) (by decide)) ajV176 (by decide) (by decide)) ajV184 (by decide) (by decide)) ajV192 (by decide) (by decide)) ajV230 (by decide) (by decide)) ajV240 (by decide) (by decide))) px263 (fun _ => rfl) (fun _ => rfl) (fun _ => rfl) (fun _ => rfl) (fun _ => rfl) (fun _ => rfl)
              have cd265 : CD V240 b := ⟨CB.ag cd.1 (show agr [(1, 3), (1, 6), (6, 8), (6, 9), (6, 10)] [43, 44] V V240 from (agr.tr (agr.tr (agr.tr (agr.tr (agr.tr (agr.tr agr.rf ajV9 (by decide) (by decide)) ajV176 (by decide) (by decide)) ajV184 (by decide) (by decide)) ajV192 (by decide) (by decide)) ajV230 (by decide) (by decide)) ajV240 (by decide) (by decide))) (fun _ => rfl) (fun _ => rfl), CO.ag cd.2 (show agr [(1, 3), (1, 6), (6, 8), (6, 9), (6, 10)] [43, 44] V V240 from (agr.tr (agr.tr (agr.tr (agr.tr (agr.tr (agr.tr agr.rf ajV9 (by decide) (by decide)) ajV176 (by decide) (by decide)) ajV184 (by decide) (by decide)) ajV192 (by decide) (by decide)) ajV230 (by decide) (by decide)) ajV240 (by decide) (by decide))) (fun _ => rfl) (fun _ => rfl)⟩
              have px266 : px V V192 b := px.tr (px.rf : px V V b) (px.ag (show agr [(1, 3), (1, 6), (6, 8), (6, 9), (6, 10)] [] V V192 from (agr.tr (agr.tr (agr.tr (agr.tr agr.rf ajV9 (by decide) (by decide)) ajV176 (by decide) (by decide)) ajV184 (by decide) (by decide)) ajV192 (by decide) (by decide))) (fun _ => rfl) (fun _ => rfl) (fun _ => rfl))
              have px267 : px V V230 b := px.tr px266 t228
              have px268 : px V V240 b := px.tr px267 (px.ag (show agr [(1, 3), (6, 8), (6, 9), (6, 10)] [] V230 V240 from (agr.tr agr.rf ajV240 (by decide) (by decide))) (fun _ => rfl) (fun _ => rfl) (fun _ => rfl))
              exact W.zret (v := 0) hx hb hr rfl (fun t ht hW => ⟨⟨0, (V240, L241), rfl, ⟨hMV240, agV240, alL241, fwV240, (by decide), tx264, cd265, px268, (Imp.mk (fun _ => (show 1 ≤ (V240 1 3).toInt from by first | exact om_f8d8213eda45 ((Imp.go t239 (f260))) | first | omega | ((try (have i_t239 := Imp.go t239 (f260))); (try (have i_t182 := Imp.go t182 (imp_a (rgz179.1) (rgz179.2) (f188)))); omega) | ((try (have i_t239 := Imp.go t239 (by omega))); (try (have i_t229 := Imp.go t229 (by omega))); (try (have i_t183 := Imp.go t183 (by omega))); (try (have i_t182 := Imp.go t182 (by omega))); first | omega | ((try (have i_tx := Imp.go tx (by omega))); (try (have i_cd := Imp.go cd (by omega))); (try (have i_cd := Imp.go cd (by omega))); (try (have i_tx := Imp.go tx (by omega))); first | omega | ((try (have i_t182 := Imp.go t182 (by omega))); (try (have i_t183 := Imp.go t183 (by omega))); (try (have i_t229 := Imp.go t229 (by omega))); (try (have i_t239 := Imp.go t239 (by omega))); omega))))))⟩, by rw [ht]; exact hP, va_K.moved hW.alike hK, hD⟩, hS.F ht⟩) hS.2.2 dX1_readNeed_137
          · skip
            have f269 : z225.toInt = 0 := b_eq rfl (by decide) c232
            refine lv_iconst (v := 0) hx hb dX1_readNeed_120 (by decide) ?_
            have px270 : px V V192 b := px.tr (px.rf : px V V b) (px.ag (show agr [(1, 3), (1, 6), (6, 8), (6, 9), (6, 10)] [] V V192 from (agr.tr (agr.tr (agr.tr (agr.tr agr.rf ajV9 (by decide) (by decide)) ajV176 (by decide) (by decide)) ajV184 (by decide) (by decide)) ajV192 (by decide) (by decide))) (fun _ => rfl) (fun _ => rfl) (fun _ => rfl))
            have px271 : px V V230 b := px.tr px270 t228
            have tx272 : TX V230 b := TX.ag tx (show agr [(1, 3), (1, 6), (6, 8), (6, 9), (6, 10)] [43, 44] V V230 from (agr.tr (agr.tr (agr.tr (agr.tr (agr.tr agr.rf ajV9 (by decide) (by decide)) ajV176 (by decide) (by decide)) ajV184 (by decide) (by decide)) ajV192 (by decide) (by decide)) ajV230 (by decide) (by decide))) px271 (fun _ => rfl) (fun _ => rfl) (fun _ => rfl) (fun _ => rfl) (fun _ => rfl) (fun _ => rfl)
            have cd273 : CD V230 b := ⟨CB.ag cd.1 (show agr [(1, 3), (1, 6), (6, 8), (6, 9), (6, 10)] [43, 44] V V230 from (agr.tr (agr.tr (agr.tr (agr.tr (agr.tr agr.rf ajV9 (by decide) (by decide)) ajV176 (by decide) (by decide)) ajV184 (by decide) (by decide)) ajV192 (by decide) (by decide)) ajV230 (by decide) (by decide))) (fun _ => rfl) (fun _ => rfl), CO.ag cd.2 (show agr [(1, 3), (1, 6), (6, 8), (6, 9), (6, 10)] [43, 44] V V230 from (agr.tr (agr.tr (agr.tr (agr.tr (agr.tr agr.rf ajV9 (by decide) (by decide)) ajV176 (by decide) (by decide)) ajV184 (by decide) (by decide)) ajV192 (by decide) (by decide)) ajV230 (by decide) (by decide))) (fun _ => rfl) (fun _ => rfl)⟩
            have px274 : px V V192 b := px.tr (px.rf : px V V b) (px.ag (show agr [(1, 3), (1, 6), (6, 8), (6, 9), (6, 10)] [] V V192 from (agr.tr (agr.tr (agr.tr (agr.tr agr.rf ajV9 (by decide) (by decide)) ajV176 (by decide) (by decide)) ajV184 (by decide) (by decide)) ajV192 (by decide) (by decide))) (fun _ => rfl) (fun _ => rfl) (fun _ => rfl))
            have px275 : px V V230 b := px.tr px274 t228
            exact W.zret (v := 0) hx hb hr rfl (fun t ht hW => ⟨⟨0, (V230, L231), rfl, ⟨hMV230, agV230, alL231, fwV230, (by decide), tx272, cd273, px275, (Imp.mk (fun _ => (show 1 ≤ (V230 1 3).toInt from by first | exact om_f8d8213eda45 ((Imp.go t229 (f269))) | first | omega | ((try (have i_t229 := Imp.go t229 (f269))); (try (have i_t182 := Imp.go t182 (imp_a (rgz179.1) (rgz179.2) (f188)))); omega) | ((try (have i_t229 := Imp.go t229 (by omega))); (try (have i_t183 := Imp.go t183 (by omega))); (try (have i_t182 := Imp.go t182 (by omega))); (try (have i_tx := Imp.go tx (by omega))); first | omega | ((try (have i_cd := Imp.go cd (by omega))); (try (have i_cd := Imp.go cd (by omega))); (try (have i_tx := Imp.go tx (by omega))); (try (have i_t182 := Imp.go t182 (by omega))); (try (have i_t183 := Imp.go t183 (by omega))); (try (have i_t229 := Imp.go t229 (by omega))); omega)))))⟩, by rw [ht]; exact hP, va_K.moved hW.alike hK, hD⟩, hS.F ht⟩) hS.2.2 dX1_readNeed_121
      · skip
        have f276 : z179.toInt = 0 := b_eq rfl (by decide) c187
        refine lv_iconst (v := 0) hx hb dX1_readNeed_79 (by decide) ?_
        have px277 : px V V184 b := px.tr (px.rf : px V V b) (px.ag (show agr [(1, 3), (1, 6), (6, 8), (6, 9), (6, 10)] [] V V184 from (agr.tr (agr.tr (agr.tr agr.rf ajV9 (by decide) (by decide)) ajV176 (by decide) (by decide)) ajV184 (by decide) (by decide))) (fun _ => rfl) (fun _ => rfl) (fun _ => rfl))
        have tx278 : TX V184 b := TX.ag tx (show agr [(1, 3), (1, 6), (6, 8), (6, 9), (6, 10)] [] V V184 from (agr.tr (agr.tr (agr.tr agr.rf ajV9 (by decide) (by decide)) ajV176 (by decide) (by decide)) ajV184 (by decide) (by decide))) px277 (fun _ => rfl) (fun _ => rfl) (fun _ => rfl) (fun _ => rfl) (fun _ => rfl) (fun _ => rfl)
        have cd279 : CD V184 b := ⟨CB.ag cd.1 (show agr [(1, 3), (1, 6), (6, 8), (6, 9), (6, 10)] [] V V184 from (agr.tr (agr.tr (agr.tr agr.rf ajV9 (by decide) (by decide)) ajV176 (by decide) (by decide)) ajV184 (by decide) (by decide))) (fun _ => rfl) (fun _ => rfl), CO.ag cd.2 (show agr [(1, 3), (1, 6), (6, 8), (6, 9), (6, 10)] [] V V184 from (agr.tr (agr.tr (agr.tr agr.rf ajV9 (by decide) (by decide)) ajV176 (by decide) (by decide)) ajV184 (by decide) (by decide))) (fun _ => rfl) (fun _ => rfl)⟩
        have px280 : px V V184 b := px.tr (px.rf : px V V b) (px.ag (show agr [(1, 3), (1, 6), (6, 8), (6, 9), (6, 10)] [] V V184 from (agr.tr (agr.tr (agr.tr agr.rf ajV9 (by decide) (by decide)) ajV176 (by decide) (by decide)) ajV184 (by decide) (by decide))) (fun _ => rfl) (fun _ => rfl) (fun _ => rfl))
        exact W.zret (v := 0) hx hb hr rfl (fun t ht hW => ⟨⟨0, (V184, L177), rfl, ⟨hMV184, agV184, alL177, fwV184, (by decide), tx278, cd279, px280, (Imp.mk (fun _ => (show 1 ≤ (V184 1 3).toInt from by first | exact om_f8d8213eda45 ((Imp.go t183 (f276))) | first | omega | ((try (have i_t183 := Imp.go t183 (f276))); omega) | ((try (have i_t183 := Imp.go t183 (by omega))); (try (have i_t182 := Imp.go t182 (by omega))); (try (have i_tx := Imp.go tx (by omega))); (try (have i_cd := Imp.go cd (by omega))); first | omega | ((try (have i_cd := Imp.go cd (by omega))); (try (have i_tx := Imp.go tx (by omega))); (try (have i_t182 := Imp.go t182 (by omega))); (try (have i_t183 := Imp.go t183 (by omega))); omega)))))⟩, by rw [ht]; exact hP, va_K.moved hW.alike hK, hD⟩, hS.F ht⟩) hS.2.2 dX1_readNeed_80
  · skip
    have f281 : 8 ≤ ((V 49 go)).toInt := b_nlt rfl (by decide) c4
    refine lv_aload_n hx hb dX1_readNeed_12 rfl (lv_at hl 0 rfl) ?_
    refine lv_iconst (v := 5) hx hb dX1_readNeed_13 (by decide) ?_
    have r282 : Int32.toInt 5 = 5 := by decide
    refine gA_int (gA_runV (As := [.int 5]) (rest := []) (ci := 1) (q0 := 1) hx hb hml hown hg hP hD hK hS hA hnw hgk (x_wrong l D ks H.size ad kk V L Z 5 hMV (by decide)) w867 w869 w6 w162 w870 rfl xgReader hdV_yX1_wrong ⟨Nat.le_of_ble_eq_true rfl, Nat.le_of_ble_eq_true rfl⟩ rfl hl.1 rfl (Nat.le_of_ble_eq_true rfl) dX1_readNeed_14 ⟨Nat.le_of_ble_eq_true rfl, Nat.le_of_ble_eq_true rfl⟩) hP hD hK hS hA (fun z283 u284 H locs w285 hP hD hK hS => ?_)
    obtain ⟨V287, L288⟩ := u284
    obtain ⟨hMV287, ajV287, axL288, rgz283, t286⟩ := w285
    have axL288 : L = L288 := Eq.symm axL288
    subst axL288
    have hP : va_P D vwCl (xw ad kk V287 L Z) H := hP
    have hD : va_D A (xw ad kk V287 L Z) := hD
    have hMV287 : rgd bX V287 := hMV287
    have ajV287 : agr [(1, 3)] [] V V287 := ajV287
    have agV287 : agr [(1, 3), (1, 6), (6, 8), (6, 9), (6, 10)] [43, 44, 49, 58, 59, 60] V V287 := agV.tr ajV287 (by decide) (by decide)
    have fwV287 : frX (xR b) V V287 := frX.tr fwV (frX.ag ajV287 (by decide) (by decide))
    have rgz283 : 0 ≤ z283.toInt ∧ z283.toInt ≤ 0 := rgz283
    have t286 : 1 ≤ (V287 1 3).toInt := t286
    have px289 : px V V287 b := px.tr (px.rf : px V V b) (px.ag (show agr [(1, 3)] [] V V287 from (agr.tr agr.rf ajV287 (by decide) (by decide))) (fun _ => rfl) (fun _ => rfl) (fun _ => rfl))
    have tx290 : TX V287 b := TX.ag tx (show agr [(1, 3)] [] V V287 from (agr.tr agr.rf ajV287 (by decide) (by decide))) px289 (fun _ => rfl) (fun _ => rfl) (fun _ => rfl) (fun _ => rfl) (fun _ => rfl) (fun _ => rfl)
    have cd291 : CD V287 b := ⟨CB.ag cd.1 (show agr [(1, 3)] [] V V287 from (agr.tr agr.rf ajV287 (by decide) (by decide))) (fun _ => rfl) (fun _ => rfl), CO.ag cd.2 (show agr [(1, 3)] [] V V287 from (agr.tr agr.rf ajV287 (by decide) (by decide))) (fun _ => rfl) (fun _ => rfl)⟩
    have px292 : px V V287 b := px.tr (px.rf : px V V b) (px.ag (show agr [(1, 3)] [] V V287 from (agr.tr agr.rf ajV287 (by decide) (by decide))) (fun _ => rfl) (fun _ => rfl) (fun _ => rfl))
    exact W.zret (v := z283) hx hb hr (nb_ok (by omega)) (fun t ht hW => ⟨⟨z283, (V287, L), rfl, ⟨hMV287, agV287, alL, fwV287, (show 0 ≤ z283.toInt ∧ z283.toInt ≤ 1 from by first | exact om_641b3f05f166 rgz283.1 rgz283.2 | first | omega | ((try (have i_tx := Imp.go tx (by omega))); (try (have i_cd := Imp.go cd (by omega))); (try (have i_cd := Imp.go cd (by omega))); (try (have i_tx := Imp.go tx (by omega))); omega)), tx290, cd291, px292, (Imp.mk (fun hp => have hp : z283.toInt = 0 := hp; (show 1 ≤ (V287 1 3).toInt from by first | exact om_f8d8213eda45 t286 | first | omega | ((try (have i_tx := Imp.go tx (by omega))); (try (have i_cd := Imp.go cd (by omega))); (try (have i_cd := Imp.go cd (by omega))); (try (have i_tx := Imp.go tx (by omega))); omega))))⟩, by rw [ht]; exact hP, va_K.moved hW.alike hK, hD⟩, hS.F ht⟩) hS.2.2 dX1_readNeed_17
abbrev r_x_readMember : Room := { frames := 92, cells := 0, slots := 0, locals := 2704 }
abbrev q_x_readMember (D : va_G) (ks : KS) (ad : Nat → Nat) (kk : Nat → ClassId) (V : Vf) (L : Lf) (Z : XZ) (b : Nat) (go : Nat) (A : Nat → Prop) : Array Value → State → Outcome → State → Prop := va_Qi (fun (r : Int32) (u : Vf × Lf) => rgd bX u.1 ∧ agr [(1, 2), (1, 3), (1, 4), (1, 6), (1, 8), (6, 8), (6, 9), (6, 10)] [42, 43, 44, 48, 49, 56, 57, 58, 59, 60, 61] V u.1 ∧ agL [6, 44] L u.2 ∧ frX (xR b) V u.1 ∧ (0 ≤ r.toInt ∧ r.toInt ≤ 1) ∧ (TX u.1 b) ∧ ((u.1 1 2).toInt = (V 1 2).toInt ∨ (u.1 1 2).toInt = -1) ∧ (CD u.1 b) ∧ (px V u.1 b) ∧ (Imp (r.toInt = 0) (1 ≤ (u.1 1 3).toInt))) (fun u t => gq D A (xw ad kk u.1 u.2 Z) (xty kk Z) t) A
set_option maxHeartbeats 4000000 in
set_option maxRecDepth 100000 in
theorem x_readMember (l : Launch) (D : va_G) (ks : KS) (sz : Nat) (ad : Nat → Nat) (kk : Nat → ClassId) (V : Vf) (L : Lf) (Z : XZ) (b : Nat) (go : Nat) (hMV : rgd bX V) (hb2 : b < 2) (rbk : (V 1 1).toInt = (b : Int)) (own : (V 1 2).toInt = (go : Int)) (hgo : go < 48) (hgl : 24 * b ≤ go) (hgh : go < 24 * b + 24) (cd : CD V b) (tx : TX V b)  : Met l yX1_readMember (Cond.code yX1_readMember cX1_readMember 2 (some .boolean) :: GW) r_x_readMember (va_Pc [.ref (ad 1)] (gp D ks (xw ad kk V L Z) (xty kk Z) sz)) (q_x_readMember D ks ad kk V L Z  b go (va_A (xw ad kk V L Z) sz)) 0 0 (va_A (xw ad kk V L Z) sz) := by
  refine g_met (q_x_readMember D ks ad kk V L Z  b go) (by decide) (Nat.le_of_ble_eq_true rfl) ?_
  intro p e s m below meth c A ls H locs hx hb hr hml hown hg hlocks hin hnw hgk hP hK hD hS hA hl
  have hown : s.vm.findClass RX1 = some m.cls := hown
  have hl : lv_has ls 2 [(0, .ref (ad 1))] := hl
  have hP : va_P D vwCl (xw ad kk V L Z) H := hP
  have hD : va_D A (xw ad kk V L Z) := hD
  have hK : va_K D vwCl (xty kk Z) s := hK
  have agV : agr [(1, 2), (1, 3), (1, 4), (1, 6), (1, 8), (6, 8), (6, 9), (6, 10)] [42, 43, 44, 48, 49, 56, 57, 58, 59, 60, 61] V V := agr.rf
  have alL : agL [6, 44] L L := agL.rf
  have fwV : frX (xR b) V V := frX.rf
  have r1 : (-1) ≤ ((V 1 1)).toInt ∧ ((V 1 1)).toInt ≤ 1 := hMV 1 1
  have r2 : (-1) ≤ ((V 1 2)).toInt ∧ ((V 1 2)).toInt ≤ 47 := hMV 1 2
  refine lv_aload_n hx hb dX1_readMember_0 rfl (lv_at hl 0 rfl) ?_
  refine va_get (D := D) (ci := 1) (v := rfN ad 38 (V 1 1)) (fs := (xfReader ad V L Z)) (C := RX1) (T := TX1) (N := 9) hx hb hg inX1 hown hK hP 1 xgReader rfl 1 (by decide) (hg _ w305) (fun _ h9 => h9) rfl dX1_readMember_1 ?_
  refine g_topv (v := .ref (ad (38 + b))) (rfN_r (by first | omega | ((try (have i_tx := Imp.go tx (by omega))); (try (have i_cd := Imp.go cd (by omega))); (try (have i_cd := Imp.go cd (by omega))); (try (have i_tx := Imp.go tx (by omega))); omega))) ?_
  refine va_getN (D := D) (ci := 0) (v := .int (V 42 b)) (fs := (xfBook ad V b)) (C := RX0) (T := TX0) (N := 13) hx hb hg inX0 hown hK hP (38 + b) (xgBook hb2) rfl 12 (by decide) (hnw.use 630 n630 rfl) (fun _ h9 => h9) rfl dX1_readMember_4 ?_
  have r3 : 0 ≤ ((V 42 b)).toInt ∧ ((V 42 b)).toInt ≤ 8200 := hMV 42 b
  refine lv_istore_n (lv' := [(1, .int (V 42 b)), (0, .ref (ad 1))]) hx hb dX1_readMember_7 rfl hl (by decide) rfl (fun ls hl => ?_)
  refine lv_aload_n hx hb dX1_readMember_8 rfl (lv_at hl 1 rfl) ?_
  refine va_get (D := D) (ci := 1) (v := .ref (ad 6)) (fs := (xfReader ad V L Z)) (C := RX1) (T := TX1) (N := 9) hx hb hg inX1 hown hK hP 1 xgReader rfl 0 (by decide) (hg _ w304) (fun _ h9 => h9) rfl dX1_readMember_9 ?_
  refine va_getN (D := D) (ci := 9) (v := .int (V 6 9)) (fs := (xfTape ad V L Z)) (C := RX9) (T := TX9) (N := 12) hx hb hg inX9 hown hK hP 6 xgTape rfl 9 (by decide) (hnw.use 262 n262 rfl) (fun _ h9 => h9) rfl dX1_readMember_12 ?_
  by_cases q4 : (V 6 9) = 125
  · refine g_top (v := 125) q4 ?_
    have fq4 : ((V 6 9)).toInt = 125 := b_eq rfl (by decide) q4
    refine lv_lookup (x := 125) (off := 49) (tgt := 64) hx hb dX1_readMember_15 (by decide) (by decide) (by decide) ?_
    refine lv_aload_n hx hb dX1_readMember_64 rfl (lv_at hl 1 rfl) ?_
    refine lv_null hx hb dX1_readMember_65 ?_
    refine va_put (D := D) (ci := 1) (v := .null) (ty := tyX1 2) (fs := (xfReader ad V L Z)) (C := RX1) (T := TX1) (N := 9) hx hb hg inX1 tyX1 tyX1_ok nmX1 hown hK hP hD hS 1 xgReader rfl 2 (by decide) (hg _ w306) (fun _ h9 => h9) rfl (tyX1_ok 2 (by decide)) rfl rfl (Nat.le_of_ble_eq_true rfl) dX1_readMember_66 (fun H locs hP hD hS => ?_)
    obtain ⟨V5, hV5⟩ : ∃ z, z = up2 V 1 2 (-1) := ⟨_, rfl⟩
    have ew6 : (xw ad kk V L Z).set 1 ((ad 1), .inr (1, (xfReader ad V L Z).set 2 (.null))) = xw ad kk V5 L Z := by rw [hV5]; exact xr_owner_n
    have hP : va_P D vwCl (xw ad kk V5 L Z) H := by rw [← ew6]; exact hP
    have hD : va_D A (xw ad kk V5 L Z) := by rw [← ew6]; exact hD
    have hMV5 : rgd bX V5 := hMV.put hV5 (by decide)
    have agV5 : agr [(1, 2), (1, 3), (1, 4), (1, 6), (1, 8), (6, 8), (6, 9), (6, 10)] [42, 43, 44, 48, 49, 56, 57, 58, 59, 60, 61] V V5 := agV.up hV5 rfl
    have fwV5 : frX (xR b) V V5 := frX.up fwV hV5 (Or.inl (by decide))
    refine lv_aload_n hx hb dX1_readMember_69 rfl (lv_at hl 1 rfl) ?_
    refine va_get (D := D) (ci := 1) (v := .ref (ad 6)) (fs := (xfReader ad V5 L Z)) (C := RX1) (T := TX1) (N := 9) hx hb hg inX1 hown hK hP 1 xgReader rfl 0 (by decide) (hg _ w304) (fun _ h9 => h9) rfl dX1_readMember_70 ?_
    refine gA_void (gA_runV (As := []) (rest := []) (ci := 9) (q0 := 6) hx hb hml hown hg hP hD hK hS hA hnw hgk (x_next l D ks H.size ad kk V5 L Z  hMV5 ) w871 w852 w853 w157 w854 rfl xgTape hdV_yX9_next ⟨Nat.le_of_ble_eq_true rfl, Nat.le_of_ble_eq_true rfl⟩ rfl hl.1 rfl (Nat.le_of_ble_eq_true rfl) dX1_readMember_73 ⟨Nat.le_of_ble_eq_true rfl, Nat.le_of_ble_eq_true rfl⟩) hP hD hK hS hA (fun u8 H locs w9 hP hD hK hS => ?_)
    obtain ⟨V10, L11⟩ := u8
    obtain ⟨hMV10, ajV10, axL11⟩ := w9
    have alL11 : agL [6, 44] L L11 := agL.tr alL axL11 (by decide)
    have hP : va_P D vwCl (xw ad kk V10 L11 Z) H := hP
    have hD : va_D A (xw ad kk V10 L11 Z) := hD
    have hMV10 : rgd bX V10 := hMV10
    have ajV10 : agr [(6, 8), (6, 9), (6, 10)] [] V5 V10 := ajV10
    have agV10 : agr [(1, 2), (1, 3), (1, 4), (1, 6), (1, 8), (6, 8), (6, 9), (6, 10)] [42, 43, 44, 48, 49, 56, 57, 58, 59, 60, 61] V V10 := agV5.tr ajV10 (by decide) (by decide)
    have fwV10 : frX (xR b) V V10 := frX.tr fwV5 (frX.ag ajV10 (by decide) (by decide))
    refine lv_iconst (v := 1) hx hb dX1_readMember_76 (by decide) ?_
    have pq12 : (V10 1 2).toInt = (-1) := (congrArg Int32.toInt ((ajV10 1 2 rfl).trans (up2_s hV5))).trans (by decide)
    have pq13 : (V10 1 3).toInt = ((V 1 3)).toInt := congrArg Int32.toInt ((ajV10 1 3 rfl).trans (up2_k hV5 (by decide)))
    have px14 : px V V10 b := px.tr (px.rf : px V V b) (px.ag (show agr [(1, 2), (6, 8), (6, 9), (6, 10)] [] V V10 from (agr.tr (agr.up agr.rf hV5 rfl) ajV10 (by decide) (by decide))) (fun _ => rfl) (fun _ => rfl) (fun _ => rfl))
    have tx15 : TX V10 b := TX.ag tx (show agr [(1, 2), (6, 8), (6, 9), (6, 10)] [] V V10 from (agr.tr (agr.up agr.rf hV5 rfl) ajV10 (by decide) (by decide))) px14 (fun _ => rfl) (fun _ => rfl) (fun _ => rfl) (fun _ => rfl) (fun _ => rfl) (fun _ => rfl)
    have cd16 : CD V10 b := ⟨CB.ag cd.1 (show agr [(1, 2), (6, 8), (6, 9), (6, 10)] [] V V10 from (agr.tr (agr.up agr.rf hV5 rfl) ajV10 (by decide) (by decide))) (fun _ => rfl) (fun _ => rfl), CO.ag cd.2 (show agr [(1, 2), (6, 8), (6, 9), (6, 10)] [] V V10 from (agr.tr (agr.up agr.rf hV5 rfl) ajV10 (by decide) (by decide))) (fun _ => rfl) (fun _ => rfl)⟩
    have px17 : px V V10 b := px.tr (px.rf : px V V b) (px.ag (show agr [(1, 2), (6, 8), (6, 9), (6, 10)] [] V V10 from (agr.tr (agr.up agr.rf hV5 rfl) ajV10 (by decide) (by decide))) (fun _ => rfl) (fun _ => rfl) (fun _ => rfl))
    exact W.zret (v := 1) hx hb hr rfl (fun t ht hW => ⟨⟨1, (V10, L11), rfl, ⟨hMV10, agV10, alL11, fwV10, (by decide), tx15, (show (V10 1 2).toInt = (V 1 2).toInt ∨ (V10 1 2).toInt = -1 from by first | exact om_6f48dc75c980 pq12 | first | omega | ((try (have i_tx := Imp.go tx (by omega))); (try (have i_cd := Imp.go cd (by omega))); (try (have i_cd := Imp.go cd (by omega))); (try (have i_tx := Imp.go tx (by omega))); omega)), cd16, px17, (Imp.mk (fun hp => absurd hp (by decide)))⟩, by rw [ht]; exact hP, va_K.moved hW.alike hK, hD⟩, hS.F ht⟩) hS.2.2 dX1_readMember_77
  by_cases q18 : (V 6 9) = 137
  · refine g_top (v := 137) q18 ?_
    have fq18 : ((V 6 9)).toInt = 137 := b_eq rfl (by decide) q18
    refine lv_lookup (x := 137) (off := 63) (tgt := 78) hx hb dX1_readMember_15 (by decide) (by decide) (by decide) ?_
    refine lv_aload_n hx hb dX1_readMember_78 rfl (lv_at hl 1 rfl) ?_
    refine gA_int (gA_runV (As := []) (rest := []) (ci := 1) (q0 := 1) hx hb hml hown hg hP hD hK hS hA hnw hgk (x_readNeed l D ks H.size ad kk V L Z (b) (go) hMV (show b < 2 from by first | exact om_f940a4667dd6 hb2 | first | omega | ((try (have i_tx := Imp.go tx (by omega))); (try (have i_cd := Imp.go cd (by omega))); (try (have i_cd := Imp.go cd (by omega))); (try (have i_tx := Imp.go tx (by omega))); omega)) (show (V 1 1).toInt = (b : Int) from by first | exact om_08e0c9701055 rbk | first | omega | ((try (have i_tx := Imp.go tx (by omega))); (try (have i_cd := Imp.go cd (by omega))); (try (have i_cd := Imp.go cd (by omega))); (try (have i_tx := Imp.go tx (by omega))); omega)) (show (V 1 2).toInt = (go : Int) from by first | exact om_08e0c9701055 own | first | omega | ((try (have i_tx := Imp.go tx (by omega))); (try (have i_cd := Imp.go cd (by omega))); (try (have i_cd := Imp.go cd (by omega))); (try (have i_tx := Imp.go tx (by omega))); omega)) (show go < 48 from by first | exact om_ed409a757601 hb2 hgh | first | omega | ((try (have i_tx := Imp.go tx (by omega))); (try (have i_cd := Imp.go cd (by omega))); (try (have i_cd := Imp.go cd (by omega))); (try (have i_tx := Imp.go tx (by omega))); omega)) (show 24 * b ≤ go from by first | exact om_ef8c008e8399 hgl | first | omega | ((try (have i_tx := Imp.go tx (by omega))); (try (have i_cd := Imp.go cd (by omega))); (try (have i_cd := Imp.go cd (by omega))); (try (have i_tx := Imp.go tx (by omega))); omega)) (show go < 24 * b + 24 from by first | exact om_8af120267f01 hgh | first | omega | ((try (have i_tx := Imp.go tx (by omega))); (try (have i_cd := Imp.go cd (by omega))); (try (have i_cd := Imp.go cd (by omega))); (try (have i_tx := Imp.go tx (by omega))); omega)) cd tx) w1007 w1009 w32 w162 w1010 rfl xgReader hdV_yX1_readNeed ⟨Nat.le_of_ble_eq_true rfl, Nat.le_of_ble_eq_true rfl⟩ rfl hl.1 rfl (Nat.le_of_ble_eq_true rfl) dX1_readMember_79 ⟨Nat.le_of_ble_eq_true rfl, Nat.le_of_ble_eq_true rfl⟩) hP hD hK hS hA (fun z19 u20 H locs w21 hP hD hK hS => ?_)
    obtain ⟨V26, L27⟩ := u20
    obtain ⟨hMV26, ajV26, axL27, fyV26, rgz19, t22, t23, t24, t25⟩ := w21
    have alL27 : agL [6, 44] L L27 := agL.tr alL axL27 (by decide)
    have hP : va_P D vwCl (xw ad kk V26 L27 Z) H := hP
    have hD : va_D A (xw ad kk V26 L27 Z) := hD
    have hMV26 : rgd bX V26 := hMV26
    have ajV26 : agr [(1, 3), (1, 6), (6, 8), (6, 9), (6, 10)] [43, 44, 49, 58, 59, 60] V V26 := ajV26
    have agV26 : agr [(1, 2), (1, 3), (1, 4), (1, 6), (1, 8), (6, 8), (6, 9), (6, 10)] [42, 43, 44, 48, 49, 56, 57, 58, 59, 60, 61] V V26 := agV.tr ajV26 (by decide) (by decide)
    have fwV26 : frX (xR b) V V26 := frX.tr fwV (fyV26)
    have rgz19 : 0 ≤ z19.toInt ∧ z19.toInt ≤ 1 := rgz19
    have t22 : TX V26 b := t22
    have t23 : CD V26 b := t23
    have t24 : px V V26 b := t24
    have t25 : Imp (z19.toInt = 0) (1 ≤ (V26 1 3).toInt) := t25
    have pq28 : (V26 1 2).toInt = ((V 1 2)).toInt := congrArg Int32.toInt (ajV26 1 2 rfl)
    have px29 : px V V26 b := px.tr (px.rf : px V V b) t24
    exact W.zret (v := z19) hx hb hr (nb_ok (by omega)) (fun t ht hW => ⟨⟨z19, (V26, L27), rfl, ⟨hMV26, agV26, alL27, fwV26, (show 0 ≤ z19.toInt ∧ z19.toInt ≤ 1 from by first | exact om_eb7af9d60398 rgz19.1 rgz19.2 | first | omega | ((try (have i_t25 := Imp.go t25 (by omega))); (try (have i_tx := Imp.go tx (by omega))); (try (have i_cd := Imp.go cd (by omega))); (try (have i_cd := Imp.go cd (by omega))); (try (have i_tx := Imp.go tx (by omega))); (try (have i_t25 := Imp.go t25 (by omega))); omega)), t22, (show (V26 1 2).toInt = (V 1 2).toInt ∨ (V26 1 2).toInt = -1 from by first | exact om_170aa16621ff pq28 | first | omega | ((try (have i_t25 := Imp.go t25 (by omega))); (try (have i_tx := Imp.go tx (by omega))); (try (have i_cd := Imp.go cd (by omega))); (try (have i_cd := Imp.go cd (by omega))); (try (have i_tx := Imp.go tx (by omega))); (try (have i_t25 := Imp.go t25 (by omega))); omega)), t23, px29, (Imp.mk (fun hp => have hp : z19.toInt = 0 := hp; (show 1 ≤ (V26 1 3).toInt from by first | exact om_f8d8213eda45 ((Imp.go t25 (hp))) | first | omega | ((try (have i_t25 := Imp.go t25 (by omega))); (try (have i_tx := Imp.go tx (by omega))); (try (have i_cd := Imp.go cd (by omega))); (try (have i_cd := Imp.go cd (by omega))); (try (have i_tx := Imp.go tx (by omega))); (try (have i_t25 := Imp.go t25 (by omega))); omega))))⟩, by rw [ht]; exact hP, va_K.moved hW.alike hK, hD⟩, hS.F ht⟩) hS.2.2 dX1_readMember_82
  by_cases q30 : (V 6 9) = 140
  · refine g_top (v := 140) q30 ?_
    have fq30 : ((V 6 9)).toInt = 140 := b_eq rfl (by decide) q30
    refine lv_lookup (x := 140) (off := 68) (tgt := 83) hx hb dX1_readMember_15 (by decide) (by decide) (by decide) ?_
    refine lv_aload_n hx hb dX1_readMember_83 rfl (lv_at hl 1 rfl) ?_
    refine va_get (D := D) (ci := 1) (v := rfN ad 72 (V 1 2)) (fs := (xfReader ad V L Z)) (C := RX1) (T := TX1) (N := 9) hx hb hg inX1 hown hK hP 1 xgReader rfl 2 (by decide) (hg _ w306) (fun _ h9 => h9) rfl dX1_readMember_84 ?_
    refine g_topv (v := .ref (ad (72 + go))) (rfN_r (by first | omega | ((try (have i_tx := Imp.go tx (by omega))); (try (have i_cd := Imp.go cd (by omega))); (try (have i_cd := Imp.go cd (by omega))); (try (have i_tx := Imp.go tx (by omega))); omega))) ?_
    refine va_getN (D := D) (ci := 3) (v := .int (V 56 go)) (fs := (xfComp ad V go)) (C := RX3) (T := TX3) (N := 13) hx hb hg inX3 hown hK hP (72 + go) (xgComp hgo) rfl 11 (by decide) (hnw.use 538 n538 rfl) (fun _ h9 => h9) rfl dX1_readMember_87 ?_
    have r31 : (-1) ≤ ((V 56 go)).toInt ∧ ((V 56 go)).toInt ≤ 8200 := hMV 56 go
    refine lv_iconst (v := (-1)) hx hb dX1_readMember_90 (by decide) ?_
    refine lv_icmp_eq (tgt := 100) hx hb dX1_readMember_91 (by decide) (fun c32 => ?_) (fun c32 => ?_)
    · skip
      have f33 : ((V 56 go)).toInt = (-1) := b_eq rfl (by decide) c32
      refine lv_aload_n hx hb dX1_readMember_100 rfl (lv_at hl 1 rfl) ?_
      refine va_get (D := D) (ci := 1) (v := rfN ad 72 (V 1 2)) (fs := (xfReader ad V L Z)) (C := RX1) (T := TX1) (N := 9) hx hb hg inX1 hown hK hP 1 xgReader rfl 2 (by decide) (hg _ w306) (fun _ h9 => h9) rfl dX1_readMember_101 ?_
      refine g_topv (v := .ref (ad (72 + go))) (rfN_r (by first | omega | ((try (have i_tx := Imp.go tx (by omega))); (try (have i_cd := Imp.go cd (by omega))); (try (have i_cd := Imp.go cd (by omega))); (try (have i_tx := Imp.go tx (by omega))); omega))) ?_
      refine lv_iload_n hx hb dX1_readMember_104 rfl (lv_at hl 0 rfl) ?_
      refine va_putN (D := D) (ci := 3) (v := .int (V 42 b)) (ty := tyX3 11) (fs := (xfComp ad V go)) (C := RX3) (T := TX3) (N := 13) hx hb hg inX3 tyX3 tyX3_ok nmX3 hown hK hP hD hS (72 + go) (xgComp hgo) rfl 11 (by decide) (hnw.use 538 n538 rfl) (fun _ h9 => h9) rfl (tyX3_ok 11 (by decide)) rfl rfl (Nat.le_of_ble_eq_true rfl) dX1_readMember_105 (fun H locs hP hD hS => ?_)
      obtain ⟨V34, hV34⟩ : ∃ z, z = up2 V 56 go (V 42 b) := ⟨_, rfl⟩
      have ew35 : (xw ad kk V L Z).set (72 + go) ((ad (72 + go)), .inr (3, (xfComp ad V go).set 11 (.int (V 42 b)))) = xw ad kk V34 L Z := by rw [hV34]; exact xpComp_openedStart hgo
      have hP : va_P D vwCl (xw ad kk V34 L Z) H := by rw [← ew35]; exact hP
      have hD : va_D A (xw ad kk V34 L Z) := by rw [← ew35]; exact hD
      have hMV34 : rgd bX V34 := hMV.put hV34 (show (-1) ≤ ((V 42 b)).toInt ∧ ((V 42 b)).toInt ≤ 8200 from by first | exact om_7591b83d41f0 r3.1 r3.2 | first | omega | ((try (have i_tx := Imp.go tx (by omega))); (try (have i_cd := Imp.go cd (by omega))); (try (have i_cd := Imp.go cd (by omega))); (try (have i_tx := Imp.go tx (by omega))); omega))
      have agV34 : agr [(1, 2), (1, 3), (1, 4), (1, 6), (1, 8), (6, 8), (6, 9), (6, 10)] [42, 43, 44, 48, 49, 56, 57, 58, 59, 60, 61] V V34 := agV.up hV34 rfl
      have fwV34 : frX (xR b) V V34 := frX.up fwV hV34 (Or.inr ⟨(by show 24 * b ≤ go; first | exact om_ef8c008e8399 hgl | first | omega | ((try (have i_tx := Imp.go tx (by omega))); (try (have i_cd := Imp.go cd (by omega))); (try (have i_cd := Imp.go cd (by omega))); (try (have i_tx := Imp.go tx (by omega))); omega)), (by show go < 24 * b + 24; first | exact om_8af120267f01 hgh | first | omega | ((try (have i_tx := Imp.go tx (by omega))); (try (have i_cd := Imp.go cd (by omega))); (try (have i_cd := Imp.go cd (by omega))); (try (have i_tx := Imp.go tx (by omega))); omega))⟩)
      have cl36 : 0 ≤ (V 42 b).toInt ∧ (V 42 b).toInt ≤ 8200 := hMV 42 b
      have gs37 : gs V b (V 42 b).toInt := (CB.gs cd.1 (by (first | exact om_eafa9039069c r3.1 | omega))).up (px.rf : px V V b).1
      have tx38 : TX V34 b := TX.st tx hV34 (by decide) gs37
      refine lv_aload_n hx hb dX1_readMember_108 rfl (lv_at hl 1 rfl) ?_
      refine va_get (D := D) (ci := 1) (v := .ref (ad 6)) (fs := (xfReader ad V34 L Z)) (C := RX1) (T := TX1) (N := 9) hx hb hg inX1 hown hK hP 1 xgReader rfl 0 (by decide) (hg _ w304) (fun _ h9 => h9) rfl dX1_readMember_109 ?_
      refine gA_void (gA_runV (As := []) (rest := []) (ci := 9) (q0 := 6) hx hb hml hown hg hP hD hK hS hA hnw hgk (x_next l D ks H.size ad kk V34 L Z  hMV34 ) w871 w852 w853 w157 w854 rfl xgTape hdV_yX9_next ⟨Nat.le_of_ble_eq_true rfl, Nat.le_of_ble_eq_true rfl⟩ rfl hl.1 rfl (Nat.le_of_ble_eq_true rfl) dX1_readMember_112 ⟨Nat.le_of_ble_eq_true rfl, Nat.le_of_ble_eq_true rfl⟩) hP hD hK hS hA (fun u40 H locs w41 hP hD hK hS => ?_)
      obtain ⟨V42, L43⟩ := u40
      obtain ⟨hMV42, ajV42, axL43⟩ := w41
      have alL43 : agL [6, 44] L L43 := agL.tr alL axL43 (by decide)
      have hP : va_P D vwCl (xw ad kk V42 L43 Z) H := hP
      have hD : va_D A (xw ad kk V42 L43 Z) := hD
      have hMV42 : rgd bX V42 := hMV42
      have ajV42 : agr [(6, 8), (6, 9), (6, 10)] [] V34 V42 := ajV42
      have agV42 : agr [(1, 2), (1, 3), (1, 4), (1, 6), (1, 8), (6, 8), (6, 9), (6, 10)] [42, 43, 44, 48, 49, 56, 57, 58, 59, 60, 61] V V42 := agV34.tr ajV42 (by decide) (by decide)
      have fwV42 : frX (xR b) V V42 := frX.tr fwV34 (frX.ag ajV42 (by decide) (by decide))
      refine lv_aload_n hx hb dX1_readMember_115 rfl (lv_at hl 1 rfl) ?_
      refine lv_iconst (v := 0) hx hb dX1_readMember_116 (by decide) ?_
      have r44 : Int32.toInt 0 = 0 := by decide
      have pq45 : (V42 1 1).toInt = ((V 1 1)).toInt := congrArg Int32.toInt ((ajV42 1 1 rfl).trans (up2_o hV34 (by decide)))
      have cd46 : CD V42 b := ⟨CB.ag cd.1 (show agr [(6, 8), (6, 9), (6, 10)] [56] V V42 from (agr.tr (agr.up agr.rf hV34 rfl) ajV42 (by decide) (by decide))) (fun _ => rfl) (fun _ => rfl), CO.ag cd.2 (show agr [(6, 8), (6, 9), (6, 10)] [56] V V42 from (agr.tr (agr.up agr.rf hV34 rfl) ajV42 (by decide) (by decide))) (fun _ => rfl) (fun _ => rfl)⟩
      have px47 : px V34 V42 b := px.tr (px.rf : px V34 V34 b) (px.ag (show agr [(6, 8), (6, 9), (6, 10)] [] V34 V42 from (agr.tr agr.rf ajV42 (by decide) (by decide))) (fun _ => rfl) (fun _ => rfl) (fun _ => rfl))
      have tx48 : TX V42 b := TX.ag tx38 (show agr [(6, 8), (6, 9), (6, 10)] [] V34 V42 from (agr.tr agr.rf ajV42 (by decide) (by decide))) px47 (fun _ => rfl) (fun _ => rfl) (fun _ => rfl) (fun _ => rfl) (fun _ => rfl) (fun _ => rfl)
      refine gA_int (gA_runV (As := [.int 0]) (rest := []) (ci := 1) (q0 := 1) hx hb hml hown hg hP hD hK hS hA hnw hgk (x_readE l D ks H.size ad kk V42 L43 Z 0 (b) hMV42 (by decide) (show b < 2 from by first | exact om_f940a4667dd6 hb2 | first | omega | ((try (have i_tx := Imp.go tx (by omega))); (try (have i_cd := Imp.go cd (by omega))); (try (have i_cd := Imp.go cd (by omega))); (try (have i_tx := Imp.go tx (by omega))); omega)) (show (V42 1 1).toInt = (b : Int) from by first | exact om_adf531c77a0d rbk pq45 | first | omega | ((try (have i_tx := Imp.go tx (by omega))); (try (have i_cd := Imp.go cd (by omega))); (try (have i_cd := Imp.go cd (by omega))); (try (have i_tx := Imp.go tx (by omega))); omega)) cd46 tx48) w947 w949 w20 w162 w950 rfl xgReader hdV_yX1_readE ⟨Nat.le_of_ble_eq_true rfl, Nat.le_of_ble_eq_true rfl⟩ rfl hl.1 rfl (Nat.le_of_ble_eq_true rfl) dX1_readMember_117 ⟨Nat.le_of_ble_eq_true rfl, Nat.le_of_ble_eq_true rfl⟩) hP hD hK hS hA (fun z49 u50 H locs w51 hP hD hK hS => ?_)
      obtain ⟨V56, L57⟩ := u50
      obtain ⟨hMV56, ajV56, axL57, fyV56, rgz49, t52, t53, t54, t55⟩ := w51
      have alL57 : agL [6, 44] L L57 := agL.tr alL43 axL57 (by decide)
      have hP : va_P D vwCl (xw ad kk V56 L57 Z) H := hP
      have hD : va_D A (xw ad kk V56 L57 Z) := hD
      have hMV56 : rgd bX V56 := hMV56
      have ajV56 : agr [(1, 3), (1, 4), (1, 6), (1, 8), (6, 8), (6, 9), (6, 10)] [42, 43, 44, 48] V42 V56 := ajV56
      have agV56 : agr [(1, 2), (1, 3), (1, 4), (1, 6), (1, 8), (6, 8), (6, 9), (6, 10)] [42, 43, 44, 48, 49, 56, 57, 58, 59, 60, 61] V V56 := agV42.tr ajV56 (by decide) (by decide)
      have fwV56 : frX (xR b) V V56 := frX.tr fwV42 (fyV56)
      have rgz49 : 0 ≤ z49.toInt ∧ z49.toInt ≤ 1 := rgz49
      have t52 : TX V56 b := t52
      have t53 : CD V56 b := t53
      have t54 : px V42 V56 b := t54
      have t55 : Imp (z49.toInt = 0) (1 ≤ (V56 1 3).toInt) := t55
      have pq58 : (V56 1 2).toInt = ((V 1 2)).toInt := congrArg Int32.toInt ((ajV56 1 2 rfl).trans ((ajV42 1 2 rfl).trans (up2_o hV34 (by decide))))
      have px59 : px V V42 b := px.tr (px.rf : px V V b) (px.ag (show agr [(6, 8), (6, 9), (6, 10)] [56] V V42 from (agr.tr (agr.up agr.rf hV34 rfl) ajV42 (by decide) (by decide))) (fun _ => rfl) (fun _ => rfl) (fun _ => rfl))
      have px60 : px V V56 b := px.tr px59 t54
      exact W.zret (v := z49) hx hb hr (nb_ok (by omega)) (fun t ht hW => ⟨⟨z49, (V56, L57), rfl, ⟨hMV56, agV56, alL57, fwV56, (show 0 ≤ z49.toInt ∧ z49.toInt ≤ 1 from by first | exact om_eb7af9d60398 rgz49.1 rgz49.2 | first | omega | ((try (have i_t55 := Imp.go t55 (by omega))); (try (have i_tx := Imp.go tx (by omega))); (try (have i_cd := Imp.go cd (by omega))); (try (have i_cd := Imp.go cd (by omega))); (try (have i_tx := Imp.go tx (by omega))); (try (have i_t55 := Imp.go t55 (by omega))); omega)), t52, (show (V56 1 2).toInt = (V 1 2).toInt ∨ (V56 1 2).toInt = -1 from by first | exact om_170aa16621ff pq58 | first | omega | ((try (have i_t55 := Imp.go t55 (by omega))); (try (have i_tx := Imp.go tx (by omega))); (try (have i_cd := Imp.go cd (by omega))); (try (have i_cd := Imp.go cd (by omega))); (try (have i_tx := Imp.go tx (by omega))); (try (have i_t55 := Imp.go t55 (by omega))); omega)), t53, px60, (Imp.mk (fun hp => have hp : z49.toInt = 0 := hp; (show 1 ≤ (V56 1 3).toInt from by first | exact om_f8d8213eda45 ((Imp.go t55 (hp))) | first | omega | ((try (have i_t55 := Imp.go t55 (by omega))); (try (have i_tx := Imp.go tx (by omega))); (try (have i_cd := Imp.go cd (by omega))); (try (have i_cd := Imp.go cd (by omega))); (try (have i_tx := Imp.go tx (by omega))); (try (have i_t55 := Imp.go t55 (by omega))); omega))))⟩, by rw [ht]; exact hP, va_K.moved hW.alike hK, hD⟩, hS.F ht⟩) hS.2.2 dX1_readMember_120
    · skip
      have f61 : ((V 56 go)).toInt ≠ (-1) := b_neq rfl (by decide) c32
      refine lv_aload_n hx hb dX1_readMember_94 rfl (lv_at hl 1 rfl) ?_
      refine lv_iconst (v := 1) hx hb dX1_readMember_95 (by decide) ?_
      have r62 : Int32.toInt 1 = 1 := by decide
      refine gA_int (gA_runV (As := [.int 1]) (rest := []) (ci := 1) (q0 := 1) hx hb hml hown hg hP hD hK hS hA hnw hgk (x_wrong l D ks H.size ad kk V L Z 1 hMV (by decide)) w867 w869 w6 w162 w870 rfl xgReader hdV_yX1_wrong ⟨Nat.le_of_ble_eq_true rfl, Nat.le_of_ble_eq_true rfl⟩ rfl hl.1 rfl (Nat.le_of_ble_eq_true rfl) dX1_readMember_96 ⟨Nat.le_of_ble_eq_true rfl, Nat.le_of_ble_eq_true rfl⟩) hP hD hK hS hA (fun z63 u64 H locs w65 hP hD hK hS => ?_)
      obtain ⟨V67, L68⟩ := u64
      obtain ⟨hMV67, ajV67, axL68, rgz63, t66⟩ := w65
      have axL68 : L = L68 := Eq.symm axL68
      subst axL68
      have hP : va_P D vwCl (xw ad kk V67 L Z) H := hP
      have hD : va_D A (xw ad kk V67 L Z) := hD
      have hMV67 : rgd bX V67 := hMV67
      have ajV67 : agr [(1, 3)] [] V V67 := ajV67
      have agV67 : agr [(1, 2), (1, 3), (1, 4), (1, 6), (1, 8), (6, 8), (6, 9), (6, 10)] [42, 43, 44, 48, 49, 56, 57, 58, 59, 60, 61] V V67 := agV.tr ajV67 (by decide) (by decide)
      have fwV67 : frX (xR b) V V67 := frX.tr fwV (frX.ag ajV67 (by decide) (by decide))
      have rgz63 : 0 ≤ z63.toInt ∧ z63.toInt ≤ 0 := rgz63
      have t66 : 1 ≤ (V67 1 3).toInt := t66
      have pq69 : (V67 1 2).toInt = ((V 1 2)).toInt := congrArg Int32.toInt (ajV67 1 2 rfl)
      have px70 : px V V67 b := px.tr (px.rf : px V V b) (px.ag (show agr [(1, 3)] [] V V67 from (agr.tr agr.rf ajV67 (by decide) (by decide))) (fun _ => rfl) (fun _ => rfl) (fun _ => rfl))
      have tx71 : TX V67 b := TX.ag tx (show agr [(1, 3)] [] V V67 from (agr.tr agr.rf ajV67 (by decide) (by decide))) px70 (fun _ => rfl) (fun _ => rfl) (fun _ => rfl) (fun _ => rfl) (fun _ => rfl) (fun _ => rfl)
      have cd72 : CD V67 b := ⟨CB.ag cd.1 (show agr [(1, 3)] [] V V67 from (agr.tr agr.rf ajV67 (by decide) (by decide))) (fun _ => rfl) (fun _ => rfl), CO.ag cd.2 (show agr [(1, 3)] [] V V67 from (agr.tr agr.rf ajV67 (by decide) (by decide))) (fun _ => rfl) (fun _ => rfl)⟩
      have px73 : px V V67 b := px.tr (px.rf : px V V b) (px.ag (show agr [(1, 3)] [] V V67 from (agr.tr agr.rf ajV67 (by decide) (by decide))) (fun _ => rfl) (fun _ => rfl) (fun _ => rfl))
      exact W.zret (v := z63) hx hb hr (nb_ok (by omega)) (fun t ht hW => ⟨⟨z63, (V67, L), rfl, ⟨hMV67, agV67, alL, fwV67, (show 0 ≤ z63.toInt ∧ z63.toInt ≤ 1 from by first | exact om_641b3f05f166 rgz63.1 rgz63.2 | first | omega | ((try (have i_tx := Imp.go tx (by omega))); (try (have i_cd := Imp.go cd (by omega))); (try (have i_cd := Imp.go cd (by omega))); (try (have i_tx := Imp.go tx (by omega))); omega)), tx71, (show (V67 1 2).toInt = (V 1 2).toInt ∨ (V67 1 2).toInt = -1 from by first | exact om_170aa16621ff pq69 | first | omega | ((try (have i_tx := Imp.go tx (by omega))); (try (have i_cd := Imp.go cd (by omega))); (try (have i_cd := Imp.go cd (by omega))); (try (have i_tx := Imp.go tx (by omega))); omega)), cd72, px73, (Imp.mk (fun hp => have hp : z63.toInt = 0 := hp; (show 1 ≤ (V67 1 3).toInt from by first | exact om_f8d8213eda45 t66 | first | omega | ((try (have i_tx := Imp.go tx (by omega))); (try (have i_cd := Imp.go cd (by omega))); (try (have i_cd := Imp.go cd (by omega))); (try (have i_tx := Imp.go tx (by omega))); omega))))⟩, by rw [ht]; exact hP, va_K.moved hW.alike hK, hD⟩, hS.F ht⟩) hS.2.2 dX1_readMember_99
  by_cases q74 : (V 6 9) = 141
  · refine g_top (v := 141) q74 ?_
    have fq74 : ((V 6 9)).toInt = 141 := b_eq rfl (by decide) q74
    refine lv_lookup (x := 141) (off := 106) (tgt := 121) hx hb dX1_readMember_15 (by decide) (by decide) (by decide) ?_
    refine lv_aload_n hx hb dX1_readMember_121 rfl (lv_at hl 1 rfl) ?_
    refine va_get (D := D) (ci := 1) (v := rfN ad 72 (V 1 2)) (fs := (xfReader ad V L Z)) (C := RX1) (T := TX1) (N := 9) hx hb hg inX1 hown hK hP 1 xgReader rfl 2 (by decide) (hg _ w306) (fun _ h9 => h9) rfl dX1_readMember_122 ?_
    refine g_topv (v := .ref (ad (72 + go))) (rfN_r (by first | omega | ((try (have i_tx := Imp.go tx (by omega))); (try (have i_cd := Imp.go cd (by omega))); (try (have i_cd := Imp.go cd (by omega))); (try (have i_tx := Imp.go tx (by omega))); omega))) ?_
    refine va_getN (D := D) (ci := 3) (v := .int (V 57 go)) (fs := (xfComp ad V go)) (C := RX3) (T := TX3) (N := 13) hx hb hg inX3 hown hK hP (72 + go) (xgComp hgo) rfl 12 (by decide) (hnw.use 541 n541 rfl) (fun _ h9 => h9) rfl dX1_readMember_125 ?_
    have r75 : (-1) ≤ ((V 57 go)).toInt ∧ ((V 57 go)).toInt ≤ 8200 := hMV 57 go
    refine lv_iconst (v := (-1)) hx hb dX1_readMember_128 (by decide) ?_
    refine lv_icmp_eq (tgt := 138) hx hb dX1_readMember_129 (by decide) (fun c76 => ?_) (fun c76 => ?_)
    · skip
      have f77 : ((V 57 go)).toInt = (-1) := b_eq rfl (by decide) c76
      refine lv_aload_n hx hb dX1_readMember_138 rfl (lv_at hl 1 rfl) ?_
      refine va_get (D := D) (ci := 1) (v := rfN ad 72 (V 1 2)) (fs := (xfReader ad V L Z)) (C := RX1) (T := TX1) (N := 9) hx hb hg inX1 hown hK hP 1 xgReader rfl 2 (by decide) (hg _ w306) (fun _ h9 => h9) rfl dX1_readMember_139 ?_
      refine g_topv (v := .ref (ad (72 + go))) (rfN_r (by first | omega | ((try (have i_tx := Imp.go tx (by omega))); (try (have i_cd := Imp.go cd (by omega))); (try (have i_cd := Imp.go cd (by omega))); (try (have i_tx := Imp.go tx (by omega))); omega))) ?_
      refine lv_iload_n hx hb dX1_readMember_142 rfl (lv_at hl 0 rfl) ?_
      refine va_putN (D := D) (ci := 3) (v := .int (V 42 b)) (ty := tyX3 12) (fs := (xfComp ad V go)) (C := RX3) (T := TX3) (N := 13) hx hb hg inX3 tyX3 tyX3_ok nmX3 hown hK hP hD hS (72 + go) (xgComp hgo) rfl 12 (by decide) (hnw.use 541 n541 rfl) (fun _ h9 => h9) rfl (tyX3_ok 12 (by decide)) rfl rfl (Nat.le_of_ble_eq_true rfl) dX1_readMember_143 (fun H locs hP hD hS => ?_)
      obtain ⟨V78, hV78⟩ : ∃ z, z = up2 V 57 go (V 42 b) := ⟨_, rfl⟩
      have ew79 : (xw ad kk V L Z).set (72 + go) ((ad (72 + go)), .inr (3, (xfComp ad V go).set 12 (.int (V 42 b)))) = xw ad kk V78 L Z := by rw [hV78]; exact xpComp_closedStart hgo
      have hP : va_P D vwCl (xw ad kk V78 L Z) H := by rw [← ew79]; exact hP
      have hD : va_D A (xw ad kk V78 L Z) := by rw [← ew79]; exact hD
      have hMV78 : rgd bX V78 := hMV.put hV78 (show (-1) ≤ ((V 42 b)).toInt ∧ ((V 42 b)).toInt ≤ 8200 from by first | exact om_7591b83d41f0 r3.1 r3.2 | first | omega | ((try (have i_tx := Imp.go tx (by omega))); (try (have i_cd := Imp.go cd (by omega))); (try (have i_cd := Imp.go cd (by omega))); (try (have i_tx := Imp.go tx (by omega))); omega))
      have agV78 : agr [(1, 2), (1, 3), (1, 4), (1, 6), (1, 8), (6, 8), (6, 9), (6, 10)] [42, 43, 44, 48, 49, 56, 57, 58, 59, 60, 61] V V78 := agV.up hV78 rfl
      have fwV78 : frX (xR b) V V78 := frX.up fwV hV78 (Or.inr ⟨(by show 24 * b ≤ go; first | exact om_ef8c008e8399 hgl | first | omega | ((try (have i_tx := Imp.go tx (by omega))); (try (have i_cd := Imp.go cd (by omega))); (try (have i_cd := Imp.go cd (by omega))); (try (have i_tx := Imp.go tx (by omega))); omega)), (by show go < 24 * b + 24; first | exact om_8af120267f01 hgh | first | omega | ((try (have i_tx := Imp.go tx (by omega))); (try (have i_cd := Imp.go cd (by omega))); (try (have i_cd := Imp.go cd (by omega))); (try (have i_tx := Imp.go tx (by omega))); omega))⟩)
      have cl80 : 0 ≤ (V 42 b).toInt ∧ (V 42 b).toInt ≤ 8200 := hMV 42 b
      have gs81 : gs V b (V 42 b).toInt := (CB.gs cd.1 (by (first | exact om_eafa9039069c r3.1 | omega))).up (px.rf : px V V b).1
      have tx82 : TX V78 b := TX.st tx hV78 (by decide) gs81
      refine lv_aload_n hx hb dX1_readMember_146 rfl (lv_at hl 1 rfl) ?_
      refine va_get (D := D) (ci := 1) (v := .ref (ad 6)) (fs := (xfReader ad V78 L Z)) (C := RX1) (T := TX1) (N := 9) hx hb hg inX1 hown hK hP 1 xgReader rfl 0 (by decide) (hg _ w304) (fun _ h9 => h9) rfl dX1_readMember_147 ?_
      refine gA_void (gA_runV (As := []) (rest := []) (ci := 9) (q0 := 6) hx hb hml hown hg hP hD hK hS hA hnw hgk (x_next l D ks H.size ad kk V78 L Z  hMV78 ) w871 w852 w853 w157 w854 rfl xgTape hdV_yX9_next ⟨Nat.le_of_ble_eq_true rfl, Nat.le_of_ble_eq_true rfl⟩ rfl hl.1 rfl (Nat.le_of_ble_eq_true rfl) dX1_readMember_150 ⟨Nat.le_of_ble_eq_true rfl, Nat.le_of_ble_eq_true rfl⟩) hP hD hK hS hA (fun u84 H locs w85 hP hD hK hS => ?_)
      obtain ⟨V86, L87⟩ := u84
      obtain ⟨hMV86, ajV86, axL87⟩ := w85
      have alL87 : agL [6, 44] L L87 := agL.tr alL axL87 (by decide)
      have hP : va_P D vwCl (xw ad kk V86 L87 Z) H := hP
      have hD : va_D A (xw ad kk V86 L87 Z) := hD
      have hMV86 : rgd bX V86 := hMV86
      have ajV86 : agr [(6, 8), (6, 9), (6, 10)] [] V78 V86 := ajV86
      have agV86 : agr [(1, 2), (1, 3), (1, 4), (1, 6), (1, 8), (6, 8), (6, 9), (6, 10)] [42, 43, 44, 48, 49, 56, 57, 58, 59, 60, 61] V V86 := agV78.tr ajV86 (by decide) (by decide)
      have fwV86 : frX (xR b) V V86 := frX.tr fwV78 (frX.ag ajV86 (by decide) (by decide))
      refine lv_aload_n hx hb dX1_readMember_153 rfl (lv_at hl 1 rfl) ?_
      refine lv_iconst (v := 0) hx hb dX1_readMember_154 (by decide) ?_
      have r88 : Int32.toInt 0 = 0 := by decide
      have pq89 : (V86 1 1).toInt = ((V 1 1)).toInt := congrArg Int32.toInt ((ajV86 1 1 rfl).trans (up2_o hV78 (by decide)))
      have cd90 : CD V86 b := ⟨CB.ag cd.1 (show agr [(6, 8), (6, 9), (6, 10)] [57] V V86 from (agr.tr (agr.up agr.rf hV78 rfl) ajV86 (by decide) (by decide))) (fun _ => rfl) (fun _ => rfl), CO.ag cd.2 (show agr [(6, 8), (6, 9), (6, 10)] [57] V V86 from (agr.tr (agr.up agr.rf hV78 rfl) ajV86 (by decide) (by decide))) (fun _ => rfl) (fun _ => rfl)⟩
      have px91 : px V78 V86 b := px.tr (px.rf : px V78 V78 b) (px.ag (show agr [(6, 8), (6, 9), (6, 10)] [] V78 V86 from (agr.tr agr.rf ajV86 (by decide) (by decide))) (fun _ => rfl) (fun _ => rfl) (fun _ => rfl))
      have tx92 : TX V86 b := TX.ag tx82 (show agr [(6, 8), (6, 9), (6, 10)] [] V78 V86 from (agr.tr agr.rf ajV86 (by decide) (by decide))) px91 (fun _ => rfl) (fun _ => rfl) (fun _ => rfl) (fun _ => rfl) (fun _ => rfl) (fun _ => rfl)
      refine gA_int (gA_runV (As := [.int 0]) (rest := []) (ci := 1) (q0 := 1) hx hb hml hown hg hP hD hK hS hA hnw hgk (x_readE l D ks H.size ad kk V86 L87 Z 0 (b) hMV86 (by decide) (show b < 2 from by first | exact om_f940a4667dd6 hb2 | first | omega | ((try (have i_tx := Imp.go tx (by omega))); (try (have i_cd := Imp.go cd (by omega))); (try (have i_cd := Imp.go cd (by omega))); (try (have i_tx := Imp.go tx (by omega))); omega)) (show (V86 1 1).toInt = (b : Int) from by first | exact om_adf531c77a0d rbk pq89 | first | omega | ((try (have i_tx := Imp.go tx (by omega))); (try (have i_cd := Imp.go cd (by omega))); (try (have i_cd := Imp.go cd (by omega))); (try (have i_tx := Imp.go tx (by omega))); omega)) cd90 tx92) w947 w949 w20 w162 w950 rfl xgReader hdV_yX1_readE ⟨Nat.le_of_ble_eq_true rfl, Nat.le_of_ble_eq_true rfl⟩ rfl hl.1 rfl (Nat.le_of_ble_eq_true rfl) dX1_readMember_155 ⟨Nat.le_of_ble_eq_true rfl, Nat.le_of_ble_eq_true rfl⟩) hP hD hK hS hA (fun z93 u94 H locs w95 hP hD hK hS => ?_)
      obtain ⟨V100, L101⟩ := u94
      obtain ⟨hMV100, ajV100, axL101, fyV100, rgz93, t96, t97, t98, t99⟩ := w95
      have alL101 : agL [6, 44] L L101 := agL.tr alL87 axL101 (by decide)
      have hP : va_P D vwCl (xw ad kk V100 L101 Z) H := hP
      have hD : va_D A (xw ad kk V100 L101 Z) := hD
      have hMV100 : rgd bX V100 := hMV100
      have ajV100 : agr [(1, 3), (1, 4), (1, 6), (1, 8), (6, 8), (6, 9), (6, 10)] [42, 43, 44, 48] V86 V100 := ajV100
      have agV100 : agr [(1, 2), (1, 3), (1, 4), (1, 6), (1, 8), (6, 8), (6, 9), (6, 10)] [42, 43, 44, 48, 49, 56, 57, 58, 59, 60, 61] V V100 := agV86.tr ajV100 (by decide) (by decide)
      have fwV100 : frX (xR b) V V100 := frX.tr fwV86 (fyV100)
      have rgz93 : 0 ≤ z93.toInt ∧ z93.toInt ≤ 1 := rgz93
      have t96 : TX V100 b := t96
      have t97 : CD V100 b := t97
      have t98 : px V86 V100 b := t98
      have t99 : Imp (z93.toInt = 0) (1 ≤ (V100 1 3).toInt) := t99
      have pq102 : (V100 1 2).toInt = ((V 1 2)).toInt := congrArg Int32.toInt ((ajV100 1 2 rfl).trans ((ajV86 1 2 rfl).trans (up2_o hV78 (by decide))))
      have px103 : px V V86 b := px.tr (px.rf : px V V b) (px.ag (show agr [(6, 8), (6, 9), (6, 10)] [57] V V86 from (agr.tr (agr.up agr.rf hV78 rfl) ajV86 (by decide) (by decide))) (fun _ => rfl) (fun _ => rfl) (fun _ => rfl))
      have px104 : px V V100 b := px.tr px103 t98
      exact W.zret (v := z93) hx hb hr (nb_ok (by omega)) (fun t ht hW => ⟨⟨z93, (V100, L101), rfl, ⟨hMV100, agV100, alL101, fwV100, (show 0 ≤ z93.toInt ∧ z93.toInt ≤ 1 from by first | exact om_eb7af9d60398 rgz93.1 rgz93.2 | first | omega | ((try (have i_t99 := Imp.go t99 (by omega))); (try (have i_tx := Imp.go tx (by omega))); (try (have i_cd := Imp.go cd (by omega))); (try (have i_cd := Imp.go cd (by omega))); (try (have i_tx := Imp.go tx (by omega))); (try (have i_t99 := Imp.go t99 (by omega))); omega)), t96, (show (V100 1 2).toInt = (V 1 2).toInt ∨ (V100 1 2).toInt = -1 from by first | exact om_170aa16621ff pq102 | first | omega | ((try (have i_t99 := Imp.go t99 (by omega))); (try (have i_tx := Imp.go tx (by omega))); (try (have i_cd := Imp.go cd (by omega))); (try (have i_cd := Imp.go cd (by omega))); (try (have i_tx := Imp.go tx (by omega))); (try (have i_t99 := Imp.go t99 (by omega))); omega)), t97, px104, (Imp.mk (fun hp => have hp : z93.toInt = 0 := hp; (show 1 ≤ (V100 1 3).toInt from by first | exact om_f8d8213eda45 ((Imp.go t99 (hp))) | first | omega | ((try (have i_t99 := Imp.go t99 (by omega))); (try (have i_tx := Imp.go tx (by omega))); (try (have i_cd := Imp.go cd (by omega))); (try (have i_cd := Imp.go cd (by omega))); (try (have i_tx := Imp.go tx (by omega))); (try (have i_t99 := Imp.go t99 (by omega))); omega))))⟩, by rw [ht]; exact hP, va_K.moved hW.alike hK, hD⟩, hS.F ht⟩) hS.2.2 dX1_readMember_158
    · skip
      have f105 : ((V 57 go)).toInt ≠ (-1) := b_neq rfl (by decide) c76
      refine lv_aload_n hx hb dX1_readMember_132 rfl (lv_at hl 1 rfl) ?_
      refine lv_iconst (v := 1) hx hb dX1_readMember_133 (by decide) ?_
      have r106 : Int32.toInt 1 = 1 := by decide
      refine gA_int (gA_runV (As := [.int 1]) (rest := []) (ci := 1) (q0 := 1) hx hb hml hown hg hP hD hK hS hA hnw hgk (x_wrong l D ks H.size ad kk V L Z 1 hMV (by decide)) w867 w869 w6 w162 w870 rfl xgReader hdV_yX1_wrong ⟨Nat.le_of_ble_eq_true rfl, Nat.le_of_ble_eq_true rfl⟩ rfl hl.1 rfl (Nat.le_of_ble_eq_true rfl) dX1_readMember_134 ⟨Nat.le_of_ble_eq_true rfl, Nat.le_of_ble_eq_true rfl⟩) hP hD hK hS hA (fun z107 u108 H locs w109 hP hD hK hS => ?_)
      obtain ⟨V111, L112⟩ := u108
      obtain ⟨hMV111, ajV111, axL112, rgz107, t110⟩ := w109
      have axL112 : L = L112 := Eq.symm axL112
      subst axL112
      have hP : va_P D vwCl (xw ad kk V111 L Z) H := hP
      have hD : va_D A (xw ad kk V111 L Z) := hD
      have hMV111 : rgd bX V111 := hMV111
      have ajV111 : agr [(1, 3)] [] V V111 := ajV111
      have agV111 : agr [(1, 2), (1, 3), (1, 4), (1, 6), (1, 8), (6, 8), (6, 9), (6, 10)] [42, 43, 44, 48, 49, 56, 57, 58, 59, 60, 61] V V111 := agV.tr ajV111 (by decide) (by decide)
      have fwV111 : frX (xR b) V V111 := frX.tr fwV (frX.ag ajV111 (by decide) (by decide))
      have rgz107 : 0 ≤ z107.toInt ∧ z107.toInt ≤ 0 := rgz107
      have t110 : 1 ≤ (V111 1 3).toInt := t110
      have pq113 : (V111 1 2).toInt = ((V 1 2)).toInt := congrArg Int32.toInt (ajV111 1 2 rfl)
      have px114 : px V V111 b := px.tr (px.rf : px V V b) (px.ag (show agr [(1, 3)] [] V V111 from (agr.tr agr.rf ajV111 (by decide) (by decide))) (fun _ => rfl) (fun _ => rfl) (fun _ => rfl))
      have tx115 : TX V111 b := TX.ag tx (show agr [(1, 3)] [] V V111 from (agr.tr agr.rf ajV111 (by decide) (by decide))) px114 (fun _ => rfl) (fun _ => rfl) (fun _ => rfl) (fun _ => rfl) (fun _ => rfl) (fun _ => rfl)
      have cd116 : CD V111 b := ⟨CB.ag cd.1 (show agr [(1, 3)] [] V V111 from (agr.tr agr.rf ajV111 (by decide) (by decide))) (fun _ => rfl) (fun _ => rfl), CO.ag cd.2 (show agr [(1, 3)] [] V V111 from (agr.tr agr.rf ajV111 (by decide) (by decide))) (fun _ => rfl) (fun _ => rfl)⟩
      have px117 : px V V111 b := px.tr (px.rf : px V V b) (px.ag (show agr [(1, 3)] [] V V111 from (agr.tr agr.rf ajV111 (by decide) (by decide))) (fun _ => rfl) (fun _ => rfl) (fun _ => rfl))
      exact W.zret (v := z107) hx hb hr (nb_ok (by omega)) (fun t ht hW => ⟨⟨z107, (V111, L), rfl, ⟨hMV111, agV111, alL, fwV111, (show 0 ≤ z107.toInt ∧ z107.toInt ≤ 1 from by first | exact om_641b3f05f166 rgz107.1 rgz107.2 | first | omega | ((try (have i_tx := Imp.go tx (by omega))); (try (have i_cd := Imp.go cd (by omega))); (try (have i_cd := Imp.go cd (by omega))); (try (have i_tx := Imp.go tx (by omega))); omega)), tx115, (show (V111 1 2).toInt = (V 1 2).toInt ∨ (V111 1 2).toInt = -1 from by first | exact om_170aa16621ff pq113 | first | omega | ((try (have i_tx := Imp.go tx (by omega))); (try (have i_cd := Imp.go cd (by omega))); (try (have i_cd := Imp.go cd (by omega))); (try (have i_tx := Imp.go tx (by omega))); omega)), cd116, px117, (Imp.mk (fun hp => have hp : z107.toInt = 0 := hp; (show 1 ≤ (V111 1 3).toInt from by first | exact om_f8d8213eda45 t110 | first | omega | ((try (have i_tx := Imp.go tx (by omega))); (try (have i_cd := Imp.go cd (by omega))); (try (have i_cd := Imp.go cd (by omega))); (try (have i_tx := Imp.go tx (by omega))); omega))))⟩, by rw [ht]; exact hP, va_K.moved hW.alike hK, hD⟩, hS.F ht⟩) hS.2.2 dX1_readMember_137
  by_cases q118 : (V 6 9) = 142
  · refine g_top (v := 142) q118 ?_
    have fq118 : ((V 6 9)).toInt = 142 := b_eq rfl (by decide) q118
    refine lv_lookup (x := 142) (off := 144) (tgt := 159) hx hb dX1_readMember_15 (by decide) (by decide) (by decide) ?_
    refine lv_aload_n hx hb dX1_readMember_159 rfl (lv_at hl 1 rfl) ?_
    refine gA_int (gA_runV (As := []) (rest := []) (ci := 1) (q0 := 1) hx hb hml hown hg hP hD hK hS hA hnw hgk (x_readMethod l D ks H.size ad kk V L Z (b) (go) hMV (show b < 2 from by first | exact om_f940a4667dd6 hb2 | first | omega | ((try (have i_tx := Imp.go tx (by omega))); (try (have i_cd := Imp.go cd (by omega))); (try (have i_cd := Imp.go cd (by omega))); (try (have i_tx := Imp.go tx (by omega))); omega)) (show (V 1 1).toInt = (b : Int) from by first | exact om_08e0c9701055 rbk | first | omega | ((try (have i_tx := Imp.go tx (by omega))); (try (have i_cd := Imp.go cd (by omega))); (try (have i_cd := Imp.go cd (by omega))); (try (have i_tx := Imp.go tx (by omega))); omega)) (show (V 1 2).toInt = (go : Int) from by first | exact om_08e0c9701055 own | first | omega | ((try (have i_tx := Imp.go tx (by omega))); (try (have i_cd := Imp.go cd (by omega))); (try (have i_cd := Imp.go cd (by omega))); (try (have i_tx := Imp.go tx (by omega))); omega)) (show go < 48 from by first | exact om_ed409a757601 hb2 hgh | first | omega | ((try (have i_tx := Imp.go tx (by omega))); (try (have i_cd := Imp.go cd (by omega))); (try (have i_cd := Imp.go cd (by omega))); (try (have i_tx := Imp.go tx (by omega))); omega)) (show 24 * b ≤ go from by first | exact om_ef8c008e8399 hgl | first | omega | ((try (have i_tx := Imp.go tx (by omega))); (try (have i_cd := Imp.go cd (by omega))); (try (have i_cd := Imp.go cd (by omega))); (try (have i_tx := Imp.go tx (by omega))); omega)) (show go < 24 * b + 24 from by first | exact om_8af120267f01 hgh | first | omega | ((try (have i_tx := Imp.go tx (by omega))); (try (have i_cd := Imp.go cd (by omega))); (try (have i_cd := Imp.go cd (by omega))); (try (have i_tx := Imp.go tx (by omega))); omega)) cd tx) w1015 w1017 w33 w162 w1018 rfl xgReader hdV_yX1_readMethod ⟨Nat.le_of_ble_eq_true rfl, Nat.le_of_ble_eq_true rfl⟩ rfl hl.1 rfl (Nat.le_of_ble_eq_true rfl) dX1_readMember_160 ⟨Nat.le_of_ble_eq_true rfl, Nat.le_of_ble_eq_true rfl⟩) hP hD hK hS hA (fun z119 u120 H locs w121 hP hD hK hS => ?_)
    obtain ⟨V126, L127⟩ := u120
    obtain ⟨hMV126, ajV126, axL127, fyV126, rgz119, t122, t123, t124, t125⟩ := w121
    have alL127 : agL [6, 44] L L127 := agL.tr alL axL127 (by decide)
    have hP : va_P D vwCl (xw ad kk V126 L127 Z) H := hP
    have hD : va_D A (xw ad kk V126 L127 Z) := hD
    have hMV126 : rgd bX V126 := hMV126
    have ajV126 : agr [(1, 3), (1, 4), (1, 6), (1, 8), (6, 8), (6, 9), (6, 10)] [42, 43, 44, 48, 61] V V126 := ajV126
    have agV126 : agr [(1, 2), (1, 3), (1, 4), (1, 6), (1, 8), (6, 8), (6, 9), (6, 10)] [42, 43, 44, 48, 49, 56, 57, 58, 59, 60, 61] V V126 := agV.tr ajV126 (by decide) (by decide)
    have fwV126 : frX (xR b) V V126 := frX.tr fwV (fyV126)
    have rgz119 : 0 ≤ z119.toInt ∧ z119.toInt ≤ 1 := rgz119
    have t122 : TX V126 b := t122
    have t123 : CD V126 b := t123
    have t124 : px V V126 b := t124
    have t125 : Imp (z119.toInt = 0) (1 ≤ (V126 1 3).toInt) := t125
    have pq128 : (V126 1 2).toInt = ((V 1 2)).toInt := congrArg Int32.toInt (ajV126 1 2 rfl)
    have px129 : px V V126 b := px.tr (px.rf : px V V b) t124
    exact W.zret (v := z119) hx hb hr (nb_ok (by omega)) (fun t ht hW => ⟨⟨z119, (V126, L127), rfl, ⟨hMV126, agV126, alL127, fwV126, (show 0 ≤ z119.toInt ∧ z119.toInt ≤ 1 from by first | exact om_eb7af9d60398 rgz119.1 rgz119.2 | first | omega | ((try (have i_t125 := Imp.go t125 (by omega))); (try (have i_tx := Imp.go tx (by omega))); (try (have i_cd := Imp.go cd (by omega))); (try (have i_cd := Imp.go cd (by omega))); (try (have i_tx := Imp.go tx (by omega))); (try (have i_t125 := Imp.go t125 (by omega))); omega)), t122, (show (V126 1 2).toInt = (V 1 2).toInt ∨ (V126 1 2).toInt = -1 from by first | exact om_170aa16621ff pq128 | first | omega | ((try (have i_t125 := Imp.go t125 (by omega))); (try (have i_tx := Imp.go tx (by omega))); (try (have i_cd := Imp.go cd (by omega))); (try (have i_cd := Imp.go cd (by omega))); (try (have i_tx := Imp.go tx (by omega))); (try (have i_t125 := Imp.go t125 (by omega))); omega)), t123, px129, (Imp.mk (fun hp => have hp : z119.toInt = 0 := hp; (show 1 ≤ (V126 1 3).toInt from by first | exact om_f8d8213eda45 ((Imp.go t125 (hp))) | first | omega | ((try (have i_t125 := Imp.go t125 (by omega))); (try (have i_tx := Imp.go tx (by omega))); (try (have i_cd := Imp.go cd (by omega))); (try (have i_cd := Imp.go cd (by omega))); (try (have i_tx := Imp.go tx (by omega))); (try (have i_t125 := Imp.go t125 (by omega))); omega))))⟩, by rw [ht]; exact hP, va_K.moved hW.alike hK, hD⟩, hS.F ht⟩) hS.2.2 dX1_readMember_163
  refine lv_lookup (x := (V 6 9)) (off := 149) (tgt := 164) hx hb dX1_readMember_15 (by decide) ((lv_osw q4 (by decide)).trans ((lv_osw q18 (by decide)).trans ((lv_osw q30 (by decide)).trans ((lv_osw q74 (by decide)).trans ((lv_osw q118 (by decide)).trans rfl))))) (by decide) ?_
  have gq4 : ((V 6 9)).toInt ≠ 125 := b_neq rfl (by decide) q4
  have gq18 : ((V 6 9)).toInt ≠ 137 := b_neq rfl (by decide) q18
  have gq30 : ((V 6 9)).toInt ≠ 140 := b_neq rfl (by decide) q30
  have gq74 : ((V 6 9)).toInt ≠ 141 := b_neq rfl (by decide) q74
  have gq118 : ((V 6 9)).toInt ≠ 142 := b_neq rfl (by decide) q118
  refine lv_aload_n hx hb dX1_readMember_164 rfl (lv_at hl 1 rfl) ?_
  refine lv_iconst (v := 1) hx hb dX1_readMember_165 (by decide) ?_
  have r130 : Int32.toInt 1 = 1 := by decide
  refine gA_int (gA_runV (As := [.int 1]) (rest := []) (ci := 1) (q0 := 1) hx hb hml hown hg hP hD hK hS hA hnw hgk (x_wrong l D ks H.size ad kk V L Z 1 hMV (by decide)) w867 w869 w6 w162 w870 rfl xgReader hdV_yX1_wrong ⟨Nat.le_of_ble_eq_true rfl, Nat.le_of_ble_eq_true rfl⟩ rfl hl.1 rfl (Nat.le_of_ble_eq_true rfl) dX1_readMember_166 ⟨Nat.le_of_ble_eq_true rfl, Nat.le_of_ble_eq_true rfl⟩) hP hD hK hS hA (fun z131 u132 H locs w133 hP hD hK hS => ?_)
  obtain ⟨V135, L136⟩ := u132
  obtain ⟨hMV135, ajV135, axL136, rgz131, t134⟩ := w133
  have axL136 : L = L136 := Eq.symm axL136
  subst axL136
  have hP : va_P D vwCl (xw ad kk V135 L Z) H := hP
  have hD : va_D A (xw ad kk V135 L Z) := hD
  have hMV135 : rgd bX V135 := hMV135
  have ajV135 : agr [(1, 3)] [] V V135 := ajV135
  have agV135 : agr [(1, 2), (1, 3), (1, 4), (1, 6), (1, 8), (6, 8), (6, 9), (6, 10)] [42, 43, 44, 48, 49, 56, 57, 58, 59, 60, 61] V V135 := agV.tr ajV135 (by decide) (by decide)
  have fwV135 : frX (xR b) V V135 := frX.tr fwV (frX.ag ajV135 (by decide) (by decide))
  have rgz131 : 0 ≤ z131.toInt ∧ z131.toInt ≤ 0 := rgz131
  have t134 : 1 ≤ (V135 1 3).toInt := t134
  have pq137 : (V135 1 2).toInt = ((V 1 2)).toInt := congrArg Int32.toInt (ajV135 1 2 rfl)
  have px138 : px V V135 b := px.tr (px.rf : px V V b) (px.ag (show agr [(1, 3)] [] V V135 from (agr.tr agr.rf ajV135 (by decide) (by decide))) (fun _ => rfl) (fun _ => rfl) (fun _ => rfl))
  have tx139 : TX V135 b := TX.ag tx (show agr [(1, 3)] [] V V135 from (agr.tr agr.rf ajV135 (by decide) (by decide))) px138 (fun _ => rfl) (fun _ => rfl) (fun _ => rfl) (fun _ => rfl) (fun _ => rfl) (fun _ => rfl)
  have cd140 : CD V135 b := ⟨CB.ag cd.1 (show agr [(1, 3)] [] V V135 from (agr.tr agr.rf ajV135 (by decide) (by decide))) (fun _ => rfl) (fun _ => rfl), CO.ag cd.2 (show agr [(1, 3)] [] V V135 from (agr.tr agr.rf ajV135 (by decide) (by decide))) (fun _ => rfl) (fun _ => rfl)⟩
  have px141 : px V V135 b := px.tr (px.rf : px V V b) (px.ag (show agr [(1, 3)] [] V V135 from (agr.tr agr.rf ajV135 (by decide) (by decide))) (fun _ => rfl) (fun _ => rfl) (fun _ => rfl))
  exact W.zret (v := z131) hx hb hr (nb_ok (by omega)) (fun t ht hW => ⟨⟨z131, (V135, L), rfl, ⟨hMV135, agV135, alL, fwV135, (show 0 ≤ z131.toInt ∧ z131.toInt ≤ 1 from by first | exact om_641b3f05f166 rgz131.1 rgz131.2 | first | omega | ((try (have i_tx := Imp.go tx (by omega))); (try (have i_cd := Imp.go cd (by omega))); (try (have i_cd := Imp.go cd (by omega))); (try (have i_tx := Imp.go tx (by omega))); omega)), tx139, (show (V135 1 2).toInt = (V 1 2).toInt ∨ (V135 1 2).toInt = -1 from by first | exact om_170aa16621ff pq137 | first | omega | ((try (have i_tx := Imp.go tx (by omega))); (try (have i_cd := Imp.go cd (by omega))); (try (have i_cd := Imp.go cd (by omega))); (try (have i_tx := Imp.go tx (by omega))); omega)), cd140, px141, (Imp.mk (fun hp => have hp : z131.toInt = 0 := hp; (show 1 ≤ (V135 1 3).toInt from by first | exact om_f8d8213eda45 t134 | first | omega | ((try (have i_tx := Imp.go tx (by omega))); (try (have i_cd := Imp.go cd (by omega))); (try (have i_cd := Imp.go cd (by omega))); (try (have i_tx := Imp.go tx (by omega))); omega))))⟩, by rw [ht]; exact hP, va_K.moved hW.alike hK, hD⟩, hS.F ht⟩) hS.2.2 dX1_readMember_169
abbrev r_x_readWrap : Room := { frames := 91, cells := 0, slots := 0, locals := 2683 }
abbrev q_x_readWrap (D : va_G) (ks : KS) (ad : Nat → Nat) (kk : Nat → ClassId) (V : Vf) (L : Lf) (Z : XZ) (b : Nat) (A : Nat → Prop) : Array Value → State → Outcome → State → Prop := va_Qi (fun (r : Int32) (u : Vf × Lf) => rgd bX u.1 ∧ agr [(1, 3), (1, 4), (1, 6), (1, 8), (6, 8), (6, 9), (6, 10)] [41, 42, 43, 44, 47, 48, 62, 63, 64, 65, 66] V u.1 ∧ agL [6, 44] L u.2 ∧ frX (xR b) V u.1 ∧ (0 ≤ r.toInt ∧ r.toInt ≤ 1) ∧ (TX u.1 b) ∧ (CD u.1 b) ∧ (px V u.1 b) ∧ (Imp (r.toInt = 0) (1 ≤ (u.1 1 3).toInt))) (fun u t => gq D A (xw ad kk u.1 u.2 Z) (xty kk Z) t) A
set_option maxHeartbeats 4000000 in
set_option maxRecDepth 100000 in
theorem x_readWrap (l : Launch) (D : va_G) (ks : KS) (sz : Nat) (ad : Nat → Nat) (kk : Nat → ClassId) (V : Vf) (L : Lf) (Z : XZ) (b : Nat) (hMV : rgd bX V) (hb2 : b < 2) (rbk : (V 1 1).toInt = (b : Int)) (cd : CD V b) (tx : TX V b)  : Met l yX1_readWrap (Cond.code yX1_readWrap cX1_readWrap 6 (some .boolean) :: GW) r_x_readWrap (va_Pc [.ref (ad 1)] (gp D ks (xw ad kk V L Z) (xty kk Z) sz)) (q_x_readWrap D ks ad kk V L Z  b (va_A (xw ad kk V L Z) sz)) 0 0 (va_A (xw ad kk V L Z) sz) := by
  refine g_met (q_x_readWrap D ks ad kk V L Z  b) (by decide) (Nat.le_of_ble_eq_true rfl) ?_
  intro p e s m below meth c A ls H locs hx hb hr hml hown hg hlocks hin hnw hgk hP hK hD hS hA hl
  have hown : s.vm.findClass RX1 = some m.cls := hown
  have hl : lv_has ls 6 [(0, .ref (ad 1))] := hl
  have hP : va_P D vwCl (xw ad kk V L Z) H := hP
  have hD : va_D A (xw ad kk V L Z) := hD
  have hK : va_K D vwCl (xty kk Z) s := hK
  have agV : agr [(1, 3), (1, 4), (1, 6), (1, 8), (6, 8), (6, 9), (6, 10)] [41, 42, 43, 44, 47, 48, 62, 63, 64, 65, 66] V V := agr.rf
  have alL : agL [6, 44] L L := agL.rf
  have fwV : frX (xR b) V V := frX.rf
  have r1 : (-1) ≤ ((V 1 1)).toInt ∧ ((V 1 1)).toInt ≤ 1 := hMV 1 1
  refine lv_aload_n hx hb dX1_readWrap_0 rfl (lv_at hl 0 rfl) ?_
  refine va_get (D := D) (ci := 1) (v := rfN ad 38 (V 1 1)) (fs := (xfReader ad V L Z)) (C := RX1) (T := TX1) (N := 9) hx hb hg inX1 hown hK hP 1 xgReader rfl 1 (by decide) (hg _ w305) (fun _ h9 => h9) rfl dX1_readWrap_1 ?_
  refine g_topv (v := .ref (ad (38 + b))) (rfN_r (by first | omega | ((try (have i_tx := Imp.go tx (by omega))); (try (have i_cd := Imp.go cd (by omega))); (try (have i_cd := Imp.go cd (by omega))); (try (have i_tx := Imp.go tx (by omega))); omega))) ?_
  refine va_getN (D := D) (ci := 0) (v := .int (V 41 b)) (fs := (xfBook ad V b)) (C := RX0) (T := TX0) (N := 13) hx hb hg inX0 hown hK hP (38 + b) (xgBook hb2) rfl 11 (by decide) (hnw.use 626 n626 rfl) (fun _ h9 => h9) rfl dX1_readWrap_4 ?_
  have r2 : 0 ≤ ((V 41 b)).toInt ∧ ((V 41 b)).toInt ≤ 12 := hMV 41 b
  refine lv_bipush (v := 12) hx hb dX1_readWrap_7 (by decide) ?_
  refine lv_icmp_lt (tgt := 18) hx hb dX1_readWrap_9 (by decide) (fun c3 => ?_) (fun c3 => ?_)
  · skip
    have f4 : ((V 41 b)).toInt < 12 := b_lt rfl (by decide) c3
    refine lv_aload_n hx hb dX1_readWrap_18 rfl (lv_at hl 0 rfl) ?_
    refine va_get (D := D) (ci := 1) (v := .ref (ad 6)) (fs := (xfReader ad V L Z)) (C := RX1) (T := TX1) (N := 9) hx hb hg inX1 hown hK hP 1 xgReader rfl 0 (by decide) (hg _ w304) (fun _ h9 => h9) rfl dX1_readWrap_19 ?_
    refine gA_void (gA_runV (As := []) (rest := []) (ci := 9) (q0 := 6) hx hb hml hown hg hP hD hK hS hA hnw hgk (x_next l D ks H.size ad kk V L Z  hMV ) w871 w852 w853 w157 w854 rfl xgTape hdV_yX9_next ⟨Nat.le_of_ble_eq_true rfl, Nat.le_of_ble_eq_true rfl⟩ rfl hl.1 rfl (Nat.le_of_ble_eq_true rfl) dX1_readWrap_22 ⟨Nat.le_of_ble_eq_true rfl, Nat.le_of_ble_eq_true rfl⟩) hP hD hK hS hA (fun u6 H locs w7 hP hD hK hS => ?_)
    obtain ⟨V8, L9⟩ := u6
    obtain ⟨hMV8, ajV8, axL9⟩ := w7
    have alL9 : agL [6, 44] L L9 := agL.tr alL axL9 (by decide)
    have hP : va_P D vwCl (xw ad kk V8 L9 Z) H := hP
    have hD : va_D A (xw ad kk V8 L9 Z) := hD
    have hMV8 : rgd bX V8 := hMV8
    have ajV8 : agr [(6, 8), (6, 9), (6, 10)] [] V V8 := ajV8
    have agV8 : agr [(1, 3), (1, 4), (1, 6), (1, 8), (6, 8), (6, 9), (6, 10)] [41, 42, 43, 44, 47, 48, 62, 63, 64, 65, 66] V V8 := agV.tr ajV8 (by decide) (by decide)
    have fwV8 : frX (xR b) V V8 := frX.tr fwV (frX.ag ajV8 (by decide) (by decide))
    refine lv_aload_n hx hb dX1_readWrap_25 rfl (lv_at hl 0 rfl) ?_
    have pq10 : (V8 1 1).toInt = ((V 1 1)).toInt := congrArg Int32.toInt (ajV8 1 1 rfl)
    refine gA_int (gA_runV (As := []) (rest := []) (ci := 1) (q0 := 1) hx hb hml hown hg hP hD hK hS hA hnw hgk (x_isToldType l D ks H.size ad kk V8 L9 Z (b) hMV8 (show b < 2 from by first | exact om_f940a4667dd6 hb2 | first | omega | ((try (have i_tx := Imp.go tx (by omega))); (try (have i_cd := Imp.go cd (by omega))); (try (have i_cd := Imp.go cd (by omega))); (try (have i_tx := Imp.go tx (by omega))); omega)) (show (V8 1 1).toInt = (b : Int) from by first | exact om_adf531c77a0d rbk pq10 | first | omega | ((try (have i_tx := Imp.go tx (by omega))); (try (have i_cd := Imp.go cd (by omega))); (try (have i_cd := Imp.go cd (by omega))); (try (have i_tx := Imp.go tx (by omega))); omega))) w888 w890 w9 w162 w891 rfl xgReader hdV_yX1_isToldType ⟨Nat.le_of_ble_eq_true rfl, Nat.le_of_ble_eq_true rfl⟩ rfl hl.1 rfl (Nat.le_of_ble_eq_true rfl) dX1_readWrap_26 ⟨Nat.le_of_ble_eq_true rfl, Nat.le_of_ble_eq_true rfl⟩) hP hD hK hS hA (fun z11 u12 H locs w13 hP hD hK hS => ?_)
    obtain ⟨V16, L17⟩ := u12
    obtain ⟨hMV16, ajV16, axL17, rgz11, t14, t15⟩ := w13
    have axL17 : L9 = L17 := Eq.symm axL17
    subst axL17
    have hP : va_P D vwCl (xw ad kk V16 L9 Z) H := hP
    have hD : va_D A (xw ad kk V16 L9 Z) := hD
    have hMV16 : rgd bX V16 := hMV16
    have ajV16 : agr [(1, 3), (1, 6)] [] V8 V16 := ajV16
    have agV16 : agr [(1, 3), (1, 4), (1, 6), (1, 8), (6, 8), (6, 9), (6, 10)] [41, 42, 43, 44, 47, 48, 62, 63, 64, 65, 66] V V16 := agV8.tr ajV16 (by decide) (by decide)
    have fwV16 : frX (xR b) V V16 := frX.tr fwV8 (frX.ag ajV16 (by decide) (by decide))
    have rgz11 : 0 ≤ z11.toInt ∧ z11.toInt ≤ 1 := rgz11
    have t14 : Imp (z11.toInt = 1) (0 ≤ (V16 1 6).toInt ∧ (V16 1 6).toInt ≤ 23) := t14
    have t15 : Imp (z11.toInt = 0) (1 ≤ (V16 1 3).toInt) := t15
    have r18 : (-1) ≤ ((V16 1 6)).toInt ∧ ((V16 1 6)).toInt ≤ 23 := hMV16 1 6
    refine lv_if_ne (tgt := 34) hx hb dX1_readWrap_29 (by decide) (fun c19 => ?_) (fun c19 => ?_)
    · skip
      have f20 : z11.toInt ≠ 0 := b_neq rfl (by decide) c19
      refine lv_aload_n hx hb dX1_readWrap_34 rfl (lv_at hl 0 rfl) ?_
      refine va_get (D := D) (ci := 1) (v := .int (V16 1 6)) (fs := (xfReader ad V16 L9 Z)) (C := RX1) (T := TX1) (N := 9) hx hb hg inX1 hown hK hP 1 xgReader rfl 6 (by decide) (hg _ w310) (fun _ h9 => h9) rfl dX1_readWrap_35 ?_
      refine lv_istore_n (lv' := [(1, .int (V16 1 6)), (0, .ref (ad 1))]) hx hb dX1_readWrap_38 rfl hl (by decide) rfl (fun ls hl => ?_)
      refine lv_aload_n hx hb dX1_readWrap_39 rfl (lv_at hl 1 rfl) ?_
      refine va_get (D := D) (ci := 1) (v := .ref (ad 6)) (fs := (xfReader ad V16 L9 Z)) (C := RX1) (T := TX1) (N := 9) hx hb hg inX1 hown hK hP 1 xgReader rfl 0 (by decide) (hg _ w304) (fun _ h9 => h9) rfl dX1_readWrap_40 ?_
      refine gA_void (gA_runV (As := []) (rest := []) (ci := 9) (q0 := 6) hx hb hml hown hg hP hD hK hS hA hnw hgk (x_next l D ks H.size ad kk V16 L9 Z  hMV16 ) w871 w852 w853 w157 w854 rfl xgTape hdV_yX9_next ⟨Nat.le_of_ble_eq_true rfl, Nat.le_of_ble_eq_true rfl⟩ rfl hl.1 rfl (Nat.le_of_ble_eq_true rfl) dX1_readWrap_43 ⟨Nat.le_of_ble_eq_true rfl, Nat.le_of_ble_eq_true rfl⟩) hP hD hK hS hA (fun u22 H locs w23 hP hD hK hS => ?_)
      obtain ⟨V24, L25⟩ := u22
      obtain ⟨hMV24, ajV24, axL25⟩ := w23
      have alL25 : agL [6, 44] L L25 := agL.tr alL9 axL25 (by decide)
      have hP : va_P D vwCl (xw ad kk V24 L25 Z) H := hP
      have hD : va_D A (xw ad kk V24 L25 Z) := hD
      have hMV24 : rgd bX V24 := hMV24
      have ajV24 : agr [(6, 8), (6, 9), (6, 10)] [] V16 V24 := ajV24
      have agV24 : agr [(1, 3), (1, 4), (1, 6), (1, 8), (6, 8), (6, 9), (6, 10)] [41, 42, 43, 44, 47, 48, 62, 63, 64, 65, 66] V V24 := agV16.tr ajV24 (by decide) (by decide)
      have fwV24 : frX (xR b) V V24 := frX.tr fwV16 (frX.ag ajV24 (by decide) (by decide))
      refine lv_aload_n hx hb dX1_readWrap_46 rfl (lv_at hl 1 rfl) ?_
      refine lv_bipush (v := 46) hx hb dX1_readWrap_47 (by decide) ?_
      have r26 : Int32.toInt 46 = 46 := by decide
      refine gA_int (gA_runV (As := [.int 46]) (rest := []) (ci := 1) (q0 := 1) hx hb hml hown hg hP hD hK hS hA hnw hgk (x_take l D ks H.size ad kk V24 L25 Z 46 hMV24 ) w893 w895 w10 w162 w896 rfl xgReader hdV_yX1_take ⟨Nat.le_of_ble_eq_true rfl, Nat.le_of_ble_eq_true rfl⟩ rfl hl.1 rfl (Nat.le_of_ble_eq_true rfl) dX1_readWrap_49 ⟨Nat.le_of_ble_eq_true rfl, Nat.le_of_ble_eq_true rfl⟩) hP hD hK hS hA (fun z27 u28 H locs w29 hP hD hK hS => ?_)
      obtain ⟨V31, L32⟩ := u28
      obtain ⟨hMV31, ajV31, axL32, rgz27, t30⟩ := w29
      have alL32 : agL [6, 44] L L32 := agL.tr alL25 axL32 (by decide)
      have hP : va_P D vwCl (xw ad kk V31 L32 Z) H := hP
      have hD : va_D A (xw ad kk V31 L32 Z) := hD
      have hMV31 : rgd bX V31 := hMV31
      have ajV31 : agr [(1, 3), (6, 8), (6, 9), (6, 10)] [] V24 V31 := ajV31
      have agV31 : agr [(1, 3), (1, 4), (1, 6), (1, 8), (6, 8), (6, 9), (6, 10)] [41, 42, 43, 44, 47, 48, 62, 63, 64, 65, 66] V V31 := agV24.tr ajV31 (by decide) (by decide)
      have fwV31 : frX (xR b) V V31 := frX.tr fwV24 (frX.ag ajV31 (by decide) (by decide))
      have rgz27 : 0 ≤ z27.toInt ∧ z27.toInt ≤ 1 := rgz27
      have t30 : Imp (z27.toInt = 0) (1 ≤ (V31 1 3).toInt) := t30
      refine lv_if_eq (tgt := 63) hx hb dX1_readWrap_52 (by decide) (fun c33 => ?_) (fun c33 => ?_)
      · skip
        have f34 : z27.toInt = 0 := b_eq rfl (by decide) c33
        refine lv_iconst (v := 0) hx hb dX1_readWrap_63 (by decide) ?_
        have px35 : px V V31 b := px.tr (px.rf : px V V b) (px.ag (show agr [(1, 3), (1, 6), (6, 8), (6, 9), (6, 10)] [] V V31 from (agr.tr (agr.tr (agr.tr (agr.tr agr.rf ajV8 (by decide) (by decide)) ajV16 (by decide) (by decide)) ajV24 (by decide) (by decide)) ajV31 (by decide) (by decide))) (fun _ => rfl) (fun _ => rfl) (fun _ => rfl))
        have tx36 : TX V31 b := TX.ag tx (show agr [(1, 3), (1, 6), (6, 8), (6, 9), (6, 10)] [] V V31 from (agr.tr (agr.tr (agr.tr (agr.tr agr.rf ajV8 (by decide) (by decide)) ajV16 (by decide) (by decide)) ajV24 (by decide) (by decide)) ajV31 (by decide) (by decide))) px35 (fun _ => rfl) (fun _ => rfl) (fun _ => rfl) (fun _ => rfl) (fun _ => rfl) (fun _ => rfl)
        have cd37 : CD V31 b := ⟨CB.ag cd.1 (show agr [(1, 3), (1, 6), (6, 8), (6, 9), (6, 10)] [] V V31 from (agr.tr (agr.tr (agr.tr (agr.tr agr.rf ajV8 (by decide) (by decide)) ajV16 (by decide) (by decide)) ajV24 (by decide) (by decide)) ajV31 (by decide) (by decide))) (fun _ => rfl) (fun _ => rfl), CO.ag cd.2 (show agr [(1, 3), (1, 6), (6, 8), (6, 9), (6, 10)] [] V V31 from (agr.tr (agr.tr (agr.tr (agr.tr agr.rf ajV8 (by decide) (by decide)) ajV16 (by decide) (by decide)) ajV24 (by decide) (by decide)) ajV31 (by decide) (by decide))) (fun _ => rfl) (fun _ => rfl)⟩
        have px38 : px V V31 b := px.tr (px.rf : px V V b) (px.ag (show agr [(1, 3), (1, 6), (6, 8), (6, 9), (6, 10)] [] V V31 from (agr.tr (agr.tr (agr.tr (agr.tr agr.rf ajV8 (by decide) (by decide)) ajV16 (by decide) (by decide)) ajV24 (by decide) (by decide)) ajV31 (by decide) (by decide))) (fun _ => rfl) (fun _ => rfl) (fun _ => rfl))
        exact W.zret (v := 0) hx hb hr rfl (fun t ht hW => ⟨⟨0, (V31, L32), rfl, ⟨hMV31, agV31, alL32, fwV31, (by decide), tx36, cd37, px38, (Imp.mk (fun _ => (show 1 ≤ (V31 1 3).toInt from by first | exact om_f8d8213eda45 ((Imp.go t30 (f34))) | first | omega | ((try (have i_t30 := Imp.go t30 (f34))); (try (have i_t14 := Imp.go t14 (imp_a (rgz11.1) (rgz11.2) (f20)))); omega) | ((try (have i_t30 := Imp.go t30 (by omega))); (try (have i_t15 := Imp.go t15 (by omega))); (try (have i_t14 := Imp.go t14 (by omega))); (try (have i_tx := Imp.go tx (by omega))); first | omega | ((try (have i_cd := Imp.go cd (by omega))); (try (have i_cd := Imp.go cd (by omega))); (try (have i_tx := Imp.go tx (by omega))); (try (have i_t14 := Imp.go t14 (by omega))); (try (have i_t15 := Imp.go t15 (by omega))); (try (have i_t30 := Imp.go t30 (by omega))); omega)))))⟩, by rw [ht]; exact hP, va_K.moved hW.alike hK, hD⟩, hS.F ht⟩) hS.2.2 dX1_readWrap_64
      · skip
        have f39 : z27.toInt ≠ 0 := b_neq rfl (by decide) c33
        refine lv_aload_n hx hb dX1_readWrap_55 rfl (lv_at hl 1 rfl) ?_
        refine lv_null hx hb dX1_readWrap_56 ?_
        have pq40 : (V31 1 1).toInt = ((V 1 1)).toInt := congrArg Int32.toInt ((ajV31 1 1 rfl).trans ((ajV24 1 1 rfl).trans ((ajV16 1 1 rfl).trans (ajV8 1 1 rfl))))
        refine gA_int (gA_runV (As := [.null]) (rest := []) (ci := 1) (q0 := 1) hx hb hml hown hg hP hD hK hS hA hnw hgk (x_takeMethodN l D ks H.size ad kk V31 L32 Z (b) hMV31 (show b < 2 from by first | exact om_f940a4667dd6 hb2 | first | omega | ((try (have i_t14 := Imp.go t14 (imp_a (rgz11.1) (rgz11.2) (f20)))); omega) | ((try (have i_t30 := Imp.go t30 (by omega))); (try (have i_t15 := Imp.go t15 (by omega))); (try (have i_t14 := Imp.go t14 (by omega))); (try (have i_tx := Imp.go tx (by omega))); first | omega | ((try (have i_cd := Imp.go cd (by omega))); (try (have i_cd := Imp.go cd (by omega))); (try (have i_tx := Imp.go tx (by omega))); (try (have i_t14 := Imp.go t14 (by omega))); (try (have i_t15 := Imp.go t15 (by omega))); (try (have i_t30 := Imp.go t30 (by omega))); omega))) (show (V31 1 1).toInt = (b : Int) from by first | exact om_adf531c77a0d rbk pq40 | first | omega | ((try (have i_t14 := Imp.go t14 (imp_a (rgz11.1) (rgz11.2) (f20)))); omega) | ((try (have i_t30 := Imp.go t30 (by omega))); (try (have i_t15 := Imp.go t15 (by omega))); (try (have i_t14 := Imp.go t14 (by omega))); (try (have i_tx := Imp.go tx (by omega))); first | omega | ((try (have i_cd := Imp.go cd (by omega))); (try (have i_cd := Imp.go cd (by omega))); (try (have i_tx := Imp.go tx (by omega))); (try (have i_t14 := Imp.go t14 (by omega))); (try (have i_t15 := Imp.go t15 (by omega))); (try (have i_t30 := Imp.go t30 (by omega))); omega)))) w939 w941 w19 w162 w942 rfl xgReader hdV_yX1_takeMethod ⟨Nat.le_of_ble_eq_true rfl, Nat.le_of_ble_eq_true rfl⟩ rfl hl.1 rfl (Nat.le_of_ble_eq_true rfl) dX1_readWrap_57 ⟨Nat.le_of_ble_eq_true rfl, Nat.le_of_ble_eq_true rfl⟩) hP hD hK hS hA (fun z41 u42 H locs w43 hP hD hK hS => ?_)
        obtain ⟨V47, L48⟩ := u42
        obtain ⟨hMV47, ajV47, axL48, fyV47, rgz41, t44, t45, t46⟩ := w43
        have alL48 : agL [6, 44] L L48 := agL.tr alL32 axL48 (by decide)
        have hP : va_P D vwCl (xw ad kk V47 L48 Z) H := hP
        have hD : va_D A (xw ad kk V47 L48 Z) := hD
        have hMV47 : rgd bX V47 := hMV47
        have ajV47 : agr [(1, 3), (1, 6), (6, 8), (6, 9), (6, 10)] [43, 44] V31 V47 := ajV47
        have agV47 : agr [(1, 3), (1, 4), (1, 6), (1, 8), (6, 8), (6, 9), (6, 10)] [41, 42, 43, 44, 47, 48, 62, 63, 64, 65, 66] V V47 := agV31.tr ajV47 (by decide) (by decide)
        have fwV47 : frX (xR b) V V47 := frX.tr fwV31 (fyV47)
        have rgz41 : 0 ≤ z41.toInt ∧ z41.toInt ≤ 1 := rgz41
        have t44 : Imp (z41.toInt = 1) (0 ≤ (V47 1 6).toInt ∧ (V47 1 6).toInt ≤ 19) := t44
        have t45 : px V31 V47 b := t45
        have t46 : Imp (z41.toInt = 0) (1 ≤ (V47 1 3).toInt) := t46
        have r49 : (-1) ≤ ((V47 1 6)).toInt ∧ ((V47 1 6)).toInt ≤ 23 := hMV47 1 6
        refine lv_if_ne (tgt := 65) hx hb dX1_readWrap_60 (by decide) (fun c50 => ?_) (fun c50 => ?_)
        · skip
          have f51 : z41.toInt ≠ 0 := b_neq rfl (by decide) c50
          refine lv_aload_n hx hb dX1_readWrap_65 rfl (lv_at hl 1 rfl) ?_
          refine va_get (D := D) (ci := 1) (v := .int (V47 1 6)) (fs := (xfReader ad V47 L48 Z)) (C := RX1) (T := TX1) (N := 9) hx hb hg inX1 hown hK hP 1 xgReader rfl 6 (by decide) (hg _ w310) (fun _ h9 => h9) rfl dX1_readWrap_66 ?_
          refine lv_istore_n (lv' := [(2, .int (V47 1 6)), (1, .int (V16 1 6)), (0, .ref (ad 1))]) hx hb dX1_readWrap_69 rfl hl (by decide) rfl (fun ls hl => ?_)
          refine lv_aload_n hx hb dX1_readWrap_70 rfl (lv_at hl 2 rfl) ?_
          refine lv_iconst (v := 0) hx hb dX1_readWrap_71 (by decide) ?_
          refine lv_bipush (v := 99) hx hb dX1_readWrap_72 (by decide) ?_
          have r52 : Int32.toInt 0 = 0 := by decide
          have r53 : Int32.toInt 99 = 99 := by decide
          refine gA_int (gA_runV (As := [.int 0, .int 99]) (rest := []) (ci := 1) (q0 := 1) hx hb hml hown hg hP hD hK hS hA hnw hgk (x_takeNumber l D ks H.size ad kk V47 L48 Z 0 99 hMV47 (show 0 ≤ (Int32.toInt 0) from by first | exact om_1531b20f57e1 r52 | first | omega | ((try (have i_t44 := Imp.go t44 (imp_a (rgz41.1) (rgz41.2) (f51)))); (try (have i_t14 := Imp.go t14 (imp_a (rgz11.1) (rgz11.2) (f20)))); omega) | ((try (have i_t46 := Imp.go t46 (by omega))); (try (have i_t44 := Imp.go t44 (by omega))); (try (have i_t30 := Imp.go t30 (by omega))); (try (have i_t15 := Imp.go t15 (by omega))); first | omega | ((try (have i_t14 := Imp.go t14 (by omega))); (try (have i_tx := Imp.go tx (by omega))); (try (have i_cd := Imp.go cd (by omega))); (try (have i_cd := Imp.go cd (by omega))); first | omega | ((try (have i_tx := Imp.go tx (by omega))); (try (have i_t14 := Imp.go t14 (by omega))); (try (have i_t15 := Imp.go t15 (by omega))); (try (have i_t30 := Imp.go t30 (by omega))); (try (have i_t44 := Imp.go t44 (by omega))); (try (have i_t46 := Imp.go t46 (by omega))); omega)))) (show (Int32.toInt 99) ≤ 999999999 from by first | exact om_abbf7292d199 r53 | first | omega | ((try (have i_t44 := Imp.go t44 (imp_a (rgz41.1) (rgz41.2) (f51)))); (try (have i_t14 := Imp.go t14 (imp_a (rgz11.1) (rgz11.2) (f20)))); omega) | ((try (have i_t46 := Imp.go t46 (by omega))); (try (have i_t44 := Imp.go t44 (by omega))); (try (have i_t30 := Imp.go t30 (by omega))); (try (have i_t15 := Imp.go t15 (by omega))); first | omega | ((try (have i_t14 := Imp.go t14 (by omega))); (try (have i_tx := Imp.go tx (by omega))); (try (have i_cd := Imp.go cd (by omega))); (try (have i_cd := Imp.go cd (by omega))); first | omega | ((try (have i_tx := Imp.go tx (by omega))); (try (have i_t14 := Imp.go t14 (by omega))); (try (have i_t15 := Imp.go t15 (by omega))); (try (have i_t30 := Imp.go t30 (by omega))); (try (have i_t44 := Imp.go t44 (by omega))); (try (have i_t46 := Imp.go t46 (by omega))); omega))))) w906 w908 w12 w162 w909 rfl xgReader hdV_yX1_takeNumber ⟨Nat.le_of_ble_eq_true rfl, Nat.le_of_ble_eq_true rfl⟩ rfl hl.1 rfl (Nat.le_of_ble_eq_true rfl) dX1_readWrap_74 ⟨Nat.le_of_ble_eq_true rfl, Nat.le_of_ble_eq_true rfl⟩) hP hD hK hS hA (fun z54 u55 H locs w56 hP hD hK hS => ?_)
          obtain ⟨V59, L60⟩ := u55
          obtain ⟨hMV59, ajV59, axL60, rgz54, t57, t58⟩ := w56
          have alL60 : agL [6, 44] L L60 := agL.tr alL48 axL60 (by decide)
          have hP : va_P D vwCl (xw ad kk V59 L60 Z) H := hP
          have hD : va_D A (xw ad kk V59 L60 Z) := hD
          have hMV59 : rgd bX V59 := hMV59
          have ajV59 : agr [(1, 3), (1, 8), (6, 8), (6, 9), (6, 10)] [] V47 V59 := ajV59
          have agV59 : agr [(1, 3), (1, 4), (1, 6), (1, 8), (6, 8), (6, 9), (6, 10)] [41, 42, 43, 44, 47, 48, 62, 63, 64, 65, 66] V V59 := agV47.tr ajV59 (by decide) (by decide)
          have fwV59 : frX (xR b) V V59 := frX.tr fwV47 (frX.ag ajV59 (by decide) (by decide))
          have rgz54 : 0 ≤ z54.toInt ∧ z54.toInt ≤ 1 := rgz54
          have t57 : Imp (z54.toInt = 1) ((Int32.toInt 0) ≤ (V59 1 8).toInt ∧ (V59 1 8).toInt ≤ (Int32.toInt 99)) := t57
          have t58 : Imp (z54.toInt = 0) (1 ≤ (V59 1 3).toInt) := t58
          have r61 : 0 ≤ ((V59 1 8)).toInt ∧ ((V59 1 8)).toInt ≤ 999999999 := hMV59 1 8
          refine lv_if_ne (tgt := 82) hx hb dX1_readWrap_77 (by decide) (fun c62 => ?_) (fun c62 => ?_)
          · skip
            have f63 : z54.toInt ≠ 0 := b_neq rfl (by decide) c62
            refine lv_aload_n hx hb dX1_readWrap_82 rfl (lv_at hl 2 rfl) ?_
            refine va_get (D := D) (ci := 1) (v := .int (V59 1 8)) (fs := (xfReader ad V59 L60 Z)) (C := RX1) (T := TX1) (N := 9) hx hb hg inX1 hown hK hP 1 xgReader rfl 8 (by decide) (hg _ w312) (fun _ h9 => h9) rfl dX1_readWrap_83 ?_
            refine lv_istore_n (lv' := [(3, .int (V59 1 8)), (2, .int (V47 1 6)), (1, .int (V16 1 6)), (0, .ref (ad 1))]) hx hb dX1_readWrap_86 rfl hl (by decide) rfl (fun ls hl => ?_)
            refine lv_aload_n hx hb dX1_readWrap_87 rfl (lv_at hl 3 rfl) ?_
            refine va_get (D := D) (ci := 1) (v := .ref (ad 6)) (fs := (xfReader ad V59 L60 Z)) (C := RX1) (T := TX1) (N := 9) hx hb hg inX1 hown hK hP 1 xgReader rfl 0 (by decide) (hg _ w304) (fun _ h9 => h9) rfl dX1_readWrap_88 ?_
            refine va_getN (D := D) (ci := 9) (v := .int (V59 6 9)) (fs := (xfTape ad V59 L60 Z)) (C := RX9) (T := TX9) (N := 12) hx hb hg inX9 hown hK hP 6 xgTape rfl 9 (by decide) (hnw.use 262 n262 rfl) (fun _ h9 => h9) rfl dX1_readWrap_91 ?_
            refine lv_sipush (v := 152) hx hb dX1_readWrap_94 (by decide) ?_
            refine lv_icmp_lt (tgt := 113) hx hb dX1_readWrap_97 (by decide) (fun c64 => ?_) (fun c64 => ?_)
            · skip
              have f65 : ((V59 6 9)).toInt < 152 := b_lt rfl (by decide) c64
              refine lv_aload_n hx hb dX1_readWrap_113 rfl (lv_at hl 3 rfl) ?_
              refine lv_iconst (v := 1) hx hb dX1_readWrap_114 (by decide) ?_
              have r66 : Int32.toInt 1 = 1 := by decide
              refine gA_int (gA_runV (As := [.int 1]) (rest := []) (ci := 1) (q0 := 1) hx hb hml hown hg hP hD hK hS hA hnw hgk (x_wrong l D ks H.size ad kk V59 L60 Z 1 hMV59 (by decide)) w867 w869 w6 w162 w870 rfl xgReader hdV_yX1_wrong ⟨Nat.le_of_ble_eq_true rfl, Nat.le_of_ble_eq_true rfl⟩ rfl hl.1 rfl (Nat.le_of_ble_eq_true rfl) dX1_readWrap_115 ⟨Nat.le_of_ble_eq_true rfl, Nat.le_of_ble_eq_true rfl⟩) hP hD hK hS hA (fun z67 u68 H locs w69 hP hD hK hS => ?_)
              obtain ⟨V71, L72⟩ := u68
              obtain ⟨hMV71, ajV71, axL72, rgz67, t70⟩ := w69
              have axL72 : L60 = L72 := Eq.symm axL72
              subst axL72
              have hP : va_P D vwCl (xw ad kk V71 L60 Z) H := hP
              have hD : va_D A (xw ad kk V71 L60 Z) := hD
              have hMV71 : rgd bX V71 := hMV71
              have ajV71 : agr [(1, 3)] [] V59 V71 := ajV71
              have agV71 : agr [(1, 3), (1, 4), (1, 6), (1, 8), (6, 8), (6, 9), (6, 10)] [41, 42, 43, 44, 47, 48, 62, 63, 64, 65, 66] V V71 := agV59.tr ajV71 (by decide) (by decide)
              have fwV71 : frX (xR b) V V71 := frX.tr fwV59 (frX.ag ajV71 (by decide) (by decide))
              have rgz67 : 0 ≤ z67.toInt ∧ z67.toInt ≤ 0 := rgz67
              have t70 : 1 ≤ (V71 1 3).toInt := t70
              have px73 : px V V31 b := px.tr (px.rf : px V V b) (px.ag (show agr [(1, 3), (1, 6), (6, 8), (6, 9), (6, 10)] [] V V31 from (agr.tr (agr.tr (agr.tr (agr.tr agr.rf ajV8 (by decide) (by decide)) ajV16 (by decide) (by decide)) ajV24 (by decide) (by decide)) ajV31 (by decide) (by decide))) (fun _ => rfl) (fun _ => rfl) (fun _ => rfl))
              have px74 : px V V47 b := px.tr px73 t45
              have px75 : px V V71 b := px.tr px74 (px.ag (show agr [(1, 3), (1, 8), (6, 8), (6, 9), (6, 10)] [] V47 V71 from (agr.tr (agr.tr agr.rf ajV59 (by decide) (by decide)) ajV71 (by decide) (by decide))) (fun _ => rfl) (fun _ => rfl) (fun _ => rfl))
              have tx76 : TX V71 b := TX.ag tx (show agr [(1, 3), (1, 6), (1, 8), (6, 8), (6, 9), (6, 10)] [43, 44] V V71 from (agr.tr (agr.tr (agr.tr (agr.tr (agr.tr (agr.tr (agr.tr agr.rf ajV8 (by decide) (by decide)) ajV16 (by decide) (by decide)) ajV24 (by decide) (by decide)) ajV31 (by decide) (by decide)) ajV47 (by decide) (by decide)) ajV59 (by decide) (by decide)) ajV71 (by decide) (by decide))) px75 (fun _ => rfl) (fun _ => rfl) (fun _ => rfl) (fun _ => rfl) (fun _ => rfl) (fun _ => rfl)
              have cd77 : CD V71 b := ⟨CB.ag cd.1 (show agr [(1, 3), (1, 6), (1, 8), (6, 8), (6, 9), (6, 10)] [43, 44] V V71 from (agr.tr (agr.tr (agr.tr (agr.tr (agr.tr (agr.tr (agr.tr agr.rf ajV8 (by decide) (by decide)) ajV16 (by decide) (by decide)) ajV24 (by decide) (by decide)) ajV31 (by decide) (by decide)) ajV47 (by decide) (by decide)) ajV59 (by decide) (by decide)) ajV71 (by decide) (by decide))) (fun _ => rfl) (fun _ => rfl), CO.ag cd.2 (show agr [(1, 3), (1, 6), (1, 8), (6, 8), (6, 9), (6, 10)] [43, 44] V V71 from (agr.tr (agr.tr (agr.tr (agr.tr (agr.tr (agr.tr (agr.tr agr.rf ajV8 (by decide) (by decide)) ajV16 (by decide) (by decide)) ajV24 (by decide) (by decide)) ajV31 (by decide) (by decide)) ajV47 (by decide) (by decide)) ajV59 (by decide) (by decide)) ajV71 (by decide) (by decide))) (fun _ => rfl) (fun _ => rfl)⟩
              have px78 : px V V31 b := px.tr (px.rf : px V V b) (px.ag (show agr [(1, 3), (1, 6), (6, 8), (6, 9), (6, 10)] [] V V31 from (agr.tr (agr.tr (agr.tr (agr.tr agr.rf ajV8 (by decide) (by decide)) ajV16 (by decide) (by decide)) ajV24 (by decide) (by decide)) ajV31 (by decide) (by decide))) (fun _ => rfl) (fun _ => rfl) (fun _ => rfl))
              have px79 : px V V47 b := px.tr px78 t45
              have px80 : px V V71 b := px.tr px79 (px.ag (show agr [(1, 3), (1, 8), (6, 8), (6, 9), (6, 10)] [] V47 V71 from (agr.tr (agr.tr agr.rf ajV59 (by decide) (by decide)) ajV71 (by decide) (by decide))) (fun _ => rfl) (fun _ => rfl) (fun _ => rfl))
              exact W.zret (v := z67) hx hb hr (nb_ok (by omega)) (fun t ht hW => ⟨⟨z67, (V71, L60), rfl, ⟨hMV71, agV71, alL60, fwV71, (show 0 ≤ z67.toInt ∧ z67.toInt ≤ 1 from by first | exact om_641b3f05f166 rgz67.1 rgz67.2 | first | omega | ((try (have i_t57 := Imp.go t57 (imp_a (rgz54.1) (rgz54.2) (f63)))); (try (have i_t44 := Imp.go t44 (imp_a (rgz41.1) (rgz41.2) (f51)))); (try (have i_t14 := Imp.go t14 (imp_a (rgz11.1) (rgz11.2) (f20)))); omega) | ((try (have i_t58 := Imp.go t58 (by omega))); (try (have i_t57 := Imp.go t57 (by omega))); (try (have i_t46 := Imp.go t46 (by omega))); (try (have i_t44 := Imp.go t44 (by omega))); first | omega | ((try (have i_t30 := Imp.go t30 (by omega))); (try (have i_t15 := Imp.go t15 (by omega))); (try (have i_t14 := Imp.go t14 (by omega))); (try (have i_tx := Imp.go tx (by omega))); first | omega | ((try (have i_cd := Imp.go cd (by omega))); (try (have i_cd := Imp.go cd (by omega))); (try (have i_tx := Imp.go tx (by omega))); (try (have i_t14 := Imp.go t14 (by omega))); first | omega | ((try (have i_t15 := Imp.go t15 (by omega))); (try (have i_t30 := Imp.go t30 (by omega))); (try (have i_t44 := Imp.go t44 (by omega))); (try (have i_t46 := Imp.go t46 (by omega))); (try (have i_t57 := Imp.go t57 (by omega))); (try (have i_t58 := Imp.go t58 (by omega))); omega))))), tx76, cd77, px80, (Imp.mk (fun hp => have hp : z67.toInt = 0 := hp; (show 1 ≤ (V71 1 3).toInt from by first | exact om_f8d8213eda45 t70 | first | omega | ((try (have i_t57 := Imp.go t57 (imp_a (rgz54.1) (rgz54.2) (f63)))); (try (have i_t44 := Imp.go t44 (imp_a (rgz41.1) (rgz41.2) (f51)))); (try (have i_t14 := Imp.go t14 (imp_a (rgz11.1) (rgz11.2) (f20)))); omega) | ((try (have i_t58 := Imp.go t58 (by omega))); (try (have i_t57 := Imp.go t57 (by omega))); (try (have i_t46 := Imp.go t46 (by omega))); (try (have i_t44 := Imp.go t44 (by omega))); first | omega | ((try (have i_t30 := Imp.go t30 (by omega))); (try (have i_t15 := Imp.go t15 (by omega))); (try (have i_t14 := Imp.go t14 (by omega))); (try (have i_tx := Imp.go tx (by omega))); first | omega | ((try (have i_cd := Imp.go cd (by omega))); (try (have i_cd := Imp.go cd (by omega))); (try (have i_tx := Imp.go tx (by omega))); (try (have i_t14 := Imp.go t14 (by omega))); first | omega | ((try (have i_t15 := Imp.go t15 (by omega))); (try (have i_t30 := Imp.go t30 (by omega))); (try (have i_t44 := Imp.go t44 (by omega))); (try (have i_t46 := Imp.go t46 (by omega))); (try (have i_t57 := Imp.go t57 (by omega))); (try (have i_t58 := Imp.go t58 (by omega))); omega)))))))⟩, by rw [ht]; exact hP, va_K.moved hW.alike hK, hD⟩, hS.F ht⟩) hS.2.2 dX1_readWrap_118
            · skip
              have f81 : 152 ≤ ((V59 6 9)).toInt := b_nlt rfl (by decide) c64
              refine lv_aload_n hx hb dX1_readWrap_100 rfl (lv_at hl 3 rfl) ?_
              refine va_get (D := D) (ci := 1) (v := .ref (ad 6)) (fs := (xfReader ad V59 L60 Z)) (C := RX1) (T := TX1) (N := 9) hx hb hg inX1 hown hK hP 1 xgReader rfl 0 (by decide) (hg _ w304) (fun _ h9 => h9) rfl dX1_readWrap_101 ?_
              refine va_getN (D := D) (ci := 9) (v := .int (V59 6 9)) (fs := (xfTape ad V59 L60 Z)) (C := RX9) (T := TX9) (N := 12) hx hb hg inX9 hown hK hP 6 xgTape rfl 9 (by decide) (hnw.use 262 n262 rfl) (fun _ h9 => h9) rfl dX1_readWrap_104 ?_
              refine lv_sipush (v := 155) hx hb dX1_readWrap_107 (by decide) ?_
              refine lv_icmp_le (tgt := 119) hx hb dX1_readWrap_110 (by decide) (fun c82 => ?_) (fun c82 => ?_)
              · skip
                have f83 : ((V59 6 9)).toInt ≤ 155 := b_le rfl (by decide) c82
                refine lv_aload_n hx hb dX1_readWrap_119 rfl (lv_at hl 3 rfl) ?_
                refine va_get (D := D) (ci := 1) (v := .ref (ad 6)) (fs := (xfReader ad V59 L60 Z)) (C := RX1) (T := TX1) (N := 9) hx hb hg inX1 hown hK hP 1 xgReader rfl 0 (by decide) (hg _ w304) (fun _ h9 => h9) rfl dX1_readWrap_120 ?_
                refine va_getN (D := D) (ci := 9) (v := .int (V59 6 9)) (fs := (xfTape ad V59 L60 Z)) (C := RX9) (T := TX9) (N := 12) hx hb hg inX9 hown hK hP 6 xgTape rfl 9 (by decide) (hnw.use 262 n262 rfl) (fun _ h9 => h9) rfl dX1_readWrap_123 ?_
                refine lv_sipush (v := 152) hx hb dX1_readWrap_126 (by decide) ?_
                refine lv_isub hx hb dX1_readWrap_129 ?_
                refine lv_topi (fun z84 ez84 => ?_)
                have hz84 : z84.toInt = ((V59 6 9)).toInt - 152 := i_sub ez84 rfl (by decide) (by (first | exact om_b3898fa3e17b f81 f83 | omega))
                refine lv_istore (lv' := [(4, .int z84), (3, .int (V59 1 8)), (2, .int (V47 1 6)), (1, .int (V16 1 6)), (0, .ref (ad 1))]) hx hb dX1_readWrap_130 hl (by decide) rfl (fun ls hl => ?_)
                refine lv_iload hx hb dX1_readWrap_132 (lv_at hl 0 rfl) ?_
                refine lv_iconst (v := 1) hx hb dX1_readWrap_134 (by decide) ?_
                refine lv_icmp_ne (tgt := 156) hx hb dX1_readWrap_135 (by decide) (fun c85 => ?_) (fun c85 => ?_)
                · skip
                  have f86 : z84.toInt ≠ 1 := b_neq rfl (by decide) c85
                  refine lv_aload_n hx hb dX1_readWrap_156 rfl (lv_at hl 4 rfl) ?_
                  have cd87 : CD V59 b := ⟨CB.ag cd.1 (show agr [(1, 3), (1, 6), (1, 8), (6, 8), (6, 9), (6, 10)] [43, 44] V V59 from (agr.tr (agr.tr (agr.tr (agr.tr (agr.tr (agr.tr agr.rf ajV8 (by decide) (by decide)) ajV16 (by decide) (by decide)) ajV24 (by decide) (by decide)) ajV31 (by decide) (by decide)) ajV47 (by decide) (by decide)) ajV59 (by decide) (by decide))) (fun _ => rfl) (fun _ => rfl), CO.ag cd.2 (show agr [(1, 3), (1, 6), (1, 8), (6, 8), (6, 9), (6, 10)] [43, 44] V V59 from (agr.tr (agr.tr (agr.tr (agr.tr (agr.tr (agr.tr agr.rf ajV8 (by decide) (by decide)) ajV16 (by decide) (by decide)) ajV24 (by decide) (by decide)) ajV31 (by decide) (by decide)) ajV47 (by decide) (by decide)) ajV59 (by decide) (by decide))) (fun _ => rfl) (fun _ => rfl)⟩
                  refine va_get (D := D) (ci := 1) (v := rfN ad 38 (V59 1 1)) (fs := (xfReader ad V59 L60 Z)) (C := RX1) (T := TX1) (N := 9) hx hb hg inX1 hown hK hP 1 xgReader rfl 1 (by decide) (hg _ w305) (fun _ h9 => h9) rfl dX1_readWrap_157 ?_
                  have pq88 : (V59 1 1).toInt = ((V 1 1)).toInt := congrArg Int32.toInt ((ajV59 1 1 rfl).trans ((ajV47 1 1 rfl).trans ((ajV31 1 1 rfl).trans ((ajV24 1 1 rfl).trans ((ajV16 1 1 rfl).trans (ajV8 1 1 rfl))))))
                  refine g_topv (v := .ref (ad (38 + b))) (rfN_r (by first | omega | ((try (have i_t57 := Imp.go t57 (imp_a (rgz54.1) (rgz54.2) (f63)))); (try (have i_t44 := Imp.go t44 (imp_a (rgz41.1) (rgz41.2) (f51)))); (try (have i_t14 := Imp.go t14 (imp_a (rgz11.1) (rgz11.2) (f20)))); omega) | ((try (have i_t58 := Imp.go t58 (by omega))); (try (have i_t57 := Imp.go t57 (by omega))); (try (have i_t46 := Imp.go t46 (by omega))); (try (have i_t44 := Imp.go t44 (by omega))); first | omega | ((try (have i_t30 := Imp.go t30 (by omega))); (try (have i_t15 := Imp.go t15 (by omega))); (try (have i_t14 := Imp.go t14 (by omega))); (try (have i_tx := Imp.go tx (by omega))); first | omega | ((try (have i_cd := Imp.go cd (by omega))); (try (have i_cd := Imp.go cd (by omega))); (try (have i_tx := Imp.go tx (by omega))); (try (have i_t14 := Imp.go t14 (by omega))); first | omega | ((try (have i_t15 := Imp.go t15 (by omega))); (try (have i_t30 := Imp.go t30 (by omega))); (try (have i_t44 := Imp.go t44 (by omega))); (try (have i_t46 := Imp.go t46 (by omega))); (try (have i_t57 := Imp.go t57 (by omega))); (try (have i_t58 := Imp.go t58 (by omega))); omega)))))) ?_
                  refine va_getN (D := D) (ci := 0) (v := .int (V59 42 b)) (fs := (xfBook ad V59 b)) (C := RX0) (T := TX0) (N := 13) hx hb hg inX0 hown hK hP (38 + b) (xgBook hb2) rfl 12 (by decide) (hnw.use 630 n630 rfl) (fun _ h9 => h9) rfl dX1_readWrap_160 ?_
                  refine g_top (v := (V 42 b)) ((ajV59 42 b rfl).trans ((ajV47 42 b rfl).trans ((ajV31 42 b rfl).trans ((ajV24 42 b rfl).trans ((ajV16 42 b rfl).trans (ajV8 42 b rfl)))))) ?_
                  have r89 : 0 ≤ ((V 42 b)).toInt ∧ ((V 42 b)).toInt ≤ 8200 := hMV 42 b
                  refine lv_istore (lv' := [(5, .int (V 42 b)), (4, .int z84), (3, .int (V59 1 8)), (2, .int (V47 1 6)), (1, .int (V16 1 6)), (0, .ref (ad 1))]) hx hb dX1_readWrap_163 hl (by decide) rfl (fun ls hl => ?_)
                  refine lv_aload_n hx hb dX1_readWrap_165 rfl (lv_at hl 5 rfl) ?_
                  refine va_get (D := D) (ci := 1) (v := .ref (ad 6)) (fs := (xfReader ad V59 L60 Z)) (C := RX1) (T := TX1) (N := 9) hx hb hg inX1 hown hK hP 1 xgReader rfl 0 (by decide) (hg _ w304) (fun _ h9 => h9) rfl dX1_readWrap_166 ?_
                  refine gA_void (gA_runV (As := []) (rest := []) (ci := 9) (q0 := 6) hx hb hml hown hg hP hD hK hS hA hnw hgk (x_next l D ks H.size ad kk V59 L60 Z  hMV59 ) w871 w852 w853 w157 w854 rfl xgTape hdV_yX9_next ⟨Nat.le_of_ble_eq_true rfl, Nat.le_of_ble_eq_true rfl⟩ rfl hl.1 rfl (Nat.le_of_ble_eq_true rfl) dX1_readWrap_169 ⟨Nat.le_of_ble_eq_true rfl, Nat.le_of_ble_eq_true rfl⟩) hP hD hK hS hA (fun u91 H locs w92 hP hD hK hS => ?_)
                  obtain ⟨V93, L94⟩ := u91
                  obtain ⟨hMV93, ajV93, axL94⟩ := w92
                  have alL94 : agL [6, 44] L L94 := agL.tr alL60 axL94 (by decide)
                  have hP : va_P D vwCl (xw ad kk V93 L94 Z) H := hP
                  have hD : va_D A (xw ad kk V93 L94 Z) := hD
                  have hMV93 : rgd bX V93 := hMV93
                  have ajV93 : agr [(6, 8), (6, 9), (6, 10)] [] V59 V93 := ajV93
                  have agV93 : agr [(1, 3), (1, 4), (1, 6), (1, 8), (6, 8), (6, 9), (6, 10)] [41, 42, 43, 44, 47, 48, 62, 63, 64, 65, 66] V V93 := agV59.tr ajV93 (by decide) (by decide)
                  have fwV93 : frX (xR b) V V93 := frX.tr fwV59 (frX.ag ajV93 (by decide) (by decide))
                  refine lv_aload_n hx hb dX1_readWrap_172 rfl (lv_at hl 5 rfl) ?_
                  refine lv_iload hx hb dX1_readWrap_173 (lv_at hl 1 rfl) ?_
                  refine lv_iconst (v := 1) hx hb dX1_readWrap_175 (by decide) ?_
                  refine lv_icmp_ne (tgt := 183) hx hb dX1_readWrap_176 (by decide) (fun c95 => ?_) (fun c95 => ?_)
                  · skip
                    have f96 : z84.toInt ≠ 1 := b_neq rfl (by decide) c95
                    refine lv_iconst (v := 1) hx hb dX1_readWrap_183 (by decide) ?_
                    have r97 : Int32.toInt 1 = 1 := by decide
                    have pq98 : (V93 1 1).toInt = ((V 1 1)).toInt := congrArg Int32.toInt ((ajV93 1 1 rfl).trans ((ajV59 1 1 rfl).trans ((ajV47 1 1 rfl).trans ((ajV31 1 1 rfl).trans ((ajV24 1 1 rfl).trans ((ajV16 1 1 rfl).trans (ajV8 1 1 rfl)))))))
                    have cd99 : CD V93 b := ⟨CB.ag cd.1 (show agr [(1, 3), (1, 6), (1, 8), (6, 8), (6, 9), (6, 10)] [43, 44] V V93 from (agr.tr (agr.tr (agr.tr (agr.tr (agr.tr (agr.tr (agr.tr agr.rf ajV8 (by decide) (by decide)) ajV16 (by decide) (by decide)) ajV24 (by decide) (by decide)) ajV31 (by decide) (by decide)) ajV47 (by decide) (by decide)) ajV59 (by decide) (by decide)) ajV93 (by decide) (by decide))) (fun _ => rfl) (fun _ => rfl), CO.ag cd.2 (show agr [(1, 3), (1, 6), (1, 8), (6, 8), (6, 9), (6, 10)] [43, 44] V V93 from (agr.tr (agr.tr (agr.tr (agr.tr (agr.tr (agr.tr (agr.tr agr.rf ajV8 (by decide) (by decide)) ajV16 (by decide) (by decide)) ajV24 (by decide) (by decide)) ajV31 (by decide) (by decide)) ajV47 (by decide) (by decide)) ajV59 (by decide) (by decide)) ajV93 (by decide) (by decide))) (fun _ => rfl) (fun _ => rfl)⟩
                    have px100 : px V V31 b := px.tr (px.rf : px V V b) (px.ag (show agr [(1, 3), (1, 6), (6, 8), (6, 9), (6, 10)] [] V V31 from (agr.tr (agr.tr (agr.tr (agr.tr agr.rf ajV8 (by decide) (by decide)) ajV16 (by decide) (by decide)) ajV24 (by decide) (by decide)) ajV31 (by decide) (by decide))) (fun _ => rfl) (fun _ => rfl) (fun _ => rfl))
                    have px101 : px V V47 b := px.tr px100 t45
                    have px102 : px V V93 b := px.tr px101 (px.ag (show agr [(1, 3), (1, 8), (6, 8), (6, 9), (6, 10)] [] V47 V93 from (agr.tr (agr.tr agr.rf ajV59 (by decide) (by decide)) ajV93 (by decide) (by decide))) (fun _ => rfl) (fun _ => rfl) (fun _ => rfl))
                    have tx103 : TX V93 b := TX.ag tx (show agr [(1, 3), (1, 6), (1, 8), (6, 8), (6, 9), (6, 10)] [43, 44] V V93 from (agr.tr (agr.tr (agr.tr (agr.tr (agr.tr (agr.tr (agr.tr agr.rf ajV8 (by decide) (by decide)) ajV16 (by decide) (by decide)) ajV24 (by decide) (by decide)) ajV31 (by decide) (by decide)) ajV47 (by decide) (by decide)) ajV59 (by decide) (by decide)) ajV93 (by decide) (by decide))) px102 (fun _ => rfl) (fun _ => rfl) (fun _ => rfl) (fun _ => rfl) (fun _ => rfl) (fun _ => rfl)
                    refine gA_int (gA_runV (As := [.int 1]) (rest := []) (ci := 1) (q0 := 1) hx hb hml hown hg hP hD hK hS hA hnw hgk (x_readE l D ks H.size ad kk V93 L94 Z 1 (b) hMV93 (by decide) (show b < 2 from by first | exact om_f940a4667dd6 hb2 | first | omega | ((try (have i_t57 := Imp.go t57 (imp_a (rgz54.1) (rgz54.2) (f63)))); (try (have i_t44 := Imp.go t44 (imp_a (rgz41.1) (rgz41.2) (f51)))); (try (have i_t14 := Imp.go t14 (imp_a (rgz11.1) (rgz11.2) (f20)))); omega) | ((try (have i_t58 := Imp.go t58 (by omega))); (try (have i_t57 := Imp.go t57 (by omega))); (try (have i_t46 := Imp.go t46 (by omega))); (try (have i_t44 := Imp.go t44 (by omega))); first | omega | ((try (have i_t30 := Imp.go t30 (by omega))); (try (have i_t15 := Imp.go t15 (by omega))); (try (have i_t14 := Imp.go t14 (by omega))); (try (have i_tx := Imp.go tx (by omega))); first | omega | ((try (have i_cd := Imp.go cd (by omega))); (try (have i_cd := Imp.go cd (by omega))); (try (have i_tx := Imp.go tx (by omega))); (try (have i_t14 := Imp.go t14 (by omega))); first | omega | ((try (have i_t15 := Imp.go t15 (by omega))); (try (have i_t30 := Imp.go t30 (by omega))); (try (have i_t44 := Imp.go t44 (by omega))); (try (have i_t46 := Imp.go t46 (by omega))); (try (have i_t57 := Imp.go t57 (by omega))); (try (have i_t58 := Imp.go t58 (by omega))); omega))))) (show (V93 1 1).toInt = (b : Int) from by first | exact om_adf531c77a0d rbk pq98 | first | omega | ((try (have i_t57 := Imp.go t57 (imp_a (rgz54.1) (rgz54.2) (f63)))); (try (have i_t44 := Imp.go t44 (imp_a (rgz41.1) (rgz41.2) (f51)))); (try (have i_t14 := Imp.go t14 (imp_a (rgz11.1) (rgz11.2) (f20)))); omega) | ((try (have i_t58 := Imp.go t58 (by omega))); (try (have i_t57 := Imp.go t57 (by omega))); (try (have i_t46 := Imp.go t46 (by omega))); (try (have i_t44 := Imp.go t44 (by omega))); first | omega | ((try (have i_t30 := Imp.go t30 (by omega))); (try (have i_t15 := Imp.go t15 (by omega))); (try (have i_t14 := Imp.go t14 (by omega))); (try (have i_tx := Imp.go tx (by omega))); first | omega | ((try (have i_cd := Imp.go cd (by omega))); (try (have i_cd := Imp.go cd (by omega))); (try (have i_tx := Imp.go tx (by omega))); (try (have i_t14 := Imp.go t14 (by omega))); first | omega | ((try (have i_t15 := Imp.go t15 (by omega))); (try (have i_t30 := Imp.go t30 (by omega))); (try (have i_t44 := Imp.go t44 (by omega))); (try (have i_t46 := Imp.go t46 (by omega))); (try (have i_t57 := Imp.go t57 (by omega))); (try (have i_t58 := Imp.go t58 (by omega))); omega))))) cd99 tx103) w947 w949 w20 w162 w950 rfl xgReader hdV_yX1_readE ⟨Nat.le_of_ble_eq_true rfl, Nat.le_of_ble_eq_true rfl⟩ rfl hl.1 rfl (Nat.le_of_ble_eq_true rfl) dX1_readWrap_184 ⟨Nat.le_of_ble_eq_true rfl, Nat.le_of_ble_eq_true rfl⟩) hP hD hK hS hA (fun z104 u105 H locs w106 hP hD hK hS => ?_)
                    obtain ⟨V111, L112⟩ := u105
                    obtain ⟨hMV111, ajV111, axL112, fyV111, rgz104, t107, t108, t109, t110⟩ := w106
                    have alL112 : agL [6, 44] L L112 := agL.tr alL94 axL112 (by decide)
                    have hP : va_P D vwCl (xw ad kk V111 L112 Z) H := hP
                    have hD : va_D A (xw ad kk V111 L112 Z) := hD
                    have hMV111 : rgd bX V111 := hMV111
                    have ajV111 : agr [(1, 3), (1, 4), (1, 6), (1, 8), (6, 8), (6, 9), (6, 10)] [42, 43, 44, 48] V93 V111 := ajV111
                    have agV111 : agr [(1, 3), (1, 4), (1, 6), (1, 8), (6, 8), (6, 9), (6, 10)] [41, 42, 43, 44, 47, 48, 62, 63, 64, 65, 66] V V111 := agV93.tr ajV111 (by decide) (by decide)
                    have fwV111 : frX (xR b) V V111 := frX.tr fwV93 (fyV111)
                    have rgz104 : 0 ≤ z104.toInt ∧ z104.toInt ≤ 1 := rgz104
                    have t107 : TX V111 b := t107
                    have t108 : CD V111 b := t108
                    have t109 : px V93 V111 b := t109
                    have t110 : Imp (z104.toInt = 0) (1 ≤ (V111 1 3).toInt) := t110
                    refine lv_if_ne (tgt := 192) hx hb dX1_readWrap_187 (by decide) (fun c113 => ?_) (fun c113 => ?_)
                    · skip
                      have f114 : z104.toInt ≠ 0 := b_neq rfl (by decide) c113
                      refine lv_aload_n hx hb dX1_readWrap_192 rfl (lv_at hl 5 rfl) ?_
                      refine va_get (D := D) (ci := 1) (v := rfN ad 38 (V111 1 1)) (fs := (xfReader ad V111 L112 Z)) (C := RX1) (T := TX1) (N := 9) hx hb hg inX1 hown hK hP 1 xgReader rfl 1 (by decide) (hg _ w305) (fun _ h9 => h9) rfl dX1_readWrap_193 ?_
                      have pq115 : (V111 1 1).toInt = ((V 1 1)).toInt := congrArg Int32.toInt ((ajV111 1 1 rfl).trans ((ajV93 1 1 rfl).trans ((ajV59 1 1 rfl).trans ((ajV47 1 1 rfl).trans ((ajV31 1 1 rfl).trans ((ajV24 1 1 rfl).trans ((ajV16 1 1 rfl).trans (ajV8 1 1 rfl))))))))
                      refine g_topv (v := .ref (ad (38 + b))) (rfN_r (by first | omega | ((try (have i_t57 := Imp.go t57 (imp_a (rgz54.1) (rgz54.2) (f63)))); (try (have i_t44 := Imp.go t44 (imp_a (rgz41.1) (rgz41.2) (f51)))); (try (have i_t14 := Imp.go t14 (imp_a (rgz11.1) (rgz11.2) (f20)))); omega) | ((try (have i_t110 := Imp.go t110 (by omega))); (try (have i_t58 := Imp.go t58 (by omega))); (try (have i_t57 := Imp.go t57 (by omega))); (try (have i_t46 := Imp.go t46 (by omega))); first | omega | ((try (have i_t44 := Imp.go t44 (by omega))); (try (have i_t30 := Imp.go t30 (by omega))); (try (have i_t15 := Imp.go t15 (by omega))); (try (have i_t14 := Imp.go t14 (by omega))); first | omega | ((try (have i_tx := Imp.go tx (by omega))); (try (have i_cd := Imp.go cd (by omega))); (try (have i_cd := Imp.go cd (by omega))); (try (have i_tx := Imp.go tx (by omega))); (try (have i_t14 := Imp.go t14 (by omega))); (try (have i_t15 := Imp.go t15 (by omega))); (try (have i_t30 := Imp.go t30 (by omega))); (try (have i_t44 := Imp.go t44 (by omega))); first | omega | ((try (have i_t46 := Imp.go t46 (by omega))); (try (have i_t57 := Imp.go t57 (by omega))); (try (have i_t58 := Imp.go t58 (by omega))); (try (have i_t110 := Imp.go t110 (by omega))); omega)))))) ?_
                      refine lv_iload_n hx hb dX1_readWrap_196 rfl (lv_at hl 4 rfl) ?_
                      refine lv_iload_n hx hb dX1_readWrap_197 rfl (lv_at hl 3 rfl) ?_
                      refine lv_iload_n hx hb dX1_readWrap_198 rfl (lv_at hl 2 rfl) ?_
                      refine lv_iload hx hb dX1_readWrap_199 (lv_at hl 1 rfl) ?_
                      refine lv_iload hx hb dX1_readWrap_201 (lv_at hl 0 rfl) ?_
                      refine gA_void (gA_runV (As := [.int (V16 1 6), .int (V47 1 6), .int (V59 1 8), .int z84, .int (V 42 b)]) (rest := []) (ci := 0) (q0 := (38 + b)) hx hb hml hown hg hP hD hK hS hA hnw hgk (x_addWrap2 l D ks H.size ad kk V111 L112 Z (V16 1 6) (V47 1 6) (V59 1 8) z84 (V 42 b) (b) hMV111 (by first | exact om_827712d37f0f r89.1 r89.2 | first | omega | ((try (have i_t57 := Imp.go t57 (imp_a (rgz54.1) (rgz54.2) (f63)))); (try (have i_t44 := Imp.go t44 (imp_a (rgz41.1) (rgz41.2) (f51)))); (try (have i_t14 := Imp.go t14 (imp_a (rgz11.1) (rgz11.2) (f20)))); omega) | ((try (have i_t110 := Imp.go t110 (by omega))); (try (have i_t58 := Imp.go t58 (by omega))); (try (have i_t57 := Imp.go t57 (by omega))); (try (have i_t46 := Imp.go t46 (by omega))); first | omega | ((try (have i_t44 := Imp.go t44 (by omega))); (try (have i_t30 := Imp.go t30 (by omega))); (try (have i_t15 := Imp.go t15 (by omega))); (try (have i_t14 := Imp.go t14 (by omega))); first | omega | ((try (have i_tx := Imp.go tx (by omega))); (try (have i_cd := Imp.go cd (by omega))); (try (have i_cd := Imp.go cd (by omega))); (try (have i_tx := Imp.go tx (by omega))); (try (have i_t14 := Imp.go t14 (by omega))); (try (have i_t15 := Imp.go t15 (by omega))); (try (have i_t30 := Imp.go t30 (by omega))); (try (have i_t44 := Imp.go t44 (by omega))); first | omega | ((try (have i_t46 := Imp.go t46 (by omega))); (try (have i_t57 := Imp.go t57 (by omega))); (try (have i_t58 := Imp.go t58 (by omega))); (try (have i_t110 := Imp.go t110 (by omega))); omega))))) (show b < 2 from by first | exact om_f940a4667dd6 hb2 | first | omega | ((try (have i_t57 := Imp.go t57 (imp_a (rgz54.1) (rgz54.2) (f63)))); (try (have i_t44 := Imp.go t44 (imp_a (rgz41.1) (rgz41.2) (f51)))); (try (have i_t14 := Imp.go t14 (imp_a (rgz11.1) (rgz11.2) (f20)))); omega) | ((try (have i_t110 := Imp.go t110 (by omega))); (try (have i_t58 := Imp.go t58 (by omega))); (try (have i_t57 := Imp.go t57 (by omega))); (try (have i_t46 := Imp.go t46 (by omega))); first | omega | ((try (have i_t44 := Imp.go t44 (by omega))); (try (have i_t30 := Imp.go t30 (by omega))); (try (have i_t15 := Imp.go t15 (by omega))); (try (have i_t14 := Imp.go t14 (by omega))); first | omega | ((try (have i_tx := Imp.go tx (by omega))); (try (have i_cd := Imp.go cd (by omega))); (try (have i_cd := Imp.go cd (by omega))); (try (have i_tx := Imp.go tx (by omega))); (try (have i_t14 := Imp.go t14 (by omega))); (try (have i_t15 := Imp.go t15 (by omega))); (try (have i_t30 := Imp.go t30 (by omega))); (try (have i_t44 := Imp.go t44 (by omega))); first | omega | ((try (have i_t46 := Imp.go t46 (by omega))); (try (have i_t57 := Imp.go t57 (by omega))); (try (have i_t58 := Imp.go t58 (by omega))); (try (have i_t110 := Imp.go t110 (by omega))); omega))))) t107.2.2) w999 w1000 w1001 w167 w1002 rfl (xgBook hb2) hdV_yX0_addWrap ⟨Nat.le_of_ble_eq_true rfl, Nat.le_of_ble_eq_true rfl⟩ rfl hl.1 rfl (Nat.le_of_ble_eq_true rfl) dX1_readWrap_203 ⟨Nat.le_of_ble_eq_true rfl, Nat.le_of_ble_eq_true rfl⟩) hP hD hK hS hA (fun u117 H locs w118 hP hD hK hS => ?_)
                      obtain ⟨V123, L124⟩ := u117
                      obtain ⟨hMV123, ajV123, axL124, fyV123, t119, t120, t121, t122⟩ := w118
                      have axL124 : L112 = L124 := Eq.symm axL124
                      subst axL124
                      have hP : va_P D vwCl (xw ad kk V123 L112 Z) H := hP
                      have hD : va_D A (xw ad kk V123 L112 Z) := hD
                      have hMV123 : rgd bX V123 := hMV123
                      have ajV123 : agr [] [41, 47, 62, 63, 64, 65, 66] V111 V123 := ajV123
                      have agV123 : agr [(1, 3), (1, 4), (1, 6), (1, 8), (6, 8), (6, 9), (6, 10)] [41, 42, 43, 44, 47, 48, 62, 63, 64, 65, 66] V V123 := agV111.tr ajV123 (by decide) (by decide)
                      have fwV123 : frX (xR b) V V123 := frX.tr fwV111 (fyV123)
                      have t119 : Imp ((V111 41 b).toInt < 12) ((V123 41 b).toInt = (V111 41 b).toInt + 1) := t119
                      have t120 : Imp ((V111 41 b).toInt < 12) (∀ a : Nat, (a : Int) ≤ (V111 41 b).toInt → (V123 47 (12 * b + a)).toInt ≤ (V111 41 b).toInt) := t120
                      have t121 : Imp ((V111 41 b).toInt < 12) (∀ q : Nat, ¬ q = 12 * b + Int32.toNatClampNeg (V111 41 b) → V123 66 q = V111 66 q) := t121
                      have t122 : Imp ((V111 41 b).toInt < 12) (V123 66 (12 * b + Int32.toNatClampNeg (V111 41 b)) = (V 42 b)) := t122
                      have pq125 : (V111 41 b).toInt = ((V 41 b)).toInt := congrArg Int32.toInt ((ajV111 41 b rfl).trans ((ajV93 41 b rfl).trans ((ajV59 41 b rfl).trans ((ajV47 41 b rfl).trans ((ajV31 41 b rfl).trans ((ajV24 41 b rfl).trans ((ajV16 41 b rfl).trans (ajV8 41 b rfl))))))))
                      have k41 := i_clamp (x := V111 41 b) rfl (by have h9 : 0 ≤ (V111 41 b).toInt := (hMV111 41 b).1; omega)
                      have l41 : (V111 41 b).toInt < 12 := by (first | exact om_21343706aabc f4 pq125 | omega)
                      have cl126 : 0 ≤ (V59 42 b).toInt ∧ (V59 42 b).toInt ≤ 8200 := hMV59 42 b
                      have px127 : px V59 V93 b := px.tr (px.rf : px V59 V59 b) (px.ag (show agr [(6, 8), (6, 9), (6, 10)] [] V59 V93 from (agr.tr agr.rf ajV93 (by decide) (by decide))) (fun _ => rfl) (fun _ => rfl) (fun _ => rfl))
                      have px128 : px V59 V111 b := px.tr px127 t109
                      have g5 : gs V111 b (V59 42 b).toInt := (CB.gs cd87.1 (by omega)).up px128.1
                      have pq129 : (V59 42 b).toInt = ((V 42 b)).toInt := congrArg Int32.toInt ((ajV59 42 b rfl).trans ((ajV47 42 b rfl).trans ((ajV31 42 b rfl).trans ((ajV24 42 b rfl).trans ((ajV16 42 b rfl).trans (ajV8 42 b rfl))))))
                      have e5 := congrArg Int32.toInt (Imp.go t122 l41)
                      have tx130 : TX V123 b := TX.wrap (n := Int32.toNatClampNeg (V111 41 b)) t107 k41 (Imp.go t119 l41) (px.ag ajV123 (fun _ => rfl) (fun _ => rfl) (fun _ => rfl)) (fun _ => ajV123 56 _ rfl) (fun _ => ajV123 57 _ rfl) (fun _ => ajV123 61 _ rfl) (Imp.go t121 l41) (by rw [e5, show ((V 42 b)).toInt = (V59 42 b).toInt from by omega]; exact g5) (fun a ha => by have h9 := Imp.go t120 l41 a (by omega); omega)
                      refine lv_iconst (v := 1) hx hb dX1_readWrap_206 (by decide) ?_
                      have pq131 : (V123 1 3).toInt = ((V111 1 3)).toInt := congrArg Int32.toInt (ajV123 1 3 rfl)
                      have cd132 : CD V123 b := ⟨CB.ag t108.1 (show agr [] [41, 47, 62, 63, 64, 65, 66] V111 V123 from (agr.tr agr.rf ajV123 (by decide) (by decide))) (fun _ => rfl) (fun _ => rfl), CO.ag t108.2 (show agr [] [41, 47, 62, 63, 64, 65, 66] V111 V123 from (agr.tr agr.rf ajV123 (by decide) (by decide))) (fun _ => rfl) (fun _ => rfl)⟩
                      have px133 : px V V31 b := px.tr (px.rf : px V V b) (px.ag (show agr [(1, 3), (1, 6), (6, 8), (6, 9), (6, 10)] [] V V31 from (agr.tr (agr.tr (agr.tr (agr.tr agr.rf ajV8 (by decide) (by decide)) ajV16 (by decide) (by decide)) ajV24 (by decide) (by decide)) ajV31 (by decide) (by decide))) (fun _ => rfl) (fun _ => rfl) (fun _ => rfl))
                      have px134 : px V V47 b := px.tr px133 t45
                      have px135 : px V V93 b := px.tr px134 (px.ag (show agr [(1, 3), (1, 8), (6, 8), (6, 9), (6, 10)] [] V47 V93 from (agr.tr (agr.tr agr.rf ajV59 (by decide) (by decide)) ajV93 (by decide) (by decide))) (fun _ => rfl) (fun _ => rfl) (fun _ => rfl))
                      have px136 : px V V111 b := px.tr px135 t109
                      have px137 : px V V123 b := px.tr px136 (px.ag (show agr [] [41, 47, 62, 63, 64, 65, 66] V111 V123 from (agr.tr agr.rf ajV123 (by decide) (by decide))) (fun _ => rfl) (fun _ => rfl) (fun _ => rfl))
                      exact W.zret (v := 1) hx hb hr rfl (fun t ht hW => ⟨⟨1, (V123, L112), rfl, ⟨hMV123, agV123, alL112, fwV123, (by decide), tx130, cd132, px137, (Imp.mk (fun hp => absurd hp (by decide)))⟩, by rw [ht]; exact hP, va_K.moved hW.alike hK, hD⟩, hS.F ht⟩) hS.2.2 dX1_readWrap_207
                    · skip
                      have f138 : z104.toInt = 0 := b_eq rfl (by decide) c113
                      refine lv_iconst (v := 0) hx hb dX1_readWrap_190 (by decide) ?_
                      have px139 : px V V31 b := px.tr (px.rf : px V V b) (px.ag (show agr [(1, 3), (1, 6), (6, 8), (6, 9), (6, 10)] [] V V31 from (agr.tr (agr.tr (agr.tr (agr.tr agr.rf ajV8 (by decide) (by decide)) ajV16 (by decide) (by decide)) ajV24 (by decide) (by decide)) ajV31 (by decide) (by decide))) (fun _ => rfl) (fun _ => rfl) (fun _ => rfl))
                      have px140 : px V V47 b := px.tr px139 t45
                      have px141 : px V V93 b := px.tr px140 (px.ag (show agr [(1, 3), (1, 8), (6, 8), (6, 9), (6, 10)] [] V47 V93 from (agr.tr (agr.tr agr.rf ajV59 (by decide) (by decide)) ajV93 (by decide) (by decide))) (fun _ => rfl) (fun _ => rfl) (fun _ => rfl))
                      have px142 : px V V111 b := px.tr px141 t109
                      exact W.zret (v := 0) hx hb hr rfl (fun t ht hW => ⟨⟨0, (V111, L112), rfl, ⟨hMV111, agV111, alL112, fwV111, (by decide), t107, t108, px142, (Imp.mk (fun _ => (show 1 ≤ (V111 1 3).toInt from by first | exact om_f8d8213eda45 ((Imp.go t110 (f138))) | first | omega | ((try (have i_t110 := Imp.go t110 (f138))); (try (have i_t57 := Imp.go t57 (imp_a (rgz54.1) (rgz54.2) (f63)))); (try (have i_t44 := Imp.go t44 (imp_a (rgz41.1) (rgz41.2) (f51)))); (try (have i_t14 := Imp.go t14 (imp_a (rgz11.1) (rgz11.2) (f20)))); omega) | ((try (have i_t110 := Imp.go t110 (by omega))); (try (have i_t58 := Imp.go t58 (by omega))); (try (have i_t57 := Imp.go t57 (by omega))); (try (have i_t46 := Imp.go t46 (by omega))); first | omega | ((try (have i_t44 := Imp.go t44 (by omega))); (try (have i_t30 := Imp.go t30 (by omega))); (try (have i_t15 := Imp.go t15 (by omega))); (try (have i_t14 := Imp.go t14 (by omega))); first | omega | ((try (have i_tx := Imp.go tx (by omega))); (try (have i_cd := Imp.go cd (by omega))); (try (have i_cd := Imp.go cd (by omega))); (try (have i_tx := Imp.go tx (by omega))); (try (have i_t14 := Imp.go t14 (by omega))); (try (have i_t15 := Imp.go t15 (by omega))); (try (have i_t30 := Imp.go t30 (by omega))); (try (have i_t44 := Imp.go t44 (by omega))); first | omega | ((try (have i_t46 := Imp.go t46 (by omega))); (try (have i_t57 := Imp.go t57 (by omega))); (try (have i_t58 := Imp.go t58 (by omega))); (try (have i_t110 := Imp.go t110 (by omega))); omega)))))))⟩, by rw [ht]; exact hP, va_K.moved hW.alike hK, hD⟩, hS.F ht⟩) hS.2.2 dX1_readWrap_191
                  · skip
                    have f143 : z84.toInt = 1 := b_eq rfl (by decide) c95
                    refine lv_iconst (v := 2) hx hb dX1_readWrap_179 (by decide) ?_
                    refine lv_goto (tgt := 184) hx hb dX1_readWrap_180 (by decide) ?_
                    have r144 : Int32.toInt 2 = 2 := by decide
                    have pq145 : (V93 1 1).toInt = ((V 1 1)).toInt := congrArg Int32.toInt ((ajV93 1 1 rfl).trans ((ajV59 1 1 rfl).trans ((ajV47 1 1 rfl).trans ((ajV31 1 1 rfl).trans ((ajV24 1 1 rfl).trans ((ajV16 1 1 rfl).trans (ajV8 1 1 rfl)))))))
                    have cd146 : CD V93 b := ⟨CB.ag cd.1 (show agr [(1, 3), (1, 6), (1, 8), (6, 8), (6, 9), (6, 10)] [43, 44] V V93 from (agr.tr (agr.tr (agr.tr (agr.tr (agr.tr (agr.tr (agr.tr agr.rf ajV8 (by decide) (by decide)) ajV16 (by decide) (by decide)) ajV24 (by decide) (by decide)) ajV31 (by decide) (by decide)) ajV47 (by decide) (by decide)) ajV59 (by decide) (by decide)) ajV93 (by decide) (by decide))) (fun _ => rfl) (fun _ => rfl), CO.ag cd.2 (show agr [(1, 3), (1, 6), (1, 8), (6, 8), (6, 9), (6, 10)] [43, 44] V V93 from (agr.tr (agr.tr (agr.tr (agr.tr (agr.tr (agr.tr (agr.tr agr.rf ajV8 (by decide) (by decide)) ajV16 (by decide) (by decide)) ajV24 (by decide) (by decide)) ajV31 (by decide) (by decide)) ajV47 (by decide) (by decide)) ajV59 (by decide) (by decide)) ajV93 (by decide) (by decide))) (fun _ => rfl) (fun _ => rfl)⟩
                    have px147 : px V V31 b := px.tr (px.rf : px V V b) (px.ag (show agr [(1, 3), (1, 6), (6, 8), (6, 9), (6, 10)] [] V V31 from (agr.tr (agr.tr (agr.tr (agr.tr agr.rf ajV8 (by decide) (by decide)) ajV16 (by decide) (by decide)) ajV24 (by decide) (by decide)) ajV31 (by decide) (by decide))) (fun _ => rfl) (fun _ => rfl) (fun _ => rfl))
                    have px148 : px V V47 b := px.tr px147 t45
                    have px149 : px V V93 b := px.tr px148 (px.ag (show agr [(1, 3), (1, 8), (6, 8), (6, 9), (6, 10)] [] V47 V93 from (agr.tr (agr.tr agr.rf ajV59 (by decide) (by decide)) ajV93 (by decide) (by decide))) (fun _ => rfl) (fun _ => rfl) (fun _ => rfl))
                    have tx150 : TX V93 b := TX.ag tx (show agr [(1, 3), (1, 6), (1, 8), (6, 8), (6, 9), (6, 10)] [43, 44] V V93 from (agr.tr (agr.tr (agr.tr (agr.tr (agr.tr (agr.tr (agr.tr agr.rf ajV8 (by decide) (by decide)) ajV16 (by decide) (by decide)) ajV24 (by decide) (by decide)) ajV31 (by decide) (by decide)) ajV47 (by decide) (by decide)) ajV59 (by decide) (by decide)) ajV93 (by decide) (by decide))) px149 (fun _ => rfl) (fun _ => rfl) (fun _ => rfl) (fun _ => rfl) (fun _ => rfl) (fun _ => rfl)
                    refine gA_int (gA_runV (As := [.int 2]) (rest := []) (ci := 1) (q0 := 1) hx hb hml hown hg hP hD hK hS hA hnw hgk (x_readE l D ks H.size ad kk V93 L94 Z 2 (b) hMV93 (by decide) (show b < 2 from by first | omega | ((try (have i_t57 := Imp.go t57 (imp_a (rgz54.1) (rgz54.2) (f63)))); (try (have i_t44 := Imp.go t44 (imp_a (rgz41.1) (rgz41.2) (f51)))); (try (have i_t14 := Imp.go t14 (imp_a (rgz11.1) (rgz11.2) (f20)))); omega) | ((try (have i_t58 := Imp.go t58 (by omega))); (try (have i_t57 := Imp.go t57 (by omega))); (try (have i_t46 := Imp.go t46 (by omega))); (try (have i_t44 := Imp.go t44 (by omega))); first | omega | ((try (have i_t30 := Imp.go t30 (by omega))); (try (have i_t15 := Imp.go t15 (by omega))); (try (have i_t14 := Imp.go t14 (by omega))); (try (have i_tx := Imp.go tx (by omega))); first | omega | ((try (have i_cd := Imp.go cd (by omega))); (try (have i_cd := Imp.go cd (by omega))); (try (have i_tx := Imp.go tx (by omega))); (try (have i_t14 := Imp.go t14 (by omega))); first | omega | ((try (have i_t15 := Imp.go t15 (by omega))); (try (have i_t30 := Imp.go t30 (by omega))); (try (have i_t44 := Imp.go t44 (by omega))); (try (have i_t46 := Imp.go t46 (by omega))); (try (have i_t57 := Imp.go t57 (by omega))); (try (have i_t58 := Imp.go t58 (by omega))); omega))))) (show (V93 1 1).toInt = (b : Int) from by first | omega | ((try (have i_t57 := Imp.go t57 (imp_a (rgz54.1) (rgz54.2) (f63)))); (try (have i_t44 := Imp.go t44 (imp_a (rgz41.1) (rgz41.2) (f51)))); (try (have i_t14 := Imp.go t14 (imp_a (rgz11.1) (rgz11.2) (f20)))); omega) | ((try (have i_t58 := Imp.go t58 (by omega))); (try (have i_t57 := Imp.go t57 (by omega))); (try (have i_t46 := Imp.go t46 (by omega))); (try (have i_t44 := Imp.go t44 (by omega))); first | omega | ((try (have i_t30 := Imp.go t30 (by omega))); (try (have i_t15 := Imp.go t15 (by omega))); (try (have i_t14 := Imp.go t14 (by omega))); (try (have i_tx := Imp.go tx (by omega))); first | omega | ((try (have i_cd := Imp.go cd (by omega))); (try (have i_cd := Imp.go cd (by omega))); (try (have i_tx := Imp.go tx (by omega))); (try (have i_t14 := Imp.go t14 (by omega))); first | omega | ((try (have i_t15 := Imp.go t15 (by omega))); (try (have i_t30 := Imp.go t30 (by omega))); (try (have i_t44 := Imp.go t44 (by omega))); (try (have i_t46 := Imp.go t46 (by omega))); (try (have i_t57 := Imp.go t57 (by omega))); (try (have i_t58 := Imp.go t58 (by omega))); omega))))) cd146 tx150) w947 w949 w20 w162 w950 rfl xgReader hdV_yX1_readE ⟨Nat.le_of_ble_eq_true rfl, Nat.le_of_ble_eq_true rfl⟩ rfl hl.1 rfl (Nat.le_of_ble_eq_true rfl) dX1_readWrap_184 ⟨Nat.le_of_ble_eq_true rfl, Nat.le_of_ble_eq_true rfl⟩) hP hD hK hS hA (fun z151 u152 H locs w153 hP hD hK hS => ?_)
                    obtain ⟨V158, L159⟩ := u152
                    obtain ⟨hMV158, ajV158, axL159, fyV158, rgz151, t154, t155, t156, t157⟩ := w153
                    have alL159 : agL [6, 44] L L159 := agL.tr alL94 axL159 (by decide)
                    have hP : va_P D vwCl (xw ad kk V158 L159 Z) H := hP
                    have hD : va_D A (xw ad kk V158 L159 Z) := hD
                    have hMV158 : rgd bX V158 := hMV158
                    have ajV158 : agr [(1, 3), (1, 4), (1, 6), (1, 8), (6, 8), (6, 9), (6, 10)] [42, 43, 44, 48] V93 V158 := ajV158
                    have agV158 : agr [(1, 3), (1, 4), (1, 6), (1, 8), (6, 8), (6, 9), (6, 10)] [41, 42, 43, 44, 47, 48, 62, 63, 64, 65, 66] V V158 := agV93.tr ajV158 (by decide) (by decide)
                    have fwV158 : frX (xR b) V V158 := frX.tr fwV93 (fyV158)
                    have rgz151 : 0 ≤ z151.toInt ∧ z151.toInt ≤ 1 := rgz151
                    have t154 : TX V158 b := t154
                    have t155 : CD V158 b := t155
                    have t156 : px V93 V158 b := t156
                    have t157 : Imp (z151.toInt = 0) (1 ≤ (V158 1 3).toInt) := t157
                    refine lv_if_ne (tgt := 192) hx hb dX1_readWrap_187 (by decide) (fun c160 => ?_) (fun c160 => ?_)
                    · skip
                      have f161 : z151.toInt ≠ 0 := b_neq rfl (by decide) c160
                      refine lv_aload_n hx hb dX1_readWrap_192 rfl (lv_at hl 5 rfl) ?_
                      refine va_get (D := D) (ci := 1) (v := rfN ad 38 (V158 1 1)) (fs := (xfReader ad V158 L159 Z)) (C := RX1) (T := TX1) (N := 9) hx hb hg inX1 hown hK hP 1 xgReader rfl 1 (by decide) (hg _ w305) (fun _ h9 => h9) rfl dX1_readWrap_193 ?_
                      have pq162 : (V158 1 1).toInt = ((V 1 1)).toInt := congrArg Int32.toInt ((ajV158 1 1 rfl).trans ((ajV93 1 1 rfl).trans ((ajV59 1 1 rfl).trans ((ajV47 1 1 rfl).trans ((ajV31 1 1 rfl).trans ((ajV24 1 1 rfl).trans ((ajV16 1 1 rfl).trans (ajV8 1 1 rfl))))))))
                      refine g_topv (v := .ref (ad (38 + b))) (rfN_r (by first | omega | ((try (have i_t57 := Imp.go t57 (imp_a (rgz54.1) (rgz54.2) (f63)))); (try (have i_t44 := Imp.go t44 (imp_a (rgz41.1) (rgz41.2) (f51)))); (try (have i_t14 := Imp.go t14 (imp_a (rgz11.1) (rgz11.2) (f20)))); omega) | ((try (have i_t157 := Imp.go t157 (by omega))); (try (have i_t58 := Imp.go t58 (by omega))); (try (have i_t57 := Imp.go t57 (by omega))); (try (have i_t46 := Imp.go t46 (by omega))); first | omega | ((try (have i_t44 := Imp.go t44 (by omega))); (try (have i_t30 := Imp.go t30 (by omega))); (try (have i_t15 := Imp.go t15 (by omega))); (try (have i_t14 := Imp.go t14 (by omega))); first | omega | ((try (have i_tx := Imp.go tx (by omega))); (try (have i_cd := Imp.go cd (by omega))); (try (have i_cd := Imp.go cd (by omega))); (try (have i_tx := Imp.go tx (by omega))); (try (have i_t14 := Imp.go t14 (by omega))); (try (have i_t15 := Imp.go t15 (by omega))); (try (have i_t30 := Imp.go t30 (by omega))); (try (have i_t44 := Imp.go t44 (by omega))); first | omega | ((try (have i_t46 := Imp.go t46 (by omega))); (try (have i_t57 := Imp.go t57 (by omega))); (try (have i_t58 := Imp.go t58 (by omega))); (try (have i_t157 := Imp.go t157 (by omega))); omega)))))) ?_
                      refine lv_iload_n hx hb dX1_readWrap_196 rfl (lv_at hl 4 rfl) ?_
                      refine lv_iload_n hx hb dX1_readWrap_197 rfl (lv_at hl 3 rfl) ?_
                      refine lv_iload_n hx hb dX1_readWrap_198 rfl (lv_at hl 2 rfl) ?_
                      refine lv_iload hx hb dX1_readWrap_199 (lv_at hl 1 rfl) ?_
                      refine lv_iload hx hb dX1_readWrap_201 (lv_at hl 0 rfl) ?_
                      refine gA_void (gA_runV (As := [.int (V16 1 6), .int (V47 1 6), .int (V59 1 8), .int z84, .int (V 42 b)]) (rest := []) (ci := 0) (q0 := (38 + b)) hx hb hml hown hg hP hD hK hS hA hnw hgk (x_addWrap2 l D ks H.size ad kk V158 L159 Z (V16 1 6) (V47 1 6) (V59 1 8) z84 (V 42 b) (b) hMV158 (by first | omega | ((try (have i_t57 := Imp.go t57 (imp_a (rgz54.1) (rgz54.2) (f63)))); (try (have i_t44 := Imp.go t44 (imp_a (rgz41.1) (rgz41.2) (f51)))); (try (have i_t14 := Imp.go t14 (imp_a (rgz11.1) (rgz11.2) (f20)))); omega) | ((try (have i_t157 := Imp.go t157 (by omega))); (try (have i_t58 := Imp.go t58 (by omega))); (try (have i_t57 := Imp.go t57 (by omega))); (try (have i_t46 := Imp.go t46 (by omega))); first | omega | ((try (have i_t44 := Imp.go t44 (by omega))); (try (have i_t30 := Imp.go t30 (by omega))); (try (have i_t15 := Imp.go t15 (by omega))); (try (have i_t14 := Imp.go t14 (by omega))); first | omega | ((try (have i_tx := Imp.go tx (by omega))); (try (have i_cd := Imp.go cd (by omega))); (try (have i_cd := Imp.go cd (by omega))); (try (have i_tx := Imp.go tx (by omega))); (try (have i_t14 := Imp.go t14 (by omega))); (try (have i_t15 := Imp.go t15 (by omega))); (try (have i_t30 := Imp.go t30 (by omega))); (try (have i_t44 := Imp.go t44 (by omega))); first | omega | ((try (have i_t46 := Imp.go t46 (by omega))); (try (have i_t57 := Imp.go t57 (by omega))); (try (have i_t58 := Imp.go t58 (by omega))); (try (have i_t157 := Imp.go t157 (by omega))); omega))))) (show b < 2 from by first | omega | ((try (have i_t57 := Imp.go t57 (imp_a (rgz54.1) (rgz54.2) (f63)))); (try (have i_t44 := Imp.go t44 (imp_a (rgz41.1) (rgz41.2) (f51)))); (try (have i_t14 := Imp.go t14 (imp_a (rgz11.1) (rgz11.2) (f20)))); omega) | ((try (have i_t157 := Imp.go t157 (by omega))); (try (have i_t58 := Imp.go t58 (by omega))); (try (have i_t57 := Imp.go t57 (by omega))); (try (have i_t46 := Imp.go t46 (by omega))); first | omega | ((try (have i_t44 := Imp.go t44 (by omega))); (try (have i_t30 := Imp.go t30 (by omega))); (try (have i_t15 := Imp.go t15 (by omega))); (try (have i_t14 := Imp.go t14 (by omega))); first | omega | ((try (have i_tx := Imp.go tx (by omega))); (try (have i_cd := Imp.go cd (by omega))); (try (have i_cd := Imp.go cd (by omega))); (try (have i_tx := Imp.go tx (by omega))); (try (have i_t14 := Imp.go t14 (by omega))); (try (have i_t15 := Imp.go t15 (by omega))); (try (have i_t30 := Imp.go t30 (by omega))); (try (have i_t44 := Imp.go t44 (by omega))); first | omega | ((try (have i_t46 := Imp.go t46 (by omega))); (try (have i_t57 := Imp.go t57 (by omega))); (try (have i_t58 := Imp.go t58 (by omega))); (try (have i_t157 := Imp.go t157 (by omega))); omega))))) t154.2.2) w999 w1000 w1001 w167 w1002 rfl (xgBook hb2) hdV_yX0_addWrap ⟨Nat.le_of_ble_eq_true rfl, Nat.le_of_ble_eq_true rfl⟩ rfl hl.1 rfl (Nat.le_of_ble_eq_true rfl) dX1_readWrap_203 ⟨Nat.le_of_ble_eq_true rfl, Nat.le_of_ble_eq_true rfl⟩) hP hD hK hS hA (fun u164 H locs w165 hP hD hK hS => ?_)
                      obtain ⟨V170, L171⟩ := u164
                      obtain ⟨hMV170, ajV170, axL171, fyV170, t166, t167, t168, t169⟩ := w165
                      have axL171 : L159 = L171 := Eq.symm axL171
                      subst axL171
                      have hP : va_P D vwCl (xw ad kk V170 L159 Z) H := hP
                      have hD : va_D A (xw ad kk V170 L159 Z) := hD
                      have hMV170 : rgd bX V170 := hMV170
                      have ajV170 : agr [] [41, 47, 62, 63, 64, 65, 66] V158 V170 := ajV170
                      have agV170 : agr [(1, 3), (1, 4), (1, 6), (1, 8), (6, 8), (6, 9), (6, 10)] [41, 42, 43, 44, 47, 48, 62, 63, 64, 65, 66] V V170 := agV158.tr ajV170 (by decide) (by decide)
                      have fwV170 : frX (xR b) V V170 := frX.tr fwV158 (fyV170)
                      have t166 : Imp ((V158 41 b).toInt < 12) ((V170 41 b).toInt = (V158 41 b).toInt + 1) := t166
                      have t167 : Imp ((V158 41 b).toInt < 12) (∀ a : Nat, (a : Int) ≤ (V158 41 b).toInt → (V170 47 (12 * b + a)).toInt ≤ (V158 41 b).toInt) := t167
                      have t168 : Imp ((V158 41 b).toInt < 12) (∀ q : Nat, ¬ q = 12 * b + Int32.toNatClampNeg (V158 41 b) → V170 66 q = V158 66 q) := t168
                      have t169 : Imp ((V158 41 b).toInt < 12) (V170 66 (12 * b + Int32.toNatClampNeg (V158 41 b)) = (V 42 b)) := t169
                      have pq172 : (V158 41 b).toInt = ((V 41 b)).toInt := congrArg Int32.toInt ((ajV158 41 b rfl).trans ((ajV93 41 b rfl).trans ((ajV59 41 b rfl).trans ((ajV47 41 b rfl).trans ((ajV31 41 b rfl).trans ((ajV24 41 b rfl).trans ((ajV16 41 b rfl).trans (ajV8 41 b rfl))))))))
                      have k41 := i_clamp (x := V158 41 b) rfl (by have h9 : 0 ≤ (V158 41 b).toInt := (hMV158 41 b).1; omega)
                      have l41 : (V158 41 b).toInt < 12 := by omega
                      have cl173 : 0 ≤ (V59 42 b).toInt ∧ (V59 42 b).toInt ≤ 8200 := hMV59 42 b
                      have px174 : px V59 V93 b := px.tr (px.rf : px V59 V59 b) (px.ag (show agr [(6, 8), (6, 9), (6, 10)] [] V59 V93 from (agr.tr agr.rf ajV93 (by decide) (by decide))) (fun _ => rfl) (fun _ => rfl) (fun _ => rfl))
                      have px175 : px V59 V158 b := px.tr px174 t156
                      have g5 : gs V158 b (V59 42 b).toInt := (CB.gs cd87.1 (by omega)).up px175.1
                      have pq176 : (V59 42 b).toInt = ((V 42 b)).toInt := congrArg Int32.toInt ((ajV59 42 b rfl).trans ((ajV47 42 b rfl).trans ((ajV31 42 b rfl).trans ((ajV24 42 b rfl).trans ((ajV16 42 b rfl).trans (ajV8 42 b rfl))))))
                      have e5 := congrArg Int32.toInt (Imp.go t169 l41)
                      have tx177 : TX V170 b := TX.wrap (n := Int32.toNatClampNeg (V158 41 b)) t154 k41 (Imp.go t166 l41) (px.ag ajV170 (fun _ => rfl) (fun _ => rfl) (fun _ => rfl)) (fun _ => ajV170 56 _ rfl) (fun _ => ajV170 57 _ rfl) (fun _ => ajV170 61 _ rfl) (Imp.go t168 l41) (by rw [e5, show ((V 42 b)).toInt = (V59 42 b).toInt from by omega]; exact g5) (fun a ha => by have h9 := Imp.go t167 l41 a (by omega); omega)
                      refine lv_iconst (v := 1) hx hb dX1_readWrap_206 (by decide) ?_
                      have pq178 : (V170 1 3).toInt = ((V158 1 3)).toInt := congrArg Int32.toInt (ajV170 1 3 rfl)
                      have cd179 : CD V170 b := ⟨CB.ag t155.1 (show agr [] [41, 47, 62, 63, 64, 65, 66] V158 V170 from (agr.tr agr.rf ajV170 (by decide) (by decide))) (fun _ => rfl) (fun _ => rfl), CO.ag t155.2 (show agr [] [41, 47, 62, 63, 64, 65, 66] V158 V170 from (agr.tr agr.rf ajV170 (by decide) (by decide))) (fun _ => rfl) (fun _ => rfl)⟩
                      have px180 : px V V31 b := px.tr (px.rf : px V V b) (px.ag (show agr [(1, 3), (1, 6), (6, 8), (6, 9), (6, 10)] [] V V31 from (agr.tr (agr.tr (agr.tr (agr.tr agr.rf ajV8 (by decide) (by decide)) ajV16 (by decide) (by decide)) ajV24 (by decide) (by decide)) ajV31 (by decide) (by decide))) (fun _ => rfl) (fun _ => rfl) (fun _ => rfl))
                      have px181 : px V V47 b := px.tr px180 t45
                      have px182 : px V V93 b := px.tr px181 (px.ag (show agr [(1, 3), (1, 8), (6, 8), (6, 9), (6, 10)] [] V47 V93 from (agr.tr (agr.tr agr.rf ajV59 (by decide) (by decide)) ajV93 (by decide) (by decide))) (fun _ => rfl) (fun _ => rfl) (fun _ => rfl))
                      have px183 : px V V158 b := px.tr px182 t156
                      have px184 : px V V170 b := px.tr px183 (px.ag (show agr [] [41, 47, 62, 63, 64, 65, 66] V158 V170 from (agr.tr agr.rf ajV170 (by decide) (by decide))) (fun _ => rfl) (fun _ => rfl) (fun _ => rfl))
                      exact W.zret (v := 1) hx hb hr rfl (fun t ht hW => ⟨⟨1, (V170, L159), rfl, ⟨hMV170, agV170, alL159, fwV170, (by decide), tx177, cd179, px184, (Imp.mk (fun hp => absurd hp (by decide)))⟩, by rw [ht]; exact hP, va_K.moved hW.alike hK, hD⟩, hS.F ht⟩) hS.2.2 dX1_readWrap_207
                    · skip
                      have f185 : z151.toInt = 0 := b_eq rfl (by decide) c160
                      refine lv_iconst (v := 0) hx hb dX1_readWrap_190 (by decide) ?_
                      have px186 : px V V31 b := px.tr (px.rf : px V V b) (px.ag (show agr [(1, 3), (1, 6), (6, 8), (6, 9), (6, 10)] [] V V31 from (agr.tr (agr.tr (agr.tr (agr.tr agr.rf ajV8 (by decide) (by decide)) ajV16 (by decide) (by decide)) ajV24 (by decide) (by decide)) ajV31 (by decide) (by decide))) (fun _ => rfl) (fun _ => rfl) (fun _ => rfl))
                      have px187 : px V V47 b := px.tr px186 t45
                      have px188 : px V V93 b := px.tr px187 (px.ag (show agr [(1, 3), (1, 8), (6, 8), (6, 9), (6, 10)] [] V47 V93 from (agr.tr (agr.tr agr.rf ajV59 (by decide) (by decide)) ajV93 (by decide) (by decide))) (fun _ => rfl) (fun _ => rfl) (fun _ => rfl))
                      have px189 : px V V158 b := px.tr px188 t156
                      exact W.zret (v := 0) hx hb hr rfl (fun t ht hW => ⟨⟨0, (V158, L159), rfl, ⟨hMV158, agV158, alL159, fwV158, (by decide), t154, t155, px189, (Imp.mk (fun _ => (show 1 ≤ (V158 1 3).toInt from by first | omega | ((try (have i_t157 := Imp.go t157 (f185))); (try (have i_t57 := Imp.go t57 (imp_a (rgz54.1) (rgz54.2) (f63)))); (try (have i_t44 := Imp.go t44 (imp_a (rgz41.1) (rgz41.2) (f51)))); (try (have i_t14 := Imp.go t14 (imp_a (rgz11.1) (rgz11.2) (f20)))); omega) | ((try (have i_t157 := Imp.go t157 (by omega))); (try (have i_t58 := Imp.go t58 (by omega))); (try (have i_t57 := Imp.go t57 (by omega))); (try (have i_t46 := Imp.go t46 (by omega))); first | omega | ((try (have i_t44 := Imp.go t44 (by omega))); (try (have i_t30 := Imp.go t30 (by omega))); (try (have i_t15 := Imp.go t15 (by omega))); (try (have i_t14 := Imp.go t14 (by omega))); first | omega | ((try (have i_tx := Imp.go tx (by omega))); (try (have i_cd := Imp.go cd (by omega))); (try (have i_cd := Imp.go cd (by omega))); (try (have i_tx := Imp.go tx (by omega))); (try (have i_t14 := Imp.go t14 (by omega))); (try (have i_t15 := Imp.go t15 (by omega))); (try (have i_t30 := Imp.go t30 (by omega))); (try (have i_t44 := Imp.go t44 (by omega))); first | omega | ((try (have i_t46 := Imp.go t46 (by omega))); (try (have i_t57 := Imp.go t57 (by omega))); (try (have i_t58 := Imp.go t58 (by omega))); (try (have i_t157 := Imp.go t157 (by omega))); omega)))))))⟩, by rw [ht]; exact hP, va_K.moved hW.alike hK, hD⟩, hS.F ht⟩) hS.2.2 dX1_readWrap_191
                · skip
                  have f190 : z84.toInt = 1 := b_eq rfl (by decide) c85
                  refine lv_aload_n hx hb dX1_readWrap_138 rfl (lv_at hl 4 rfl) ?_
                  refine va_get (D := D) (ci := 1) (v := rfN ad 38 (V59 1 1)) (fs := (xfReader ad V59 L60 Z)) (C := RX1) (T := TX1) (N := 9) hx hb hg inX1 hown hK hP 1 xgReader rfl 1 (by decide) (hg _ w305) (fun _ h9 => h9) rfl dX1_readWrap_139 ?_
                  have pq191 : (V59 1 1).toInt = ((V 1 1)).toInt := congrArg Int32.toInt ((ajV59 1 1 rfl).trans ((ajV47 1 1 rfl).trans ((ajV31 1 1 rfl).trans ((ajV24 1 1 rfl).trans ((ajV16 1 1 rfl).trans (ajV8 1 1 rfl))))))
                  refine g_topv (v := .ref (ad (38 + b))) (rfN_r (by first | omega | ((try (have i_t57 := Imp.go t57 (imp_a (rgz54.1) (rgz54.2) (f63)))); (try (have i_t44 := Imp.go t44 (imp_a (rgz41.1) (rgz41.2) (f51)))); (try (have i_t14 := Imp.go t14 (imp_a (rgz11.1) (rgz11.2) (f20)))); omega) | ((try (have i_t58 := Imp.go t58 (by omega))); (try (have i_t57 := Imp.go t57 (by omega))); (try (have i_t46 := Imp.go t46 (by omega))); (try (have i_t44 := Imp.go t44 (by omega))); first | omega | ((try (have i_t30 := Imp.go t30 (by omega))); (try (have i_t15 := Imp.go t15 (by omega))); (try (have i_t14 := Imp.go t14 (by omega))); (try (have i_tx := Imp.go tx (by omega))); first | omega | ((try (have i_cd := Imp.go cd (by omega))); (try (have i_cd := Imp.go cd (by omega))); (try (have i_tx := Imp.go tx (by omega))); (try (have i_t14 := Imp.go t14 (by omega))); first | omega | ((try (have i_t15 := Imp.go t15 (by omega))); (try (have i_t30 := Imp.go t30 (by omega))); (try (have i_t44 := Imp.go t44 (by omega))); (try (have i_t46 := Imp.go t46 (by omega))); (try (have i_t57 := Imp.go t57 (by omega))); (try (have i_t58 := Imp.go t58 (by omega))); omega)))))) ?_
                  refine lv_iload_n hx hb dX1_readWrap_142 rfl (lv_at hl 2 rfl) ?_
                  refine gA_int (gA_runV (As := [.int (V47 1 6)]) (rest := []) (ci := 0) (q0 := (38 + b)) hx hb hml hown hg hP hD hK hS hA hnw hgk (x_aroundsOf l D ks H.size ad kk V59 L60 Z (V47 1 6) (b) hMV59 (show b < 2 from by first | exact om_f940a4667dd6 hb2 | first | omega | ((try (have i_t57 := Imp.go t57 (imp_a (rgz54.1) (rgz54.2) (f63)))); (try (have i_t44 := Imp.go t44 (imp_a (rgz41.1) (rgz41.2) (f51)))); (try (have i_t14 := Imp.go t14 (imp_a (rgz11.1) (rgz11.2) (f20)))); omega) | ((try (have i_t58 := Imp.go t58 (by omega))); (try (have i_t57 := Imp.go t57 (by omega))); (try (have i_t46 := Imp.go t46 (by omega))); (try (have i_t44 := Imp.go t44 (by omega))); first | omega | ((try (have i_t30 := Imp.go t30 (by omega))); (try (have i_t15 := Imp.go t15 (by omega))); (try (have i_t14 := Imp.go t14 (by omega))); (try (have i_tx := Imp.go tx (by omega))); first | omega | ((try (have i_cd := Imp.go cd (by omega))); (try (have i_cd := Imp.go cd (by omega))); (try (have i_tx := Imp.go tx (by omega))); (try (have i_t14 := Imp.go t14 (by omega))); first | omega | ((try (have i_t15 := Imp.go t15 (by omega))); (try (have i_t30 := Imp.go t30 (by omega))); (try (have i_t44 := Imp.go t44 (by omega))); (try (have i_t46 := Imp.go t46 (by omega))); (try (have i_t57 := Imp.go t57 (by omega))); (try (have i_t58 := Imp.go t58 (by omega))); omega)))))) w943 w944 w945 w167 w946 rfl (xgBook hb2) hdV_yX0_aroundsOf ⟨Nat.le_of_ble_eq_true rfl, Nat.le_of_ble_eq_true rfl⟩ rfl hl.1 rfl (Nat.le_of_ble_eq_true rfl) dX1_readWrap_143 ⟨Nat.le_of_ble_eq_true rfl, Nat.le_of_ble_eq_true rfl⟩) hP hD hK hS hA (fun z192 u193 H locs w194 hP hD hK hS => ?_)
                  refine lv_iconst (v := 2) hx hb dX1_readWrap_146 (by decide) ?_
                  refine lv_icmp_lt (tgt := 156) hx hb dX1_readWrap_147 (by decide) (fun c195 => ?_) (fun c195 => ?_)
                  · skip
                    have f196 : z192.toInt < 2 := b_lt rfl (by decide) c195
                    refine lv_aload_n hx hb dX1_readWrap_156 rfl (lv_at hl 4 rfl) ?_
                    have cd197 : CD V59 b := ⟨CB.ag cd.1 (show agr [(1, 3), (1, 6), (1, 8), (6, 8), (6, 9), (6, 10)] [43, 44] V V59 from (agr.tr (agr.tr (agr.tr (agr.tr (agr.tr (agr.tr agr.rf ajV8 (by decide) (by decide)) ajV16 (by decide) (by decide)) ajV24 (by decide) (by decide)) ajV31 (by decide) (by decide)) ajV47 (by decide) (by decide)) ajV59 (by decide) (by decide))) (fun _ => rfl) (fun _ => rfl), CO.ag cd.2 (show agr [(1, 3), (1, 6), (1, 8), (6, 8), (6, 9), (6, 10)] [43, 44] V V59 from (agr.tr (agr.tr (agr.tr (agr.tr (agr.tr (agr.tr agr.rf ajV8 (by decide) (by decide)) ajV16 (by decide) (by decide)) ajV24 (by decide) (by decide)) ajV31 (by decide) (by decide)) ajV47 (by decide) (by decide)) ajV59 (by decide) (by decide))) (fun _ => rfl) (fun _ => rfl)⟩
                    refine va_get (D := D) (ci := 1) (v := rfN ad 38 (V59 1 1)) (fs := (xfReader ad V59 L60 Z)) (C := RX1) (T := TX1) (N := 9) hx hb hg inX1 hown hK hP 1 xgReader rfl 1 (by decide) (hg _ w305) (fun _ h9 => h9) rfl dX1_readWrap_157 ?_
                    refine g_topv (v := .ref (ad (38 + b))) (rfN_r (by first | omega | ((try (have i_t57 := Imp.go t57 (imp_a (rgz54.1) (rgz54.2) (f63)))); (try (have i_t44 := Imp.go t44 (imp_a (rgz41.1) (rgz41.2) (f51)))); (try (have i_t14 := Imp.go t14 (imp_a (rgz11.1) (rgz11.2) (f20)))); omega) | ((try (have i_t58 := Imp.go t58 (by omega))); (try (have i_t57 := Imp.go t57 (by omega))); (try (have i_t46 := Imp.go t46 (by omega))); (try (have i_t44 := Imp.go t44 (by omega))); first | omega | ((try (have i_t30 := Imp.go t30 (by omega))); (try (have i_t15 := Imp.go t15 (by omega))); (try (have i_t14 := Imp.go t14 (by omega))); (try (have i_tx := Imp.go tx (by omega))); first | omega | ((try (have i_cd := Imp.go cd (by omega))); (try (have i_cd := Imp.go cd (by omega))); (try (have i_tx := Imp.go tx (by omega))); (try (have i_t14 := Imp.go t14 (by omega))); first | omega | ((try (have i_t15 := Imp.go t15 (by omega))); (try (have i_t30 := Imp.go t30 (by omega))); (try (have i_t44 := Imp.go t44 (by omega))); (try (have i_t46 := Imp.go t46 (by omega))); (try (have i_t57 := Imp.go t57 (by omega))); (try (have i_t58 := Imp.go t58 (by omega))); omega)))))) ?_
                    refine va_getN (D := D) (ci := 0) (v := .int (V59 42 b)) (fs := (xfBook ad V59 b)) (C := RX0) (T := TX0) (N := 13) hx hb hg inX0 hown hK hP (38 + b) (xgBook hb2) rfl 12 (by decide) (hnw.use 630 n630 rfl) (fun _ h9 => h9) rfl dX1_readWrap_160 ?_
                    refine g_top (v := (V 42 b)) ((ajV59 42 b rfl).trans ((ajV47 42 b rfl).trans ((ajV31 42 b rfl).trans ((ajV24 42 b rfl).trans ((ajV16 42 b rfl).trans (ajV8 42 b rfl)))))) ?_
                    have r198 : 0 ≤ ((V 42 b)).toInt ∧ ((V 42 b)).toInt ≤ 8200 := hMV 42 b
                    refine lv_istore (lv' := [(5, .int (V 42 b)), (4, .int z84), (3, .int (V59 1 8)), (2, .int (V47 1 6)), (1, .int (V16 1 6)), (0, .ref (ad 1))]) hx hb dX1_readWrap_163 hl (by decide) rfl (fun ls hl => ?_)
                    refine lv_aload_n hx hb dX1_readWrap_165 rfl (lv_at hl 5 rfl) ?_
                    refine va_get (D := D) (ci := 1) (v := .ref (ad 6)) (fs := (xfReader ad V59 L60 Z)) (C := RX1) (T := TX1) (N := 9) hx hb hg inX1 hown hK hP 1 xgReader rfl 0 (by decide) (hg _ w304) (fun _ h9 => h9) rfl dX1_readWrap_166 ?_
                    refine gA_void (gA_runV (As := []) (rest := []) (ci := 9) (q0 := 6) hx hb hml hown hg hP hD hK hS hA hnw hgk (x_next l D ks H.size ad kk V59 L60 Z  hMV59 ) w871 w852 w853 w157 w854 rfl xgTape hdV_yX9_next ⟨Nat.le_of_ble_eq_true rfl, Nat.le_of_ble_eq_true rfl⟩ rfl hl.1 rfl (Nat.le_of_ble_eq_true rfl) dX1_readWrap_169 ⟨Nat.le_of_ble_eq_true rfl, Nat.le_of_ble_eq_true rfl⟩) hP hD hK hS hA (fun u200 H locs w201 hP hD hK hS => ?_)
                    obtain ⟨V202, L203⟩ := u200
                    obtain ⟨hMV202, ajV202, axL203⟩ := w201
                    have alL203 : agL [6, 44] L L203 := agL.tr alL60 axL203 (by decide)
                    have hP : va_P D vwCl (xw ad kk V202 L203 Z) H := hP
                    have hD : va_D A (xw ad kk V202 L203 Z) := hD
                    have hMV202 : rgd bX V202 := hMV202
                    have ajV202 : agr [(6, 8), (6, 9), (6, 10)] [] V59 V202 := ajV202
                    have agV202 : agr [(1, 3), (1, 4), (1, 6), (1, 8), (6, 8), (6, 9), (6, 10)] [41, 42, 43, 44, 47, 48, 62, 63, 64, 65, 66] V V202 := agV59.tr ajV202 (by decide) (by decide)
                    have fwV202 : frX (xR b) V V202 := frX.tr fwV59 (frX.ag ajV202 (by decide) (by decide))
                    refine lv_aload_n hx hb dX1_readWrap_172 rfl (lv_at hl 5 rfl) ?_
                    refine lv_iload hx hb dX1_readWrap_173 (lv_at hl 1 rfl) ?_
                    refine lv_iconst (v := 1) hx hb dX1_readWrap_175 (by decide) ?_
                    refine lv_icmp_ne (tgt := 183) hx hb dX1_readWrap_176 (by decide) (fun c204 => ?_) (fun c204 => ?_)
                    · skip
                      have f205 : z84.toInt ≠ 1 := b_neq rfl (by decide) c204
                      exfalso; first | exact om_b36fcf15d462 f190 f205 | first | omega | ((try (have i_t57 := Imp.go t57 (imp_a (rgz54.1) (rgz54.2) (f63)))); (try (have i_t44 := Imp.go t44 (imp_a (rgz41.1) (rgz41.2) (f51)))); (try (have i_t14 := Imp.go t14 (imp_a (rgz11.1) (rgz11.2) (f20)))); omega) | ((try (have i_t58 := Imp.go t58 (by omega))); (try (have i_t57 := Imp.go t57 (by omega))); (try (have i_t46 := Imp.go t46 (by omega))); (try (have i_t44 := Imp.go t44 (by omega))); first | omega | ((try (have i_t30 := Imp.go t30 (by omega))); (try (have i_t15 := Imp.go t15 (by omega))); (try (have i_t14 := Imp.go t14 (by omega))); (try (have i_tx := Imp.go tx (by omega))); first | omega | ((try (have i_cd := Imp.go cd (by omega))); (try (have i_cd := Imp.go cd (by omega))); (try (have i_tx := Imp.go tx (by omega))); (try (have i_t14 := Imp.go t14 (by omega))); first | omega | ((try (have i_t15 := Imp.go t15 (by omega))); (try (have i_t30 := Imp.go t30 (by omega))); (try (have i_t44 := Imp.go t44 (by omega))); (try (have i_t46 := Imp.go t46 (by omega))); (try (have i_t57 := Imp.go t57 (by omega))); (try (have i_t58 := Imp.go t58 (by omega))); omega))))
                    · skip
                      have f206 : z84.toInt = 1 := b_eq rfl (by decide) c204
                      refine lv_iconst (v := 2) hx hb dX1_readWrap_179 (by decide) ?_
                      refine lv_goto (tgt := 184) hx hb dX1_readWrap_180 (by decide) ?_
                      have r207 : Int32.toInt 2 = 2 := by decide
                      have pq208 : (V202 1 1).toInt = ((V 1 1)).toInt := congrArg Int32.toInt ((ajV202 1 1 rfl).trans ((ajV59 1 1 rfl).trans ((ajV47 1 1 rfl).trans ((ajV31 1 1 rfl).trans ((ajV24 1 1 rfl).trans ((ajV16 1 1 rfl).trans (ajV8 1 1 rfl)))))))
                      have cd209 : CD V202 b := ⟨CB.ag cd.1 (show agr [(1, 3), (1, 6), (1, 8), (6, 8), (6, 9), (6, 10)] [43, 44] V V202 from (agr.tr (agr.tr (agr.tr (agr.tr (agr.tr (agr.tr (agr.tr agr.rf ajV8 (by decide) (by decide)) ajV16 (by decide) (by decide)) ajV24 (by decide) (by decide)) ajV31 (by decide) (by decide)) ajV47 (by decide) (by decide)) ajV59 (by decide) (by decide)) ajV202 (by decide) (by decide))) (fun _ => rfl) (fun _ => rfl), CO.ag cd.2 (show agr [(1, 3), (1, 6), (1, 8), (6, 8), (6, 9), (6, 10)] [43, 44] V V202 from (agr.tr (agr.tr (agr.tr (agr.tr (agr.tr (agr.tr (agr.tr agr.rf ajV8 (by decide) (by decide)) ajV16 (by decide) (by decide)) ajV24 (by decide) (by decide)) ajV31 (by decide) (by decide)) ajV47 (by decide) (by decide)) ajV59 (by decide) (by decide)) ajV202 (by decide) (by decide))) (fun _ => rfl) (fun _ => rfl)⟩
                      have px210 : px V V31 b := px.tr (px.rf : px V V b) (px.ag (show agr [(1, 3), (1, 6), (6, 8), (6, 9), (6, 10)] [] V V31 from (agr.tr (agr.tr (agr.tr (agr.tr agr.rf ajV8 (by decide) (by decide)) ajV16 (by decide) (by decide)) ajV24 (by decide) (by decide)) ajV31 (by decide) (by decide))) (fun _ => rfl) (fun _ => rfl) (fun _ => rfl))
                      have px211 : px V V47 b := px.tr px210 t45
                      have px212 : px V V202 b := px.tr px211 (px.ag (show agr [(1, 3), (1, 8), (6, 8), (6, 9), (6, 10)] [] V47 V202 from (agr.tr (agr.tr agr.rf ajV59 (by decide) (by decide)) ajV202 (by decide) (by decide))) (fun _ => rfl) (fun _ => rfl) (fun _ => rfl))
                      have tx213 : TX V202 b := TX.ag tx (show agr [(1, 3), (1, 6), (1, 8), (6, 8), (6, 9), (6, 10)] [43, 44] V V202 from (agr.tr (agr.tr (agr.tr (agr.tr (agr.tr (agr.tr (agr.tr agr.rf ajV8 (by decide) (by decide)) ajV16 (by decide) (by decide)) ajV24 (by decide) (by decide)) ajV31 (by decide) (by decide)) ajV47 (by decide) (by decide)) ajV59 (by decide) (by decide)) ajV202 (by decide) (by decide))) px212 (fun _ => rfl) (fun _ => rfl) (fun _ => rfl) (fun _ => rfl) (fun _ => rfl) (fun _ => rfl)
                      refine gA_int (gA_runV (As := [.int 2]) (rest := []) (ci := 1) (q0 := 1) hx hb hml hown hg hP hD hK hS hA hnw hgk (x_readE l D ks H.size ad kk V202 L203 Z 2 (b) hMV202 (by decide) (show b < 2 from by first | exact om_f940a4667dd6 hb2 | first | omega | ((try (have i_t57 := Imp.go t57 (imp_a (rgz54.1) (rgz54.2) (f63)))); (try (have i_t44 := Imp.go t44 (imp_a (rgz41.1) (rgz41.2) (f51)))); (try (have i_t14 := Imp.go t14 (imp_a (rgz11.1) (rgz11.2) (f20)))); omega) | ((try (have i_t58 := Imp.go t58 (by omega))); (try (have i_t57 := Imp.go t57 (by omega))); (try (have i_t46 := Imp.go t46 (by omega))); (try (have i_t44 := Imp.go t44 (by omega))); first | omega | ((try (have i_t30 := Imp.go t30 (by omega))); (try (have i_t15 := Imp.go t15 (by omega))); (try (have i_t14 := Imp.go t14 (by omega))); (try (have i_tx := Imp.go tx (by omega))); first | omega | ((try (have i_cd := Imp.go cd (by omega))); (try (have i_cd := Imp.go cd (by omega))); (try (have i_tx := Imp.go tx (by omega))); (try (have i_t14 := Imp.go t14 (by omega))); first | omega | ((try (have i_t15 := Imp.go t15 (by omega))); (try (have i_t30 := Imp.go t30 (by omega))); (try (have i_t44 := Imp.go t44 (by omega))); (try (have i_t46 := Imp.go t46 (by omega))); (try (have i_t57 := Imp.go t57 (by omega))); (try (have i_t58 := Imp.go t58 (by omega))); omega))))) (show (V202 1 1).toInt = (b : Int) from by first | exact om_adf531c77a0d rbk pq208 | first | omega | ((try (have i_t57 := Imp.go t57 (imp_a (rgz54.1) (rgz54.2) (f63)))); (try (have i_t44 := Imp.go t44 (imp_a (rgz41.1) (rgz41.2) (f51)))); (try (have i_t14 := Imp.go t14 (imp_a (rgz11.1) (rgz11.2) (f20)))); omega) | ((try (have i_t58 := Imp.go t58 (by omega))); (try (have i_t57 := Imp.go t57 (by omega))); (try (have i_t46 := Imp.go t46 (by omega))); (try (have i_t44 := Imp.go t44 (by omega))); first | omega | ((try (have i_t30 := Imp.go t30 (by omega))); (try (have i_t15 := Imp.go t15 (by omega))); (try (have i_t14 := Imp.go t14 (by omega))); (try (have i_tx := Imp.go tx (by omega))); first | omega | ((try (have i_cd := Imp.go cd (by omega))); (try (have i_cd := Imp.go cd (by omega))); (try (have i_tx := Imp.go tx (by omega))); (try (have i_t14 := Imp.go t14 (by omega))); first | omega | ((try (have i_t15 := Imp.go t15 (by omega))); (try (have i_t30 := Imp.go t30 (by omega))); (try (have i_t44 := Imp.go t44 (by omega))); (try (have i_t46 := Imp.go t46 (by omega))); (try (have i_t57 := Imp.go t57 (by omega))); (try (have i_t58 := Imp.go t58 (by omega))); omega))))) cd209 tx213) w947 w949 w20 w162 w950 rfl xgReader hdV_yX1_readE ⟨Nat.le_of_ble_eq_true rfl, Nat.le_of_ble_eq_true rfl⟩ rfl hl.1 rfl (Nat.le_of_ble_eq_true rfl) dX1_readWrap_184 ⟨Nat.le_of_ble_eq_true rfl, Nat.le_of_ble_eq_true rfl⟩) hP hD hK hS hA (fun z214 u215 H locs w216 hP hD hK hS => ?_)
                      obtain ⟨V221, L222⟩ := u215
                      obtain ⟨hMV221, ajV221, axL222, fyV221, rgz214, t217, t218, t219, t220⟩ := w216
                      have alL222 : agL [6, 44] L L222 := agL.tr alL203 axL222 (by decide)
                      have hP : va_P D vwCl (xw ad kk V221 L222 Z) H := hP
                      have hD : va_D A (xw ad kk V221 L222 Z) := hD
                      have hMV221 : rgd bX V221 := hMV221
                      have ajV221 : agr [(1, 3), (1, 4), (1, 6), (1, 8), (6, 8), (6, 9), (6, 10)] [42, 43, 44, 48] V202 V221 := ajV221
                      have agV221 : agr [(1, 3), (1, 4), (1, 6), (1, 8), (6, 8), (6, 9), (6, 10)] [41, 42, 43, 44, 47, 48, 62, 63, 64, 65, 66] V V221 := agV202.tr ajV221 (by decide) (by decide)
                      have fwV221 : frX (xR b) V V221 := frX.tr fwV202 (fyV221)
                      have rgz214 : 0 ≤ z214.toInt ∧ z214.toInt ≤ 1 := rgz214
                      have t217 : TX V221 b := t217
                      have t218 : CD V221 b := t218
                      have t219 : px V202 V221 b := t219
                      have t220 : Imp (z214.toInt = 0) (1 ≤ (V221 1 3).toInt) := t220
                      refine lv_if_ne (tgt := 192) hx hb dX1_readWrap_187 (by decide) (fun c223 => ?_) (fun c223 => ?_)
                      · skip
                        have f224 : z214.toInt ≠ 0 := b_neq rfl (by decide) c223
                        refine lv_aload_n hx hb dX1_readWrap_192 rfl (lv_at hl 5 rfl) ?_
                        refine va_get (D := D) (ci := 1) (v := rfN ad 38 (V221 1 1)) (fs := (xfReader ad V221 L222 Z)) (C := RX1) (T := TX1) (N := 9) hx hb hg inX1 hown hK hP 1 xgReader rfl 1 (by decide) (hg _ w305) (fun _ h9 => h9) rfl dX1_readWrap_193 ?_
                        have pq225 : (V221 1 1).toInt = ((V 1 1)).toInt := congrArg Int32.toInt ((ajV221 1 1 rfl).trans ((ajV202 1 1 rfl).trans ((ajV59 1 1 rfl).trans ((ajV47 1 1 rfl).trans ((ajV31 1 1 rfl).trans ((ajV24 1 1 rfl).trans ((ajV16 1 1 rfl).trans (ajV8 1 1 rfl))))))))
                        refine g_topv (v := .ref (ad (38 + b))) (rfN_r (by first | omega | ((try (have i_t57 := Imp.go t57 (imp_a (rgz54.1) (rgz54.2) (f63)))); (try (have i_t44 := Imp.go t44 (imp_a (rgz41.1) (rgz41.2) (f51)))); (try (have i_t14 := Imp.go t14 (imp_a (rgz11.1) (rgz11.2) (f20)))); omega) | ((try (have i_t220 := Imp.go t220 (by omega))); (try (have i_t58 := Imp.go t58 (by omega))); (try (have i_t57 := Imp.go t57 (by omega))); (try (have i_t46 := Imp.go t46 (by omega))); first | omega | ((try (have i_t44 := Imp.go t44 (by omega))); (try (have i_t30 := Imp.go t30 (by omega))); (try (have i_t15 := Imp.go t15 (by omega))); (try (have i_t14 := Imp.go t14 (by omega))); first | omega | ((try (have i_tx := Imp.go tx (by omega))); (try (have i_cd := Imp.go cd (by omega))); (try (have i_cd := Imp.go cd (by omega))); (try (have i_tx := Imp.go tx (by omega))); (try (have i_t14 := Imp.go t14 (by omega))); (try (have i_t15 := Imp.go t15 (by omega))); (try (have i_t30 := Imp.go t30 (by omega))); (try (have i_t44 := Imp.go t44 (by omega))); first | omega | ((try (have i_t46 := Imp.go t46 (by omega))); (try (have i_t57 := Imp.go t57 (by omega))); (try (have i_t58 := Imp.go t58 (by omega))); (try (have i_t220 := Imp.go t220 (by omega))); omega)))))) ?_
                        refine lv_iload_n hx hb dX1_readWrap_196 rfl (lv_at hl 4 rfl) ?_
                        refine lv_iload_n hx hb dX1_readWrap_197 rfl (lv_at hl 3 rfl) ?_
                        refine lv_iload_n hx hb dX1_readWrap_198 rfl (lv_at hl 2 rfl) ?_
                        refine lv_iload hx hb dX1_readWrap_199 (lv_at hl 1 rfl) ?_
                        refine lv_iload hx hb dX1_readWrap_201 (lv_at hl 0 rfl) ?_
                        refine gA_void (gA_runV (As := [.int (V16 1 6), .int (V47 1 6), .int (V59 1 8), .int z84, .int (V 42 b)]) (rest := []) (ci := 0) (q0 := (38 + b)) hx hb hml hown hg hP hD hK hS hA hnw hgk (x_addWrap2 l D ks H.size ad kk V221 L222 Z (V16 1 6) (V47 1 6) (V59 1 8) z84 (V 42 b) (b) hMV221 (by first | exact om_827712d37f0f r198.1 r198.2 | first | omega | ((try (have i_t57 := Imp.go t57 (imp_a (rgz54.1) (rgz54.2) (f63)))); (try (have i_t44 := Imp.go t44 (imp_a (rgz41.1) (rgz41.2) (f51)))); (try (have i_t14 := Imp.go t14 (imp_a (rgz11.1) (rgz11.2) (f20)))); omega) | ((try (have i_t220 := Imp.go t220 (by omega))); (try (have i_t58 := Imp.go t58 (by omega))); (try (have i_t57 := Imp.go t57 (by omega))); (try (have i_t46 := Imp.go t46 (by omega))); first | omega | ((try (have i_t44 := Imp.go t44 (by omega))); (try (have i_t30 := Imp.go t30 (by omega))); (try (have i_t15 := Imp.go t15 (by omega))); (try (have i_t14 := Imp.go t14 (by omega))); first | omega | ((try (have i_tx := Imp.go tx (by omega))); (try (have i_cd := Imp.go cd (by omega))); (try (have i_cd := Imp.go cd (by omega))); (try (have i_tx := Imp.go tx (by omega))); (try (have i_t14 := Imp.go t14 (by omega))); (try (have i_t15 := Imp.go t15 (by omega))); (try (have i_t30 := Imp.go t30 (by omega))); (try (have i_t44 := Imp.go t44 (by omega))); first | omega | ((try (have i_t46 := Imp.go t46 (by omega))); (try (have i_t57 := Imp.go t57 (by omega))); (try (have i_t58 := Imp.go t58 (by omega))); (try (have i_t220 := Imp.go t220 (by omega))); omega))))) (show b < 2 from by first | exact om_f940a4667dd6 hb2 | first | omega | ((try (have i_t57 := Imp.go t57 (imp_a (rgz54.1) (rgz54.2) (f63)))); (try (have i_t44 := Imp.go t44 (imp_a (rgz41.1) (rgz41.2) (f51)))); (try (have i_t14 := Imp.go t14 (imp_a (rgz11.1) (rgz11.2) (f20)))); omega) | ((try (have i_t220 := Imp.go t220 (by omega))); (try (have i_t58 := Imp.go t58 (by omega))); (try (have i_t57 := Imp.go t57 (by omega))); (try (have i_t46 := Imp.go t46 (by omega))); first | omega | ((try (have i_t44 := Imp.go t44 (by omega))); (try (have i_t30 := Imp.go t30 (by omega))); (try (have i_t15 := Imp.go t15 (by omega))); (try (have i_t14 := Imp.go t14 (by omega))); first | omega | ((try (have i_tx := Imp.go tx (by omega))); (try (have i_cd := Imp.go cd (by omega))); (try (have i_cd := Imp.go cd (by omega))); (try (have i_tx := Imp.go tx (by omega))); (try (have i_t14 := Imp.go t14 (by omega))); (try (have i_t15 := Imp.go t15 (by omega))); (try (have i_t30 := Imp.go t30 (by omega))); (try (have i_t44 := Imp.go t44 (by omega))); first | omega | ((try (have i_t46 := Imp.go t46 (by omega))); (try (have i_t57 := Imp.go t57 (by omega))); (try (have i_t58 := Imp.go t58 (by omega))); (try (have i_t220 := Imp.go t220 (by omega))); omega))))) t217.2.2) w999 w1000 w1001 w167 w1002 rfl (xgBook hb2) hdV_yX0_addWrap ⟨Nat.le_of_ble_eq_true rfl, Nat.le_of_ble_eq_true rfl⟩ rfl hl.1 rfl (Nat.le_of_ble_eq_true rfl) dX1_readWrap_203 ⟨Nat.le_of_ble_eq_true rfl, Nat.le_of_ble_eq_true rfl⟩) hP hD hK hS hA (fun u227 H locs w228 hP hD hK hS => ?_)
                        obtain ⟨V233, L234⟩ := u227
                        obtain ⟨hMV233, ajV233, axL234, fyV233, t229, t230, t231, t232⟩ := w228
                        have axL234 : L222 = L234 := Eq.symm axL234
                        subst axL234
                        have hP : va_P D vwCl (xw ad kk V233 L222 Z) H := hP
                        have hD : va_D A (xw ad kk V233 L222 Z) := hD
                        have hMV233 : rgd bX V233 := hMV233
                        have ajV233 : agr [] [41, 47, 62, 63, 64, 65, 66] V221 V233 := ajV233
                        have agV233 : agr [(1, 3), (1, 4), (1, 6), (1, 8), (6, 8), (6, 9), (6, 10)] [41, 42, 43, 44, 47, 48, 62, 63, 64, 65, 66] V V233 := agV221.tr ajV233 (by decide) (by decide)
                        have fwV233 : frX (xR b) V V233 := frX.tr fwV221 (fyV233)
                        have t229 : Imp ((V221 41 b).toInt < 12) ((V233 41 b).toInt = (V221 41 b).toInt + 1) := t229
                        have t230 : Imp ((V221 41 b).toInt < 12) (∀ a : Nat, (a : Int) ≤ (V221 41 b).toInt → (V233 47 (12 * b + a)).toInt ≤ (V221 41 b).toInt) := t230
                        have t231 : Imp ((V221 41 b).toInt < 12) (∀ q : Nat, ¬ q = 12 * b + Int32.toNatClampNeg (V221 41 b) → V233 66 q = V221 66 q) := t231
                        have t232 : Imp ((V221 41 b).toInt < 12) (V233 66 (12 * b + Int32.toNatClampNeg (V221 41 b)) = (V 42 b)) := t232
                        have pq235 : (V221 41 b).toInt = ((V 41 b)).toInt := congrArg Int32.toInt ((ajV221 41 b rfl).trans ((ajV202 41 b rfl).trans ((ajV59 41 b rfl).trans ((ajV47 41 b rfl).trans ((ajV31 41 b rfl).trans ((ajV24 41 b rfl).trans ((ajV16 41 b rfl).trans (ajV8 41 b rfl))))))))
                        have k41 := i_clamp (x := V221 41 b) rfl (by have h9 : 0 ≤ (V221 41 b).toInt := (hMV221 41 b).1; omega)
                        have l41 : (V221 41 b).toInt < 12 := by (first | exact om_21343706aabc f4 pq235 | omega)
                        have cl236 : 0 ≤ (V59 42 b).toInt ∧ (V59 42 b).toInt ≤ 8200 := hMV59 42 b
                        have px237 : px V59 V202 b := px.tr (px.rf : px V59 V59 b) (px.ag (show agr [(6, 8), (6, 9), (6, 10)] [] V59 V202 from (agr.tr agr.rf ajV202 (by decide) (by decide))) (fun _ => rfl) (fun _ => rfl) (fun _ => rfl))
                        have px238 : px V59 V221 b := px.tr px237 t219
                        have g5 : gs V221 b (V59 42 b).toInt := (CB.gs cd197.1 (by omega)).up px238.1
                        have pq239 : (V59 42 b).toInt = ((V 42 b)).toInt := congrArg Int32.toInt ((ajV59 42 b rfl).trans ((ajV47 42 b rfl).trans ((ajV31 42 b rfl).trans ((ajV24 42 b rfl).trans ((ajV16 42 b rfl).trans (ajV8 42 b rfl))))))
                        have e5 := congrArg Int32.toInt (Imp.go t232 l41)
                        have tx240 : TX V233 b := TX.wrap (n := Int32.toNatClampNeg (V221 41 b)) t217 k41 (Imp.go t229 l41) (px.ag ajV233 (fun _ => rfl) (fun _ => rfl) (fun _ => rfl)) (fun _ => ajV233 56 _ rfl) (fun _ => ajV233 57 _ rfl) (fun _ => ajV233 61 _ rfl) (Imp.go t231 l41) (by rw [e5, show ((V 42 b)).toInt = (V59 42 b).toInt from by omega]; exact g5) (fun a ha => by have h9 := Imp.go t230 l41 a (by omega); omega)
                        refine lv_iconst (v := 1) hx hb dX1_readWrap_206 (by decide) ?_
                        have pq241 : (V233 1 3).toInt = ((V221 1 3)).toInt := congrArg Int32.toInt (ajV233 1 3 rfl)
                        have cd242 : CD V233 b := ⟨CB.ag t218.1 (show agr [] [41, 47, 62, 63, 64, 65, 66] V221 V233 from (agr.tr agr.rf ajV233 (by decide) (by decide))) (fun _ => rfl) (fun _ => rfl), CO.ag t218.2 (show agr [] [41, 47, 62, 63, 64, 65, 66] V221 V233 from (agr.tr agr.rf ajV233 (by decide) (by decide))) (fun _ => rfl) (fun _ => rfl)⟩
                        have px243 : px V V31 b := px.tr (px.rf : px V V b) (px.ag (show agr [(1, 3), (1, 6), (6, 8), (6, 9), (6, 10)] [] V V31 from (agr.tr (agr.tr (agr.tr (agr.tr agr.rf ajV8 (by decide) (by decide)) ajV16 (by decide) (by decide)) ajV24 (by decide) (by decide)) ajV31 (by decide) (by decide))) (fun _ => rfl) (fun _ => rfl) (fun _ => rfl))
                        have px244 : px V V47 b := px.tr px243 t45
                        have px245 : px V V202 b := px.tr px244 (px.ag (show agr [(1, 3), (1, 8), (6, 8), (6, 9), (6, 10)] [] V47 V202 from (agr.tr (agr.tr agr.rf ajV59 (by decide) (by decide)) ajV202 (by decide) (by decide))) (fun _ => rfl) (fun _ => rfl) (fun _ => rfl))
                        have px246 : px V V221 b := px.tr px245 t219
                        have px247 : px V V233 b := px.tr px246 (px.ag (show agr [] [41, 47, 62, 63, 64, 65, 66] V221 V233 from (agr.tr agr.rf ajV233 (by decide) (by decide))) (fun _ => rfl) (fun _ => rfl) (fun _ => rfl))
                        exact W.zret (v := 1) hx hb hr rfl (fun t ht hW => ⟨⟨1, (V233, L222), rfl, ⟨hMV233, agV233, alL222, fwV233, (by decide), tx240, cd242, px247, (Imp.mk (fun hp => absurd hp (by decide)))⟩, by rw [ht]; exact hP, va_K.moved hW.alike hK, hD⟩, hS.F ht⟩) hS.2.2 dX1_readWrap_207
                      · skip
                        have f248 : z214.toInt = 0 := b_eq rfl (by decide) c223
                        refine lv_iconst (v := 0) hx hb dX1_readWrap_190 (by decide) ?_
                        have px249 : px V V31 b := px.tr (px.rf : px V V b) (px.ag (show agr [(1, 3), (1, 6), (6, 8), (6, 9), (6, 10)] [] V V31 from (agr.tr (agr.tr (agr.tr (agr.tr agr.rf ajV8 (by decide) (by decide)) ajV16 (by decide) (by decide)) ajV24 (by decide) (by decide)) ajV31 (by decide) (by decide))) (fun _ => rfl) (fun _ => rfl) (fun _ => rfl))
                        have px250 : px V V47 b := px.tr px249 t45
                        have px251 : px V V202 b := px.tr px250 (px.ag (show agr [(1, 3), (1, 8), (6, 8), (6, 9), (6, 10)] [] V47 V202 from (agr.tr (agr.tr agr.rf ajV59 (by decide) (by decide)) ajV202 (by decide) (by decide))) (fun _ => rfl) (fun _ => rfl) (fun _ => rfl))
                        have px252 : px V V221 b := px.tr px251 t219
                        exact W.zret (v := 0) hx hb hr rfl (fun t ht hW => ⟨⟨0, (V221, L222), rfl, ⟨hMV221, agV221, alL222, fwV221, (by decide), t217, t218, px252, (Imp.mk (fun _ => (show 1 ≤ (V221 1 3).toInt from by first | exact om_f8d8213eda45 ((Imp.go t220 (f248))) | first | omega | ((try (have i_t220 := Imp.go t220 (f248))); (try (have i_t57 := Imp.go t57 (imp_a (rgz54.1) (rgz54.2) (f63)))); (try (have i_t44 := Imp.go t44 (imp_a (rgz41.1) (rgz41.2) (f51)))); (try (have i_t14 := Imp.go t14 (imp_a (rgz11.1) (rgz11.2) (f20)))); omega) | ((try (have i_t220 := Imp.go t220 (by omega))); (try (have i_t58 := Imp.go t58 (by omega))); (try (have i_t57 := Imp.go t57 (by omega))); (try (have i_t46 := Imp.go t46 (by omega))); first | omega | ((try (have i_t44 := Imp.go t44 (by omega))); (try (have i_t30 := Imp.go t30 (by omega))); (try (have i_t15 := Imp.go t15 (by omega))); (try (have i_t14 := Imp.go t14 (by omega))); first | omega | ((try (have i_tx := Imp.go tx (by omega))); (try (have i_cd := Imp.go cd (by omega))); (try (have i_cd := Imp.go cd (by omega))); (try (have i_tx := Imp.go tx (by omega))); (try (have i_t14 := Imp.go t14 (by omega))); (try (have i_t15 := Imp.go t15 (by omega))); (try (have i_t30 := Imp.go t30 (by omega))); (try (have i_t44 := Imp.go t44 (by omega))); first | omega | ((try (have i_t46 := Imp.go t46 (by omega))); (try (have i_t57 := Imp.go t57 (by omega))); (try (have i_t58 := Imp.go t58 (by omega))); (try (have i_t220 := Imp.go t220 (by omega))); omega)))))))⟩, by rw [ht]; exact hP, va_K.moved hW.alike hK, hD⟩, hS.F ht⟩) hS.2.2 dX1_readWrap_191
                  · skip
                    have f253 : 2 ≤ z192.toInt := b_nlt rfl (by decide) c195
                    refine lv_aload_n hx hb dX1_readWrap_150 rfl (lv_at hl 4 rfl) ?_
                    refine lv_iconst (v := 5) hx hb dX1_readWrap_151 (by decide) ?_
                    have r254 : Int32.toInt 5 = 5 := by decide
                    refine gA_int (gA_runV (As := [.int 5]) (rest := []) (ci := 1) (q0 := 1) hx hb hml hown hg hP hD hK hS hA hnw hgk (x_wrong l D ks H.size ad kk V59 L60 Z 5 hMV59 (by decide)) w867 w869 w6 w162 w870 rfl xgReader hdV_yX1_wrong ⟨Nat.le_of_ble_eq_true rfl, Nat.le_of_ble_eq_true rfl⟩ rfl hl.1 rfl (Nat.le_of_ble_eq_true rfl) dX1_readWrap_152 ⟨Nat.le_of_ble_eq_true rfl, Nat.le_of_ble_eq_true rfl⟩) hP hD hK hS hA (fun z255 u256 H locs w257 hP hD hK hS => ?_)
                    obtain ⟨V259, L260⟩ := u256
                    obtain ⟨hMV259, ajV259, axL260, rgz255, t258⟩ := w257
                    have axL260 : L60 = L260 := Eq.symm axL260
                    subst axL260
                    have hP : va_P D vwCl (xw ad kk V259 L60 Z) H := hP
                    have hD : va_D A (xw ad kk V259 L60 Z) := hD
                    have hMV259 : rgd bX V259 := hMV259
                    have ajV259 : agr [(1, 3)] [] V59 V259 := ajV259
                    have agV259 : agr [(1, 3), (1, 4), (1, 6), (1, 8), (6, 8), (6, 9), (6, 10)] [41, 42, 43, 44, 47, 48, 62, 63, 64, 65, 66] V V259 := agV59.tr ajV259 (by decide) (by decide)
                    have fwV259 : frX (xR b) V V259 := frX.tr fwV59 (frX.ag ajV259 (by decide) (by decide))
                    have rgz255 : 0 ≤ z255.toInt ∧ z255.toInt ≤ 0 := rgz255
                    have t258 : 1 ≤ (V259 1 3).toInt := t258
                    have px261 : px V V31 b := px.tr (px.rf : px V V b) (px.ag (show agr [(1, 3), (1, 6), (6, 8), (6, 9), (6, 10)] [] V V31 from (agr.tr (agr.tr (agr.tr (agr.tr agr.rf ajV8 (by decide) (by decide)) ajV16 (by decide) (by decide)) ajV24 (by decide) (by decide)) ajV31 (by decide) (by decide))) (fun _ => rfl) (fun _ => rfl) (fun _ => rfl))
                    have px262 : px V V47 b := px.tr px261 t45
                    have px263 : px V V259 b := px.tr px262 (px.ag (show agr [(1, 3), (1, 8), (6, 8), (6, 9), (6, 10)] [] V47 V259 from (agr.tr (agr.tr agr.rf ajV59 (by decide) (by decide)) ajV259 (by decide) (by decide))) (fun _ => rfl) (fun _ => rfl) (fun _ => rfl))
                    have tx264 : TX V259 b := TX.ag tx (show agr [(1, 3), (1, 6), (1, 8), (6, 8), (6, 9), (6, 10)] [43, 44] V V259 from (agr.tr (agr.tr (agr.tr (agr.tr (agr.tr (agr.tr (agr.tr agr.rf ajV8 (by decide) (by decide)) ajV16 (by decide) (by decide)) ajV24 (by decide) (by decide)) ajV31 (by decide) (by decide)) ajV47 (by decide) (by decide)) ajV59 (by decide) (by decide)) ajV259 (by decide) (by decide))) px263 (fun _ => rfl) (fun _ => rfl) (fun _ => rfl) (fun _ => rfl) (fun _ => rfl) (fun _ => rfl)
                    have cd265 : CD V259 b := ⟨CB.ag cd.1 (show agr [(1, 3), (1, 6), (1, 8), (6, 8), (6, 9), (6, 10)] [43, 44] V V259 from (agr.tr (agr.tr (agr.tr (agr.tr (agr.tr (agr.tr (agr.tr agr.rf ajV8 (by decide) (by decide)) ajV16 (by decide) (by decide)) ajV24 (by decide) (by decide)) ajV31 (by decide) (by decide)) ajV47 (by decide) (by decide)) ajV59 (by decide) (by decide)) ajV259 (by decide) (by decide))) (fun _ => rfl) (fun _ => rfl), CO.ag cd.2 (show agr [(1, 3), (1, 6), (1, 8), (6, 8), (6, 9), (6, 10)] [43, 44] V V259 from (agr.tr (agr.tr (agr.tr (agr.tr (agr.tr (agr.tr (agr.tr agr.rf ajV8 (by decide) (by decide)) ajV16 (by decide) (by decide)) ajV24 (by decide) (by decide)) ajV31 (by decide) (by decide)) ajV47 (by decide) (by decide)) ajV59 (by decide) (by decide)) ajV259 (by decide) (by decide))) (fun _ => rfl) (fun _ => rfl)⟩
                    have px266 : px V V31 b := px.tr (px.rf : px V V b) (px.ag (show agr [(1, 3), (1, 6), (6, 8), (6, 9), (6, 10)] [] V V31 from (agr.tr (agr.tr (agr.tr (agr.tr agr.rf ajV8 (by decide) (by decide)) ajV16 (by decide) (by decide)) ajV24 (by decide) (by decide)) ajV31 (by decide) (by decide))) (fun _ => rfl) (fun _ => rfl) (fun _ => rfl))
                    have px267 : px V V47 b := px.tr px266 t45
                    have px268 : px V V259 b := px.tr px267 (px.ag (show agr [(1, 3), (1, 8), (6, 8), (6, 9), (6, 10)] [] V47 V259 from (agr.tr (agr.tr agr.rf ajV59 (by decide) (by decide)) ajV259 (by decide) (by decide))) (fun _ => rfl) (fun _ => rfl) (fun _ => rfl))
                    exact W.zret (v := z255) hx hb hr (nb_ok (by omega)) (fun t ht hW => ⟨⟨z255, (V259, L60), rfl, ⟨hMV259, agV259, alL60, fwV259, (show 0 ≤ z255.toInt ∧ z255.toInt ≤ 1 from by first | exact om_641b3f05f166 rgz255.1 rgz255.2 | first | omega | ((try (have i_t57 := Imp.go t57 (imp_a (rgz54.1) (rgz54.2) (f63)))); (try (have i_t44 := Imp.go t44 (imp_a (rgz41.1) (rgz41.2) (f51)))); (try (have i_t14 := Imp.go t14 (imp_a (rgz11.1) (rgz11.2) (f20)))); omega) | ((try (have i_t58 := Imp.go t58 (by omega))); (try (have i_t57 := Imp.go t57 (by omega))); (try (have i_t46 := Imp.go t46 (by omega))); (try (have i_t44 := Imp.go t44 (by omega))); first | omega | ((try (have i_t30 := Imp.go t30 (by omega))); (try (have i_t15 := Imp.go t15 (by omega))); (try (have i_t14 := Imp.go t14 (by omega))); (try (have i_tx := Imp.go tx (by omega))); first | omega | ((try (have i_cd := Imp.go cd (by omega))); (try (have i_cd := Imp.go cd (by omega))); (try (have i_tx := Imp.go tx (by omega))); (try (have i_t14 := Imp.go t14 (by omega))); first | omega | ((try (have i_t15 := Imp.go t15 (by omega))); (try (have i_t30 := Imp.go t30 (by omega))); (try (have i_t44 := Imp.go t44 (by omega))); (try (have i_t46 := Imp.go t46 (by omega))); (try (have i_t57 := Imp.go t57 (by omega))); (try (have i_t58 := Imp.go t58 (by omega))); omega))))), tx264, cd265, px268, (Imp.mk (fun hp => have hp : z255.toInt = 0 := hp; (show 1 ≤ (V259 1 3).toInt from by first | exact om_f8d8213eda45 t258 | first | omega | ((try (have i_t57 := Imp.go t57 (imp_a (rgz54.1) (rgz54.2) (f63)))); (try (have i_t44 := Imp.go t44 (imp_a (rgz41.1) (rgz41.2) (f51)))); (try (have i_t14 := Imp.go t14 (imp_a (rgz11.1) (rgz11.2) (f20)))); omega) | ((try (have i_t58 := Imp.go t58 (by omega))); (try (have i_t57 := Imp.go t57 (by omega))); (try (have i_t46 := Imp.go t46 (by omega))); (try (have i_t44 := Imp.go t44 (by omega))); first | omega | ((try (have i_t30 := Imp.go t30 (by omega))); (try (have i_t15 := Imp.go t15 (by omega))); (try (have i_t14 := Imp.go t14 (by omega))); (try (have i_tx := Imp.go tx (by omega))); first | omega | ((try (have i_cd := Imp.go cd (by omega))); (try (have i_cd := Imp.go cd (by omega))); (try (have i_tx := Imp.go tx (by omega))); (try (have i_t14 := Imp.go t14 (by omega))); first | omega | ((try (have i_t15 := Imp.go t15 (by omega))); (try (have i_t30 := Imp.go t30 (by omega))); (try (have i_t44 := Imp.go t44 (by omega))); (try (have i_t46 := Imp.go t46 (by omega))); (try (have i_t57 := Imp.go t57 (by omega))); (try (have i_t58 := Imp.go t58 (by omega))); omega)))))))⟩, by rw [ht]; exact hP, va_K.moved hW.alike hK, hD⟩, hS.F ht⟩) hS.2.2 dX1_readWrap_155
              · skip
                have f269 : 155 < ((V59 6 9)).toInt := b_nle rfl (by decide) c82
                refine lv_aload_n hx hb dX1_readWrap_113 rfl (lv_at hl 3 rfl) ?_
                refine lv_iconst (v := 1) hx hb dX1_readWrap_114 (by decide) ?_
                have r270 : Int32.toInt 1 = 1 := by decide
                refine gA_int (gA_runV (As := [.int 1]) (rest := []) (ci := 1) (q0 := 1) hx hb hml hown hg hP hD hK hS hA hnw hgk (x_wrong l D ks H.size ad kk V59 L60 Z 1 hMV59 (by decide)) w867 w869 w6 w162 w870 rfl xgReader hdV_yX1_wrong ⟨Nat.le_of_ble_eq_true rfl, Nat.le_of_ble_eq_true rfl⟩ rfl hl.1 rfl (Nat.le_of_ble_eq_true rfl) dX1_readWrap_115 ⟨Nat.le_of_ble_eq_true rfl, Nat.le_of_ble_eq_true rfl⟩) hP hD hK hS hA (fun z271 u272 H locs w273 hP hD hK hS => ?_)
                obtain ⟨V275, L276⟩ := u272
                obtain ⟨hMV275, ajV275, axL276, rgz271, t274⟩ := w273
                have axL276 : L60 = L276 := Eq.symm axL276
                subst axL276
                have hP : va_P D vwCl (xw ad kk V275 L60 Z) H := hP
                have hD : va_D A (xw ad kk V275 L60 Z) := hD
                have hMV275 : rgd bX V275 := hMV275
                have ajV275 : agr [(1, 3)] [] V59 V275 := ajV275
                have agV275 : agr [(1, 3), (1, 4), (1, 6), (1, 8), (6, 8), (6, 9), (6, 10)] [41, 42, 43, 44, 47, 48, 62, 63, 64, 65, 66] V V275 := agV59.tr ajV275 (by decide) (by decide)
                have fwV275 : frX (xR b) V V275 := frX.tr fwV59 (frX.ag ajV275 (by decide) (by decide))
                have rgz271 : 0 ≤ z271.toInt ∧ z271.toInt ≤ 0 := rgz271
                have t274 : 1 ≤ (V275 1 3).toInt := t274
                have px277 : px V V31 b := px.tr (px.rf : px V V b) (px.ag (show agr [(1, 3), (1, 6), (6, 8), (6, 9), (6, 10)] [] V V31 from (agr.tr (agr.tr (agr.tr (agr.tr agr.rf ajV8 (by decide) (by decide)) ajV16 (by decide) (by decide)) ajV24 (by decide) (by decide)) ajV31 (by decide) (by decide))) (fun _ => rfl) (fun _ => rfl) (fun _ => rfl))
                have px278 : px V V47 b := px.tr px277 t45
                have px279 : px V V275 b := px.tr px278 (px.ag (show agr [(1, 3), (1, 8), (6, 8), (6, 9), (6, 10)] [] V47 V275 from (agr.tr (agr.tr agr.rf ajV59 (by decide) (by decide)) ajV275 (by decide) (by decide))) (fun _ => rfl) (fun _ => rfl) (fun _ => rfl))
                have tx280 : TX V275 b := TX.ag tx (show agr [(1, 3), (1, 6), (1, 8), (6, 8), (6, 9), (6, 10)] [43, 44] V V275 from (agr.tr (agr.tr (agr.tr (agr.tr (agr.tr (agr.tr (agr.tr agr.rf ajV8 (by decide) (by decide)) ajV16 (by decide) (by decide)) ajV24 (by decide) (by decide)) ajV31 (by decide) (by decide)) ajV47 (by decide) (by decide)) ajV59 (by decide) (by decide)) ajV275 (by decide) (by decide))) px279 (fun _ => rfl) (fun _ => rfl) (fun _ => rfl) (fun _ => rfl) (fun _ => rfl) (fun _ => rfl)
                have cd281 : CD V275 b := ⟨CB.ag cd.1 (show agr [(1, 3), (1, 6), (1, 8), (6, 8), (6, 9), (6, 10)] [43, 44] V V275 from (agr.tr (agr.tr (agr.tr (agr.tr (agr.tr (agr.tr (agr.tr agr.rf ajV8 (by decide) (by decide)) ajV16 (by decide) (by decide)) ajV24 (by decide) (by decide)) ajV31 (by decide) (by decide)) ajV47 (by decide) (by decide)) ajV59 (by decide) (by decide)) ajV275 (by decide) (by decide))) (fun _ => rfl) (fun _ => rfl), CO.ag cd.2 (show agr [(1, 3), (1, 6), (1, 8), (6, 8), (6, 9), (6, 10)] [43, 44] V V275 from (agr.tr (agr.tr (agr.tr (agr.tr (agr.tr (agr.tr (agr.tr agr.rf ajV8 (by decide) (by decide)) ajV16 (by decide) (by decide)) ajV24 (by decide) (by decide)) ajV31 (by decide) (by decide)) ajV47 (by decide) (by decide)) ajV59 (by decide) (by decide)) ajV275 (by decide) (by decide))) (fun _ => rfl) (fun _ => rfl)⟩
                have px282 : px V V31 b := px.tr (px.rf : px V V b) (px.ag (show agr [(1, 3), (1, 6), (6, 8), (6, 9), (6, 10)] [] V V31 from (agr.tr (agr.tr (agr.tr (agr.tr agr.rf ajV8 (by decide) (by decide)) ajV16 (by decide) (by decide)) ajV24 (by decide) (by decide)) ajV31 (by decide) (by decide))) (fun _ => rfl) (fun _ => rfl) (fun _ => rfl))
                have px283 : px V V47 b := px.tr px282 t45
                have px284 : px V V275 b := px.tr px283 (px.ag (show agr [(1, 3), (1, 8), (6, 8), (6, 9), (6, 10)] [] V47 V275 from (agr.tr (agr.tr agr.rf ajV59 (by decide) (by decide)) ajV275 (by decide) (by decide))) (fun _ => rfl) (fun _ => rfl) (fun _ => rfl))
                exact W.zret (v := z271) hx hb hr (nb_ok (by omega)) (fun t ht hW => ⟨⟨z271, (V275, L60), rfl, ⟨hMV275, agV275, alL60, fwV275, (show 0 ≤ z271.toInt ∧ z271.toInt ≤ 1 from by first | exact om_641b3f05f166 rgz271.1 rgz271.2 | first | omega | ((try (have i_t57 := Imp.go t57 (imp_a (rgz54.1) (rgz54.2) (f63)))); (try (have i_t44 := Imp.go t44 (imp_a (rgz41.1) (rgz41.2) (f51)))); (try (have i_t14 := Imp.go t14 (imp_a (rgz11.1) (rgz11.2) (f20)))); omega) | ((try (have i_t58 := Imp.go t58 (by omega))); (try (have i_t57 := Imp.go t57 (by omega))); (try (have i_t46 := Imp.go t46 (by omega))); (try (have i_t44 := Imp.go t44 (by omega))); first | omega | ((try (have i_t30 := Imp.go t30 (by omega))); (try (have i_t15 := Imp.go t15 (by omega))); (try (have i_t14 := Imp.go t14 (by omega))); (try (have i_tx := Imp.go tx (by omega))); first | omega | ((try (have i_cd := Imp.go cd (by omega))); (try (have i_cd := Imp.go cd (by omega))); (try (have i_tx := Imp.go tx (by omega))); (try (have i_t14 := Imp.go t14 (by omega))); first | omega | ((try (have i_t15 := Imp.go t15 (by omega))); (try (have i_t30 := Imp.go t30 (by omega))); (try (have i_t44 := Imp.go t44 (by omega))); (try (have i_t46 := Imp.go t46 (by omega))); (try (have i_t57 := Imp.go t57 (by omega))); (try (have i_t58 := Imp.go t58 (by omega))); omega))))), tx280, cd281, px284, (Imp.mk (fun hp => have hp : z271.toInt = 0 := hp; (show 1 ≤ (V275 1 3).toInt from by first | exact om_f8d8213eda45 t274 | first | omega | ((try (have i_t57 := Imp.go t57 (imp_a (rgz54.1) (rgz54.2) (f63)))); (try (have i_t44 := Imp.go t44 (imp_a (rgz41.1) (rgz41.2) (f51)))); (try (have i_t14 := Imp.go t14 (imp_a (rgz11.1) (rgz11.2) (f20)))); omega) | ((try (have i_t58 := Imp.go t58 (by omega))); (try (have i_t57 := Imp.go t57 (by omega))); (try (have i_t46 := Imp.go t46 (by omega))); (try (have i_t44 := Imp.go t44 (by omega))); first | omega | ((try (have i_t30 := Imp.go t30 (by omega))); (try (have i_t15 := Imp.go t15 (by omega))); (try (have i_t14 := Imp.go t14 (by omega))); (try (have i_tx := Imp.go tx (by omega))); first | omega | ((try (have i_cd := Imp.go cd (by omega))); (try (have i_cd := Imp.go cd (by omega))); (try (have i_tx := Imp.go tx (by omega))); (try (have i_t14 := Imp.go t14 (by omega))); first | omega | ((try (have i_t15 := Imp.go t15 (by omega))); (try (have i_t30 := Imp.go t30 (by omega))); (try (have i_t44 := Imp.go t44 (by omega))); (try (have i_t46 := Imp.go t46 (by omega))); (try (have i_t57 := Imp.go t57 (by omega))); (try (have i_t58 := Imp.go t58 (by omega))); omega)))))))⟩, by rw [ht]; exact hP, va_K.moved hW.alike hK, hD⟩, hS.F ht⟩) hS.2.2 dX1_readWrap_118
          · skip
            have f285 : z54.toInt = 0 := b_eq rfl (by decide) c62
            refine lv_iconst (v := 0) hx hb dX1_readWrap_80 (by decide) ?_
            have px286 : px V V31 b := px.tr (px.rf : px V V b) (px.ag (show agr [(1, 3), (1, 6), (6, 8), (6, 9), (6, 10)] [] V V31 from (agr.tr (agr.tr (agr.tr (agr.tr agr.rf ajV8 (by decide) (by decide)) ajV16 (by decide) (by decide)) ajV24 (by decide) (by decide)) ajV31 (by decide) (by decide))) (fun _ => rfl) (fun _ => rfl) (fun _ => rfl))
            have px287 : px V V47 b := px.tr px286 t45
            have px288 : px V V59 b := px.tr px287 (px.ag (show agr [(1, 3), (1, 8), (6, 8), (6, 9), (6, 10)] [] V47 V59 from (agr.tr agr.rf ajV59 (by decide) (by decide))) (fun _ => rfl) (fun _ => rfl) (fun _ => rfl))
            have tx289 : TX V59 b := TX.ag tx (show agr [(1, 3), (1, 6), (1, 8), (6, 8), (6, 9), (6, 10)] [43, 44] V V59 from (agr.tr (agr.tr (agr.tr (agr.tr (agr.tr (agr.tr agr.rf ajV8 (by decide) (by decide)) ajV16 (by decide) (by decide)) ajV24 (by decide) (by decide)) ajV31 (by decide) (by decide)) ajV47 (by decide) (by decide)) ajV59 (by decide) (by decide))) px288 (fun _ => rfl) (fun _ => rfl) (fun _ => rfl) (fun _ => rfl) (fun _ => rfl) (fun _ => rfl)
            have cd290 : CD V59 b := ⟨CB.ag cd.1 (show agr [(1, 3), (1, 6), (1, 8), (6, 8), (6, 9), (6, 10)] [43, 44] V V59 from (agr.tr (agr.tr (agr.tr (agr.tr (agr.tr (agr.tr agr.rf ajV8 (by decide) (by decide)) ajV16 (by decide) (by decide)) ajV24 (by decide) (by decide)) ajV31 (by decide) (by decide)) ajV47 (by decide) (by decide)) ajV59 (by decide) (by decide))) (fun _ => rfl) (fun _ => rfl), CO.ag cd.2 (show agr [(1, 3), (1, 6), (1, 8), (6, 8), (6, 9), (6, 10)] [43, 44] V V59 from (agr.tr (agr.tr (agr.tr (agr.tr (agr.tr (agr.tr agr.rf ajV8 (by decide) (by decide)) ajV16 (by decide) (by decide)) ajV24 (by decide) (by decide)) ajV31 (by decide) (by decide)) ajV47 (by decide) (by decide)) ajV59 (by decide) (by decide))) (fun _ => rfl) (fun _ => rfl)⟩
            have px291 : px V V31 b := px.tr (px.rf : px V V b) (px.ag (show agr [(1, 3), (1, 6), (6, 8), (6, 9), (6, 10)] [] V V31 from (agr.tr (agr.tr (agr.tr (agr.tr agr.rf ajV8 (by decide) (by decide)) ajV16 (by decide) (by decide)) ajV24 (by decide) (by decide)) ajV31 (by decide) (by decide))) (fun _ => rfl) (fun _ => rfl) (fun _ => rfl))
            have px292 : px V V47 b := px.tr px291 t45
            have px293 : px V V59 b := px.tr px292 (px.ag (show agr [(1, 3), (1, 8), (6, 8), (6, 9), (6, 10)] [] V47 V59 from (agr.tr agr.rf ajV59 (by decide) (by decide))) (fun _ => rfl) (fun _ => rfl) (fun _ => rfl))
            exact W.zret (v := 0) hx hb hr rfl (fun t ht hW => ⟨⟨0, (V59, L60), rfl, ⟨hMV59, agV59, alL60, fwV59, (by decide), tx289, cd290, px293, (Imp.mk (fun _ => (show 1 ≤ (V59 1 3).toInt from by first | exact om_f8d8213eda45 ((Imp.go t58 (f285))) | first | omega | ((try (have i_t58 := Imp.go t58 (f285))); (try (have i_t44 := Imp.go t44 (imp_a (rgz41.1) (rgz41.2) (f51)))); (try (have i_t14 := Imp.go t14 (imp_a (rgz11.1) (rgz11.2) (f20)))); omega) | ((try (have i_t58 := Imp.go t58 (by omega))); (try (have i_t57 := Imp.go t57 (by omega))); (try (have i_t46 := Imp.go t46 (by omega))); (try (have i_t44 := Imp.go t44 (by omega))); first | omega | ((try (have i_t30 := Imp.go t30 (by omega))); (try (have i_t15 := Imp.go t15 (by omega))); (try (have i_t14 := Imp.go t14 (by omega))); (try (have i_tx := Imp.go tx (by omega))); first | omega | ((try (have i_cd := Imp.go cd (by omega))); (try (have i_cd := Imp.go cd (by omega))); (try (have i_tx := Imp.go tx (by omega))); (try (have i_t14 := Imp.go t14 (by omega))); first | omega | ((try (have i_t15 := Imp.go t15 (by omega))); (try (have i_t30 := Imp.go t30 (by omega))); (try (have i_t44 := Imp.go t44 (by omega))); (try (have i_t46 := Imp.go t46 (by omega))); (try (have i_t57 := Imp.go t57 (by omega))); (try (have i_t58 := Imp.go t58 (by omega))); omega)))))))⟩, by rw [ht]; exact hP, va_K.moved hW.alike hK, hD⟩, hS.F ht⟩) hS.2.2 dX1_readWrap_81
        · skip
          have f294 : z41.toInt = 0 := b_eq rfl (by decide) c50
          refine lv_iconst (v := 0) hx hb dX1_readWrap_63 (by decide) ?_
          have px295 : px V V31 b := px.tr (px.rf : px V V b) (px.ag (show agr [(1, 3), (1, 6), (6, 8), (6, 9), (6, 10)] [] V V31 from (agr.tr (agr.tr (agr.tr (agr.tr agr.rf ajV8 (by decide) (by decide)) ajV16 (by decide) (by decide)) ajV24 (by decide) (by decide)) ajV31 (by decide) (by decide))) (fun _ => rfl) (fun _ => rfl) (fun _ => rfl))
          have px296 : px V V47 b := px.tr px295 t45
          have tx297 : TX V47 b := TX.ag tx (show agr [(1, 3), (1, 6), (6, 8), (6, 9), (6, 10)] [43, 44] V V47 from (agr.tr (agr.tr (agr.tr (agr.tr (agr.tr agr.rf ajV8 (by decide) (by decide)) ajV16 (by decide) (by decide)) ajV24 (by decide) (by decide)) ajV31 (by decide) (by decide)) ajV47 (by decide) (by decide))) px296 (fun _ => rfl) (fun _ => rfl) (fun _ => rfl) (fun _ => rfl) (fun _ => rfl) (fun _ => rfl)
          have cd298 : CD V47 b := ⟨CB.ag cd.1 (show agr [(1, 3), (1, 6), (6, 8), (6, 9), (6, 10)] [43, 44] V V47 from (agr.tr (agr.tr (agr.tr (agr.tr (agr.tr agr.rf ajV8 (by decide) (by decide)) ajV16 (by decide) (by decide)) ajV24 (by decide) (by decide)) ajV31 (by decide) (by decide)) ajV47 (by decide) (by decide))) (fun _ => rfl) (fun _ => rfl), CO.ag cd.2 (show agr [(1, 3), (1, 6), (6, 8), (6, 9), (6, 10)] [43, 44] V V47 from (agr.tr (agr.tr (agr.tr (agr.tr (agr.tr agr.rf ajV8 (by decide) (by decide)) ajV16 (by decide) (by decide)) ajV24 (by decide) (by decide)) ajV31 (by decide) (by decide)) ajV47 (by decide) (by decide))) (fun _ => rfl) (fun _ => rfl)⟩
          have px299 : px V V31 b := px.tr (px.rf : px V V b) (px.ag (show agr [(1, 3), (1, 6), (6, 8), (6, 9), (6, 10)] [] V V31 from (agr.tr (agr.tr (agr.tr (agr.tr agr.rf ajV8 (by decide) (by decide)) ajV16 (by decide) (by decide)) ajV24 (by decide) (by decide)) ajV31 (by decide) (by decide))) (fun _ => rfl) (fun _ => rfl) (fun _ => rfl))
          have px300 : px V V47 b := px.tr px299 t45
          exact W.zret (v := 0) hx hb hr rfl (fun t ht hW => ⟨⟨0, (V47, L48), rfl, ⟨hMV47, agV47, alL48, fwV47, (by decide), tx297, cd298, px300, (Imp.mk (fun _ => (show 1 ≤ (V47 1 3).toInt from by first | exact om_f8d8213eda45 ((Imp.go t46 (f294))) | first | omega | ((try (have i_t46 := Imp.go t46 (f294))); (try (have i_t14 := Imp.go t14 (imp_a (rgz11.1) (rgz11.2) (f20)))); omega) | ((try (have i_t46 := Imp.go t46 (by omega))); (try (have i_t44 := Imp.go t44 (by omega))); (try (have i_t30 := Imp.go t30 (by omega))); (try (have i_t15 := Imp.go t15 (by omega))); first | omega | ((try (have i_t14 := Imp.go t14 (by omega))); (try (have i_tx := Imp.go tx (by omega))); (try (have i_cd := Imp.go cd (by omega))); (try (have i_cd := Imp.go cd (by omega))); first | omega | ((try (have i_tx := Imp.go tx (by omega))); (try (have i_t14 := Imp.go t14 (by omega))); (try (have i_t15 := Imp.go t15 (by omega))); (try (have i_t30 := Imp.go t30 (by omega))); (try (have i_t44 := Imp.go t44 (by omega))); (try (have i_t46 := Imp.go t46 (by omega))); omega))))))⟩, by rw [ht]; exact hP, va_K.moved hW.alike hK, hD⟩, hS.F ht⟩) hS.2.2 dX1_readWrap_64
    · skip
      have f301 : z11.toInt = 0 := b_eq rfl (by decide) c19
      refine lv_iconst (v := 0) hx hb dX1_readWrap_32 (by decide) ?_
      have px302 : px V V16 b := px.tr (px.rf : px V V b) (px.ag (show agr [(1, 3), (1, 6), (6, 8), (6, 9), (6, 10)] [] V V16 from (agr.tr (agr.tr agr.rf ajV8 (by decide) (by decide)) ajV16 (by decide) (by decide))) (fun _ => rfl) (fun _ => rfl) (fun _ => rfl))
      have tx303 : TX V16 b := TX.ag tx (show agr [(1, 3), (1, 6), (6, 8), (6, 9), (6, 10)] [] V V16 from (agr.tr (agr.tr agr.rf ajV8 (by decide) (by decide)) ajV16 (by decide) (by decide))) px302 (fun _ => rfl) (fun _ => rfl) (fun _ => rfl) (fun _ => rfl) (fun _ => rfl) (fun _ => rfl)
      have cd304 : CD V16 b := ⟨CB.ag cd.1 (show agr [(1, 3), (1, 6), (6, 8), (6, 9), (6, 10)] [] V V16 from (agr.tr (agr.tr agr.rf ajV8 (by decide) (by decide)) ajV16 (by decide) (by decide))) (fun _ => rfl) (fun _ => rfl), CO.ag cd.2 (show agr [(1, 3), (1, 6), (6, 8), (6, 9), (6, 10)] [] V V16 from (agr.tr (agr.tr agr.rf ajV8 (by decide) (by decide)) ajV16 (by decide) (by decide))) (fun _ => rfl) (fun _ => rfl)⟩
      have px305 : px V V16 b := px.tr (px.rf : px V V b) (px.ag (show agr [(1, 3), (1, 6), (6, 8), (6, 9), (6, 10)] [] V V16 from (agr.tr (agr.tr agr.rf ajV8 (by decide) (by decide)) ajV16 (by decide) (by decide))) (fun _ => rfl) (fun _ => rfl) (fun _ => rfl))
      exact W.zret (v := 0) hx hb hr rfl (fun t ht hW => ⟨⟨0, (V16, L9), rfl, ⟨hMV16, agV16, alL9, fwV16, (by decide), tx303, cd304, px305, (Imp.mk (fun _ => (show 1 ≤ (V16 1 3).toInt from by first | exact om_f8d8213eda45 ((Imp.go t15 (f301))) | first | omega | ((try (have i_t15 := Imp.go t15 (f301))); omega) | ((try (have i_t15 := Imp.go t15 (by omega))); (try (have i_t14 := Imp.go t14 (by omega))); (try (have i_tx := Imp.go tx (by omega))); (try (have i_cd := Imp.go cd (by omega))); first | omega | ((try (have i_cd := Imp.go cd (by omega))); (try (have i_tx := Imp.go tx (by omega))); (try (have i_t14 := Imp.go t14 (by omega))); (try (have i_t15 := Imp.go t15 (by omega))); omega)))))⟩, by rw [ht]; exact hP, va_K.moved hW.alike hK, hD⟩, hS.F ht⟩) hS.2.2 dX1_readWrap_33
  · skip
    have f306 : 12 ≤ ((V 41 b)).toInt := b_nlt rfl (by decide) c3
    refine lv_aload_n hx hb dX1_readWrap_12 rfl (lv_at hl 0 rfl) ?_
    refine lv_iconst (v := 5) hx hb dX1_readWrap_13 (by decide) ?_
    have r307 : Int32.toInt 5 = 5 := by decide
    refine gA_int (gA_runV (As := [.int 5]) (rest := []) (ci := 1) (q0 := 1) hx hb hml hown hg hP hD hK hS hA hnw hgk (x_wrong l D ks H.size ad kk V L Z 5 hMV (by decide)) w867 w869 w6 w162 w870 rfl xgReader hdV_yX1_wrong ⟨Nat.le_of_ble_eq_true rfl, Nat.le_of_ble_eq_true rfl⟩ rfl hl.1 rfl (Nat.le_of_ble_eq_true rfl) dX1_readWrap_14 ⟨Nat.le_of_ble_eq_true rfl, Nat.le_of_ble_eq_true rfl⟩) hP hD hK hS hA (fun z308 u309 H locs w310 hP hD hK hS => ?_)
    obtain ⟨V312, L313⟩ := u309
    obtain ⟨hMV312, ajV312, axL313, rgz308, t311⟩ := w310
    have axL313 : L = L313 := Eq.symm axL313
    subst axL313
    have hP : va_P D vwCl (xw ad kk V312 L Z) H := hP
    have hD : va_D A (xw ad kk V312 L Z) := hD
    have hMV312 : rgd bX V312 := hMV312
    have ajV312 : agr [(1, 3)] [] V V312 := ajV312
    have agV312 : agr [(1, 3), (1, 4), (1, 6), (1, 8), (6, 8), (6, 9), (6, 10)] [41, 42, 43, 44, 47, 48, 62, 63, 64, 65, 66] V V312 := agV.tr ajV312 (by decide) (by decide)
    have fwV312 : frX (xR b) V V312 := frX.tr fwV (frX.ag ajV312 (by decide) (by decide))
    have rgz308 : 0 ≤ z308.toInt ∧ z308.toInt ≤ 0 := rgz308
    have t311 : 1 ≤ (V312 1 3).toInt := t311
    have px314 : px V V312 b := px.tr (px.rf : px V V b) (px.ag (show agr [(1, 3)] [] V V312 from (agr.tr agr.rf ajV312 (by decide) (by decide))) (fun _ => rfl) (fun _ => rfl) (fun _ => rfl))
    have tx315 : TX V312 b := TX.ag tx (show agr [(1, 3)] [] V V312 from (agr.tr agr.rf ajV312 (by decide) (by decide))) px314 (fun _ => rfl) (fun _ => rfl) (fun _ => rfl) (fun _ => rfl) (fun _ => rfl) (fun _ => rfl)
    have cd316 : CD V312 b := ⟨CB.ag cd.1 (show agr [(1, 3)] [] V V312 from (agr.tr agr.rf ajV312 (by decide) (by decide))) (fun _ => rfl) (fun _ => rfl), CO.ag cd.2 (show agr [(1, 3)] [] V V312 from (agr.tr agr.rf ajV312 (by decide) (by decide))) (fun _ => rfl) (fun _ => rfl)⟩
    have px317 : px V V312 b := px.tr (px.rf : px V V b) (px.ag (show agr [(1, 3)] [] V V312 from (agr.tr agr.rf ajV312 (by decide) (by decide))) (fun _ => rfl) (fun _ => rfl) (fun _ => rfl))
    exact W.zret (v := z308) hx hb hr (nb_ok (by omega)) (fun t ht hW => ⟨⟨z308, (V312, L), rfl, ⟨hMV312, agV312, alL, fwV312, (show 0 ≤ z308.toInt ∧ z308.toInt ≤ 1 from by first | exact om_641b3f05f166 rgz308.1 rgz308.2 | first | omega | ((try (have i_tx := Imp.go tx (by omega))); (try (have i_cd := Imp.go cd (by omega))); (try (have i_cd := Imp.go cd (by omega))); (try (have i_tx := Imp.go tx (by omega))); omega)), tx315, cd316, px317, (Imp.mk (fun hp => have hp : z308.toInt = 0 := hp; (show 1 ≤ (V312 1 3).toInt from by first | exact om_f8d8213eda45 t311 | first | omega | ((try (have i_tx := Imp.go tx (by omega))); (try (have i_cd := Imp.go cd (by omega))); (try (have i_cd := Imp.go cd (by omega))); (try (have i_tx := Imp.go tx (by omega))); omega))))⟩, by rw [ht]; exact hP, va_K.moved hW.alike hK, hD⟩, hS.F ht⟩) hS.2.2 dX1_readWrap_17
abbrev r_x_readExtras : Room := { frames := 3, cells := 0, slots := 0, locals := 64 }
abbrev q_x_readExtras (D : va_G) (ks : KS) (ad : Nat → Nat) (kk : Nat → ClassId) (V : Vf) (L : Lf) (Z : XZ) (b : Nat) (gi : Nat) (A : Nat → Prop) : Array Value → State → Outcome → State → Prop := va_Qi (fun (r : Int32) (u : Vf × Lf) => rgd bX u.1 ∧ agr [(1, 3), (1, 6), (1, 8), (6, 8), (6, 9), (6, 10)] [43, 44, 52, 53, 54, 55] V u.1 ∧ agL [6, 44] L u.2 ∧ frX (xR b) V u.1 ∧ (0 ≤ r.toInt ∧ r.toInt ≤ 1) ∧ (px V u.1 b) ∧ (Imp (r.toInt = 0) (1 ≤ (u.1 1 3).toInt))) (fun u t => gq D A (xw ad kk u.1 u.2 Z) (xty kk Z) t) A
set_option maxHeartbeats 4000000 in
set_option maxRecDepth 100000 in
theorem x_readExtras (l : Launch) (D : va_G) (ks : KS) (sz : Nat) (ad : Nat → Nat) (kk : Nat → ClassId) (V : Vf) (L : Lf) (Z : XZ) (b : Nat) (gi : Nat) (hMV : rgd bX V) (hb2 : b < 2) (rbk : (V 1 1).toInt = (b : Int)) (hgi : gi < 48) (hgl : 24 * b ≤ gi) (hgh : gi < 24 * b + 24)  : Met l yX1_readExtras (Cond.code yX1_readExtras cX1_readExtras 2 (some .boolean) :: GW) r_x_readExtras (va_Pc [.ref (ad 1), .ref (ad (72 + gi))] (gp D ks (xw ad kk V L Z) (xty kk Z) sz)) (q_x_readExtras D ks ad kk V L Z  b gi (va_A (xw ad kk V L Z) sz)) 0 0 (va_A (xw ad kk V L Z) sz) := by
  refine g_met (q_x_readExtras D ks ad kk V L Z  b gi) (by decide) (Nat.le_of_ble_eq_true rfl) ?_
  intro p e s m below meth c A ls H locs hx hb hr hml hown hg hlocks hin hnw hgk hP hK hD hS hA hl
  have hown : s.vm.findClass RX1 = some m.cls := hown
  have hl : lv_has ls 2 [(0, .ref (ad 1)), (1, .ref (ad (72 + gi)))] := hl
  have hP : va_P D vwCl (xw ad kk V L Z) H := hP
  have hD : va_D A (xw ad kk V L Z) := hD
  have hK : va_K D vwCl (xty kk Z) s := hK
  have agV : agr [(1, 3), (1, 6), (1, 8), (6, 8), (6, 9), (6, 10)] [43, 44, 52, 53, 54, 55] V V := agr.rf
  have alL : agL [6, 44] L L := agL.rf
  have fwV : frX (xR b) V V := frX.rf
  have r1 : (-1) ≤ ((V 1 1)).toInt ∧ ((V 1 1)).toInt ≤ 1 := hMV 1 1
  refine lv_aload_n hx hb dX1_readExtras_0 rfl (lv_at hl 0 rfl) ?_
  refine va_get (D := D) (ci := 1) (v := .ref (ad 6)) (fs := (xfReader ad V L Z)) (C := RX1) (T := TX1) (N := 9) hx hb hg inX1 hown hK hP 1 xgReader rfl 0 (by decide) (hg _ w304) (fun _ h9 => h9) rfl dX1_readExtras_1 ?_
  refine va_getN (D := D) (ci := 9) (v := .int (V 6 9)) (fs := (xfTape ad V L Z)) (C := RX9) (T := TX9) (N := 12) hx hb hg inX9 hown hK hP 6 xgTape rfl 9 (by decide) (hnw.use 262 n262 rfl) (fun _ h9 => h9) rfl dX1_readExtras_4 ?_
  refine lv_sipush (v := 133) hx hb dX1_readExtras_7 (by decide) ?_
  refine lv_icmp_ne (tgt := 30) hx hb dX1_readExtras_10 (by decide) (fun c2 => ?_) (fun c2 => ?_)
  · skip
    have f3 : ((V 6 9)).toInt ≠ 133 := b_neq rfl (by decide) c2
    refine lv_aload_n hx hb dX1_readExtras_30 rfl (lv_at hl 0 rfl) ?_
    refine va_get (D := D) (ci := 1) (v := .ref (ad 6)) (fs := (xfReader ad V L Z)) (C := RX1) (T := TX1) (N := 9) hx hb hg inX1 hown hK hP 1 xgReader rfl 0 (by decide) (hg _ w304) (fun _ h9 => h9) rfl dX1_readExtras_31 ?_
    refine va_getN (D := D) (ci := 9) (v := .int (V 6 9)) (fs := (xfTape ad V L Z)) (C := RX9) (T := TX9) (N := 12) hx hb hg inX9 hown hK hP 6 xgTape rfl 9 (by decide) (hnw.use 262 n262 rfl) (fun _ h9 => h9) rfl dX1_readExtras_34 ?_
    refine lv_sipush (v := 134) hx hb dX1_readExtras_37 (by decide) ?_
    refine lv_icmp_ne (tgt := 70) hx hb dX1_readExtras_40 (by decide) (fun c4 => ?_) (fun c4 => ?_)
    · skip
      have f5 : ((V 6 9)).toInt ≠ 134 := b_neq rfl (by decide) c4
      refine lv_aload_n hx hb dX1_readExtras_70 rfl (lv_at hl 0 rfl) ?_
      refine va_get (D := D) (ci := 1) (v := .ref (ad 6)) (fs := (xfReader ad V L Z)) (C := RX1) (T := TX1) (N := 9) hx hb hg inX1 hown hK hP 1 xgReader rfl 0 (by decide) (hg _ w304) (fun _ h9 => h9) rfl dX1_readExtras_71 ?_
      refine va_getN (D := D) (ci := 9) (v := .int (V 6 9)) (fs := (xfTape ad V L Z)) (C := RX9) (T := TX9) (N := 12) hx hb hg inX9 hown hK hP 6 xgTape rfl 9 (by decide) (hnw.use 262 n262 rfl) (fun _ h9 => h9) rfl dX1_readExtras_74 ?_
      refine lv_sipush (v := 135) hx hb dX1_readExtras_77 (by decide) ?_
      refine lv_icmp_ne (tgt := 127) hx hb dX1_readExtras_80 (by decide) (fun c6 => ?_) (fun c6 => ?_)
      · skip
        have f7 : ((V 6 9)).toInt ≠ 135 := b_neq rfl (by decide) c6
        refine lv_iconst (v := 1) hx hb dX1_readExtras_127 (by decide) ?_
        exact W.zret (v := 1) hx hb hr rfl (fun t ht hW => ⟨⟨1, (V, L), rfl, ⟨hMV, agV, alL, fwV, (by decide), (px.rf : px V V b), (Imp.mk (fun hp => absurd hp (by decide)))⟩, by rw [ht]; exact hP, va_K.moved hW.alike hK, hD⟩, hS.F ht⟩) hS.2.2 dX1_readExtras_128
      · skip
        have f8 : ((V 6 9)).toInt = 135 := b_eq rfl (by decide) c6
        refine lv_aload_n hx hb dX1_readExtras_83 rfl (lv_at hl 0 rfl) ?_
        refine va_get (D := D) (ci := 1) (v := .ref (ad 6)) (fs := (xfReader ad V L Z)) (C := RX1) (T := TX1) (N := 9) hx hb hg inX1 hown hK hP 1 xgReader rfl 0 (by decide) (hg _ w304) (fun _ h9 => h9) rfl dX1_readExtras_84 ?_
        refine gA_void (gA_runV (As := []) (rest := []) (ci := 9) (q0 := 6) hx hb hml hown hg hP hD hK hS hA hnw hgk (x_next l D ks H.size ad kk V L Z  hMV ) w871 w852 w853 w157 w854 rfl xgTape hdV_yX9_next ⟨Nat.le_of_ble_eq_true rfl, Nat.le_of_ble_eq_true rfl⟩ rfl hl.1 rfl (Nat.le_of_ble_eq_true rfl) dX1_readExtras_87 ⟨Nat.le_of_ble_eq_true rfl, Nat.le_of_ble_eq_true rfl⟩) hP hD hK hS hA (fun u10 H locs w11 hP hD hK hS => ?_)
        obtain ⟨V12, L13⟩ := u10
        obtain ⟨hMV12, ajV12, axL13⟩ := w11
        have alL13 : agL [6, 44] L L13 := agL.tr alL axL13 (by decide)
        have hP : va_P D vwCl (xw ad kk V12 L13 Z) H := hP
        have hD : va_D A (xw ad kk V12 L13 Z) := hD
        have hMV12 : rgd bX V12 := hMV12
        have ajV12 : agr [(6, 8), (6, 9), (6, 10)] [] V V12 := ajV12
        have agV12 : agr [(1, 3), (1, 6), (1, 8), (6, 8), (6, 9), (6, 10)] [43, 44, 52, 53, 54, 55] V V12 := agV.tr ajV12 (by decide) (by decide)
        have fwV12 : frX (xR b) V V12 := frX.tr fwV (frX.ag ajV12 (by decide) (by decide))
        refine lv_aload_n hx hb dX1_readExtras_90 rfl (lv_at hl 0 rfl) ?_
        have pq14 : (V12 1 1).toInt = ((V 1 1)).toInt := congrArg Int32.toInt (ajV12 1 1 rfl)
        refine gA_int (gA_runV (As := []) (rest := []) (ci := 1) (q0 := 1) hx hb hml hown hg hP hD hK hS hA hnw hgk (x_takeSetting l D ks H.size ad kk V12 L13 Z (b) hMV12 (show b < 2 from by (first | exact om_f940a4667dd6 hb2 | omega)) (show (V12 1 1).toInt = (b : Int) from by (first | exact om_adf531c77a0d rbk pq14 | omega))) w931 w933 w17 w162 w934 rfl xgReader hdV_yX1_takeSetting ⟨Nat.le_of_ble_eq_true rfl, Nat.le_of_ble_eq_true rfl⟩ rfl hl.1 rfl (Nat.le_of_ble_eq_true rfl) dX1_readExtras_91 ⟨Nat.le_of_ble_eq_true rfl, Nat.le_of_ble_eq_true rfl⟩) hP hD hK hS hA (fun z15 u16 H locs w17 hP hD hK hS => ?_)
        obtain ⟨V20, L21⟩ := u16
        obtain ⟨hMV20, ajV20, axL21, rgz15, t18, t19⟩ := w17
        have alL21 : agL [6, 44] L L21 := agL.tr alL13 axL21 (by decide)
        have hP : va_P D vwCl (xw ad kk V20 L21 Z) H := hP
        have hD : va_D A (xw ad kk V20 L21 Z) := hD
        have hMV20 : rgd bX V20 := hMV20
        have ajV20 : agr [(1, 3), (1, 6), (6, 8), (6, 9), (6, 10)] [] V12 V20 := ajV20
        have agV20 : agr [(1, 3), (1, 6), (1, 8), (6, 8), (6, 9), (6, 10)] [43, 44, 52, 53, 54, 55] V V20 := agV12.tr ajV20 (by decide) (by decide)
        have fwV20 : frX (xR b) V V20 := frX.tr fwV12 (frX.ag ajV20 (by decide) (by decide))
        have rgz15 : 0 ≤ z15.toInt ∧ z15.toInt ≤ 1 := rgz15
        have t18 : Imp (z15.toInt = 1) (0 ≤ (V20 1 6).toInt ∧ (V20 1 6).toInt ≤ 11) := t18
        have t19 : Imp (z15.toInt = 0) (1 ≤ (V20 1 3).toInt) := t19
        have r22 : (-1) ≤ ((V20 1 6)).toInt ∧ ((V20 1 6)).toInt ≤ 23 := hMV20 1 6
        refine lv_if_ne (tgt := 99) hx hb dX1_readExtras_94 (by decide) (fun c23 => ?_) (fun c23 => ?_)
        · skip
          have f24 : z15.toInt ≠ 0 := b_neq rfl (by decide) c23
          refine lv_aload_n hx hb dX1_readExtras_99 rfl (lv_at hl 1 rfl) ?_
          refine lv_aload_n hx hb dX1_readExtras_100 rfl (lv_at hl 0 rfl) ?_
          refine va_get (D := D) (ci := 1) (v := .int (V20 1 6)) (fs := (xfReader ad V20 L21 Z)) (C := RX1) (T := TX1) (N := 9) hx hb hg inX1 hown hK hP 1 xgReader rfl 6 (by decide) (hg _ w310) (fun _ h9 => h9) rfl dX1_readExtras_101 ?_
          refine va_putN (D := D) (ci := 3) (v := .int (V20 1 6)) (ty := tyX3 9) (fs := (xfComp ad V20 gi)) (C := RX3) (T := TX3) (N := 13) hx hb hg inX3 tyX3 tyX3_ok nmX3 hown hK hP hD hS (72 + gi) (xgComp hgi) rfl 9 (by decide) (hnw.use 533 n533 rfl) (fun _ h9 => h9) rfl (tyX3_ok 9 (by decide)) rfl rfl (Nat.le_of_ble_eq_true rfl) dX1_readExtras_104 (fun H locs hP hD hS => ?_)
          obtain ⟨V25, hV25⟩ : ∃ z, z = up2 V20 54 gi (V20 1 6) := ⟨_, rfl⟩
          have ew26 : (xw ad kk V20 L21 Z).set (72 + gi) ((ad (72 + gi)), .inr (3, (xfComp ad V20 gi).set 9 (.int (V20 1 6)))) = xw ad kk V25 L21 Z := by rw [hV25]; exact xpComp_whenSetting hgi
          have hP : va_P D vwCl (xw ad kk V25 L21 Z) H := by rw [← ew26]; exact hP
          have hD : va_D A (xw ad kk V25 L21 Z) := by rw [← ew26]; exact hD
          have hMV25 : rgd bX V25 := hMV20.put hV25 (show (-1) ≤ ((V20 1 6)).toInt ∧ ((V20 1 6)).toInt ≤ 11 from by first | exact om_f5bd923ce183 ((Imp.go t18 (imp_a (rgz15.1) (rgz15.2) (f24))).1) ((Imp.go t18 (imp_a (rgz15.1) (rgz15.2) (f24))).2) | first | omega | ((try (have i_t19 := Imp.go t19 (by omega))); (try (have i_t18 := Imp.go t18 (by omega))); (try (have i_t18 := Imp.go t18 (by omega))); (try (have i_t19 := Imp.go t19 (by omega))); omega))
          have agV25 : agr [(1, 3), (1, 6), (1, 8), (6, 8), (6, 9), (6, 10)] [43, 44, 52, 53, 54, 55] V V25 := agV20.up hV25 rfl
          have fwV25 : frX (xR b) V V25 := frX.up fwV20 hV25 (Or.inr ⟨(by show 24 * b ≤ gi; first | exact om_ef8c008e8399 hgl | first | omega | ((try (have i_t19 := Imp.go t19 (by omega))); (try (have i_t18 := Imp.go t18 (by omega))); (try (have i_t18 := Imp.go t18 (by omega))); (try (have i_t19 := Imp.go t19 (by omega))); omega)), (by show gi < 24 * b + 24; first | exact om_8af120267f01 hgh | first | omega | ((try (have i_t19 := Imp.go t19 (by omega))); (try (have i_t18 := Imp.go t18 (by omega))); (try (have i_t18 := Imp.go t18 (by omega))); (try (have i_t19 := Imp.go t19 (by omega))); omega))⟩)
          refine lv_aload_n hx hb dX1_readExtras_107 rfl (lv_at hl 0 rfl) ?_
          refine lv_iconst (v := 0) hx hb dX1_readExtras_108 (by decide) ?_
          refine lv_ldc (v := 999999999) hx hb hown (hg _ w905) dX1_readExtras_109 ?_
          have r27 : Int32.toInt 0 = 0 := by decide
          have r28 : Int32.toInt 999999999 = 999999999 := by decide
          refine gA_int (gA_runV (As := [.int 0, .int 999999999]) (rest := []) (ci := 1) (q0 := 1) hx hb hml hown hg hP hD hK hS hA hnw hgk (x_takeNumber l D ks H.size ad kk V25 L21 Z 0 999999999 hMV25 (show 0 ≤ (Int32.toInt 0) from by first | exact om_1531b20f57e1 r27 | first | omega | ((try (have i_t19 := Imp.go t19 (by omega))); (try (have i_t18 := Imp.go t18 (by omega))); (try (have i_t18 := Imp.go t18 (by omega))); (try (have i_t19 := Imp.go t19 (by omega))); omega)) (show (Int32.toInt 999999999) ≤ 999999999 from by first | exact om_ffff025b4caa r28 | first | omega | ((try (have i_t19 := Imp.go t19 (by omega))); (try (have i_t18 := Imp.go t18 (by omega))); (try (have i_t18 := Imp.go t18 (by omega))); (try (have i_t19 := Imp.go t19 (by omega))); omega))) w906 w908 w12 w162 w909 rfl xgReader hdV_yX1_takeNumber ⟨Nat.le_of_ble_eq_true rfl, Nat.le_of_ble_eq_true rfl⟩ rfl hl.1 rfl (Nat.le_of_ble_eq_true rfl) dX1_readExtras_111 ⟨Nat.le_of_ble_eq_true rfl, Nat.le_of_ble_eq_true rfl⟩) hP hD hK hS hA (fun z29 u30 H locs w31 hP hD hK hS => ?_)
          obtain ⟨V34, L35⟩ := u30
          obtain ⟨hMV34, ajV34, axL35, rgz29, t32, t33⟩ := w31
          have alL35 : agL [6, 44] L L35 := agL.tr alL21 axL35 (by decide)
          have hP : va_P D vwCl (xw ad kk V34 L35 Z) H := hP
          have hD : va_D A (xw ad kk V34 L35 Z) := hD
          have hMV34 : rgd bX V34 := hMV34
          have ajV34 : agr [(1, 3), (1, 8), (6, 8), (6, 9), (6, 10)] [] V25 V34 := ajV34
          have agV34 : agr [(1, 3), (1, 6), (1, 8), (6, 8), (6, 9), (6, 10)] [43, 44, 52, 53, 54, 55] V V34 := agV25.tr ajV34 (by decide) (by decide)
          have fwV34 : frX (xR b) V V34 := frX.tr fwV25 (frX.ag ajV34 (by decide) (by decide))
          have rgz29 : 0 ≤ z29.toInt ∧ z29.toInt ≤ 1 := rgz29
          have t32 : Imp (z29.toInt = 1) ((Int32.toInt 0) ≤ (V34 1 8).toInt ∧ (V34 1 8).toInt ≤ (Int32.toInt 999999999)) := t32
          have t33 : Imp (z29.toInt = 0) (1 ≤ (V34 1 3).toInt) := t33
          have r36 : 0 ≤ ((V34 1 8)).toInt ∧ ((V34 1 8)).toInt ≤ 999999999 := hMV34 1 8
          refine lv_if_ne (tgt := 119) hx hb dX1_readExtras_114 (by decide) (fun c37 => ?_) (fun c37 => ?_)
          · skip
            have f38 : z29.toInt ≠ 0 := b_neq rfl (by decide) c37
            refine lv_aload_n hx hb dX1_readExtras_119 rfl (lv_at hl 1 rfl) ?_
            refine lv_aload_n hx hb dX1_readExtras_120 rfl (lv_at hl 0 rfl) ?_
            refine va_get (D := D) (ci := 1) (v := .int (V34 1 8)) (fs := (xfReader ad V34 L35 Z)) (C := RX1) (T := TX1) (N := 9) hx hb hg inX1 hown hK hP 1 xgReader rfl 8 (by decide) (hg _ w312) (fun _ h9 => h9) rfl dX1_readExtras_121 ?_
            refine va_putN (D := D) (ci := 3) (v := .int (V34 1 8)) (ty := tyX3 10) (fs := (xfComp ad V34 gi)) (C := RX3) (T := TX3) (N := 13) hx hb hg inX3 tyX3 tyX3_ok nmX3 hown hK hP hD hS (72 + gi) (xgComp hgi) rfl 10 (by decide) (hnw.use 536 n536 rfl) (fun _ h9 => h9) rfl (tyX3_ok 10 (by decide)) rfl rfl (Nat.le_of_ble_eq_true rfl) dX1_readExtras_124 (fun H locs hP hD hS => ?_)
            obtain ⟨V39, hV39⟩ : ∃ z, z = up2 V34 55 gi (V34 1 8) := ⟨_, rfl⟩
            have ew40 : (xw ad kk V34 L35 Z).set (72 + gi) ((ad (72 + gi)), .inr (3, (xfComp ad V34 gi).set 10 (.int (V34 1 8)))) = xw ad kk V39 L35 Z := by rw [hV39]; exact xpComp_whenValue hgi
            have hP : va_P D vwCl (xw ad kk V39 L35 Z) H := by rw [← ew40]; exact hP
            have hD : va_D A (xw ad kk V39 L35 Z) := by rw [← ew40]; exact hD
            have hMV39 : rgd bX V39 := hMV34.put hV39 (i_full _)
            have agV39 : agr [(1, 3), (1, 6), (1, 8), (6, 8), (6, 9), (6, 10)] [43, 44, 52, 53, 54, 55] V V39 := agV34.up hV39 rfl
            have fwV39 : frX (xR b) V V39 := frX.up fwV34 hV39 (Or.inr ⟨(by show 24 * b ≤ gi; first | exact om_ef8c008e8399 hgl | first | omega | ((try (have i_t32 := Imp.go t32 (imp_a (rgz29.1) (rgz29.2) (f38)))); (try (have i_t18 := Imp.go t18 (imp_a (rgz15.1) (rgz15.2) (f24)))); omega) | ((try (have i_t33 := Imp.go t33 (by omega))); (try (have i_t32 := Imp.go t32 (by omega))); (try (have i_t19 := Imp.go t19 (by omega))); (try (have i_t18 := Imp.go t18 (by omega))); first | omega | ((try (have i_t18 := Imp.go t18 (by omega))); (try (have i_t19 := Imp.go t19 (by omega))); (try (have i_t32 := Imp.go t32 (by omega))); (try (have i_t33 := Imp.go t33 (by omega))); omega))), (by show gi < 24 * b + 24; first | exact om_8af120267f01 hgh | first | omega | ((try (have i_t32 := Imp.go t32 (imp_a (rgz29.1) (rgz29.2) (f38)))); (try (have i_t18 := Imp.go t18 (imp_a (rgz15.1) (rgz15.2) (f24)))); omega) | ((try (have i_t33 := Imp.go t33 (by omega))); (try (have i_t32 := Imp.go t32 (by omega))); (try (have i_t19 := Imp.go t19 (by omega))); (try (have i_t18 := Imp.go t18 (by omega))); first | omega | ((try (have i_t18 := Imp.go t18 (by omega))); (try (have i_t19 := Imp.go t19 (by omega))); (try (have i_t32 := Imp.go t32 (by omega))); (try (have i_t33 := Imp.go t33 (by omega))); omega)))⟩)
            refine lv_iconst (v := 1) hx hb dX1_readExtras_127 (by decide) ?_
            have pq41 : (V39 1 3).toInt = ((V34 1 3)).toInt := congrArg Int32.toInt (up2_o hV39 (by decide))
            have px42 : px V V39 b := px.tr (px.rf : px V V b) (px.ag (show agr [(1, 3), (1, 6), (1, 8), (6, 8), (6, 9), (6, 10)] [54, 55] V V39 from (agr.up (agr.tr (agr.up (agr.tr (agr.tr agr.rf ajV12 (by decide) (by decide)) ajV20 (by decide) (by decide)) hV25 rfl) ajV34 (by decide) (by decide)) hV39 rfl)) (fun _ => rfl) (fun _ => rfl) (fun _ => rfl))
            exact W.zret (v := 1) hx hb hr rfl (fun t ht hW => ⟨⟨1, (V39, L35), rfl, ⟨hMV39, agV39, alL35, fwV39, (by decide), px42, (Imp.mk (fun hp => absurd hp (by decide)))⟩, by rw [ht]; exact hP, va_K.moved hW.alike hK, hD⟩, hS.F ht⟩) hS.2.2 dX1_readExtras_128
          · skip
            have f43 : z29.toInt = 0 := b_eq rfl (by decide) c37
            refine lv_iconst (v := 0) hx hb dX1_readExtras_117 (by decide) ?_
            have px44 : px V V34 b := px.tr (px.rf : px V V b) (px.ag (show agr [(1, 3), (1, 6), (1, 8), (6, 8), (6, 9), (6, 10)] [54] V V34 from (agr.tr (agr.up (agr.tr (agr.tr agr.rf ajV12 (by decide) (by decide)) ajV20 (by decide) (by decide)) hV25 rfl) ajV34 (by decide) (by decide))) (fun _ => rfl) (fun _ => rfl) (fun _ => rfl))
            exact W.zret (v := 0) hx hb hr rfl (fun t ht hW => ⟨⟨0, (V34, L35), rfl, ⟨hMV34, agV34, alL35, fwV34, (by decide), px44, (Imp.mk (fun _ => (show 1 ≤ (V34 1 3).toInt from by first | exact om_f8d8213eda45 ((Imp.go t33 (f43))) | first | omega | ((try (have i_t33 := Imp.go t33 (f43))); (try (have i_t18 := Imp.go t18 (imp_a (rgz15.1) (rgz15.2) (f24)))); omega) | ((try (have i_t33 := Imp.go t33 (by omega))); (try (have i_t32 := Imp.go t32 (by omega))); (try (have i_t19 := Imp.go t19 (by omega))); (try (have i_t18 := Imp.go t18 (by omega))); first | omega | ((try (have i_t18 := Imp.go t18 (by omega))); (try (have i_t19 := Imp.go t19 (by omega))); (try (have i_t32 := Imp.go t32 (by omega))); (try (have i_t33 := Imp.go t33 (by omega))); omega)))))⟩, by rw [ht]; exact hP, va_K.moved hW.alike hK, hD⟩, hS.F ht⟩) hS.2.2 dX1_readExtras_118
        · skip
          have f45 : z15.toInt = 0 := b_eq rfl (by decide) c23
          refine lv_iconst (v := 0) hx hb dX1_readExtras_97 (by decide) ?_
          have px46 : px V V20 b := px.tr (px.rf : px V V b) (px.ag (show agr [(1, 3), (1, 6), (6, 8), (6, 9), (6, 10)] [] V V20 from (agr.tr (agr.tr agr.rf ajV12 (by decide) (by decide)) ajV20 (by decide) (by decide))) (fun _ => rfl) (fun _ => rfl) (fun _ => rfl))
          exact W.zret (v := 0) hx hb hr rfl (fun t ht hW => ⟨⟨0, (V20, L21), rfl, ⟨hMV20, agV20, alL21, fwV20, (by decide), px46, (Imp.mk (fun _ => (show 1 ≤ (V20 1 3).toInt from by first | exact om_f8d8213eda45 ((Imp.go t19 (f45))) | first | omega | ((try (have i_t19 := Imp.go t19 (by omega))); (try (have i_t18 := Imp.go t18 (by omega))); (try (have i_t18 := Imp.go t18 (by omega))); (try (have i_t19 := Imp.go t19 (by omega))); omega))))⟩, by rw [ht]; exact hP, va_K.moved hW.alike hK, hD⟩, hS.F ht⟩) hS.2.2 dX1_readExtras_98
    · skip
      have f47 : ((V 6 9)).toInt = 134 := b_eq rfl (by decide) c4
      refine lv_aload_n hx hb dX1_readExtras_43 rfl (lv_at hl 0 rfl) ?_
      refine va_get (D := D) (ci := 1) (v := .ref (ad 6)) (fs := (xfReader ad V L Z)) (C := RX1) (T := TX1) (N := 9) hx hb hg inX1 hown hK hP 1 xgReader rfl 0 (by decide) (hg _ w304) (fun _ h9 => h9) rfl dX1_readExtras_44 ?_
      refine gA_void (gA_runV (As := []) (rest := []) (ci := 9) (q0 := 6) hx hb hml hown hg hP hD hK hS hA hnw hgk (x_next l D ks H.size ad kk V L Z  hMV ) w871 w852 w853 w157 w854 rfl xgTape hdV_yX9_next ⟨Nat.le_of_ble_eq_true rfl, Nat.le_of_ble_eq_true rfl⟩ rfl hl.1 rfl (Nat.le_of_ble_eq_true rfl) dX1_readExtras_47 ⟨Nat.le_of_ble_eq_true rfl, Nat.le_of_ble_eq_true rfl⟩) hP hD hK hS hA (fun u49 H locs w50 hP hD hK hS => ?_)
      obtain ⟨V51, L52⟩ := u49
      obtain ⟨hMV51, ajV51, axL52⟩ := w50
      have alL52 : agL [6, 44] L L52 := agL.tr alL axL52 (by decide)
      have hP : va_P D vwCl (xw ad kk V51 L52 Z) H := hP
      have hD : va_D A (xw ad kk V51 L52 Z) := hD
      have hMV51 : rgd bX V51 := hMV51
      have ajV51 : agr [(6, 8), (6, 9), (6, 10)] [] V V51 := ajV51
      have agV51 : agr [(1, 3), (1, 6), (1, 8), (6, 8), (6, 9), (6, 10)] [43, 44, 52, 53, 54, 55] V V51 := agV.tr ajV51 (by decide) (by decide)
      have fwV51 : frX (xR b) V V51 := frX.tr fwV (frX.ag ajV51 (by decide) (by decide))
      refine lv_aload_n hx hb dX1_readExtras_50 rfl (lv_at hl 0 rfl) ?_
      refine lv_iconst (v := 0) hx hb dX1_readExtras_51 (by decide) ?_
      refine lv_bipush (v := 9) hx hb dX1_readExtras_52 (by decide) ?_
      have r53 : Int32.toInt 0 = 0 := by decide
      have r54 : Int32.toInt 9 = 9 := by decide
      refine gA_int (gA_runV (As := [.int 0, .int 9]) (rest := []) (ci := 1) (q0 := 1) hx hb hml hown hg hP hD hK hS hA hnw hgk (x_takeNumber l D ks H.size ad kk V51 L52 Z 0 9 hMV51 (show 0 ≤ (Int32.toInt 0) from by (first | exact om_1531b20f57e1 r53 | omega)) (show (Int32.toInt 9) ≤ 999999999 from by (first | exact om_e577f9a5b80c r54 | omega))) w906 w908 w12 w162 w909 rfl xgReader hdV_yX1_takeNumber ⟨Nat.le_of_ble_eq_true rfl, Nat.le_of_ble_eq_true rfl⟩ rfl hl.1 rfl (Nat.le_of_ble_eq_true rfl) dX1_readExtras_54 ⟨Nat.le_of_ble_eq_true rfl, Nat.le_of_ble_eq_true rfl⟩) hP hD hK hS hA (fun z55 u56 H locs w57 hP hD hK hS => ?_)
      obtain ⟨V60, L61⟩ := u56
      obtain ⟨hMV60, ajV60, axL61, rgz55, t58, t59⟩ := w57
      have alL61 : agL [6, 44] L L61 := agL.tr alL52 axL61 (by decide)
      have hP : va_P D vwCl (xw ad kk V60 L61 Z) H := hP
      have hD : va_D A (xw ad kk V60 L61 Z) := hD
      have hMV60 : rgd bX V60 := hMV60
      have ajV60 : agr [(1, 3), (1, 8), (6, 8), (6, 9), (6, 10)] [] V51 V60 := ajV60
      have agV60 : agr [(1, 3), (1, 6), (1, 8), (6, 8), (6, 9), (6, 10)] [43, 44, 52, 53, 54, 55] V V60 := agV51.tr ajV60 (by decide) (by decide)
      have fwV60 : frX (xR b) V V60 := frX.tr fwV51 (frX.ag ajV60 (by decide) (by decide))
      have rgz55 : 0 ≤ z55.toInt ∧ z55.toInt ≤ 1 := rgz55
      have t58 : Imp (z55.toInt = 1) ((Int32.toInt 0) ≤ (V60 1 8).toInt ∧ (V60 1 8).toInt ≤ (Int32.toInt 9)) := t58
      have t59 : Imp (z55.toInt = 0) (1 ≤ (V60 1 3).toInt) := t59
      have r62 : 0 ≤ ((V60 1 8)).toInt ∧ ((V60 1 8)).toInt ≤ 999999999 := hMV60 1 8
      refine lv_if_ne (tgt := 62) hx hb dX1_readExtras_57 (by decide) (fun c63 => ?_) (fun c63 => ?_)
      · skip
        have f64 : z55.toInt ≠ 0 := b_neq rfl (by decide) c63
        refine lv_aload_n hx hb dX1_readExtras_62 rfl (lv_at hl 1 rfl) ?_
        refine lv_aload_n hx hb dX1_readExtras_63 rfl (lv_at hl 0 rfl) ?_
        refine va_get (D := D) (ci := 1) (v := .int (V60 1 8)) (fs := (xfReader ad V60 L61 Z)) (C := RX1) (T := TX1) (N := 9) hx hb hg inX1 hown hK hP 1 xgReader rfl 8 (by decide) (hg _ w312) (fun _ h9 => h9) rfl dX1_readExtras_64 ?_
        refine va_putN (D := D) (ci := 3) (v := .int (V60 1 8)) (ty := tyX3 8) (fs := (xfComp ad V60 gi)) (C := RX3) (T := TX3) (N := 13) hx hb hg inX3 tyX3 tyX3_ok nmX3 hown hK hP hD hS (72 + gi) (xgComp hgi) rfl 8 (by decide) (hnw.use 528 n528 rfl) (fun _ h9 => h9) rfl (tyX3_ok 8 (by decide)) rfl rfl (Nat.le_of_ble_eq_true rfl) dX1_readExtras_67 (fun H locs hP hD hS => ?_)
        obtain ⟨V65, hV65⟩ : ∃ z, z = up2 V60 53 gi (V60 1 8) := ⟨_, rfl⟩
        have ew66 : (xw ad kk V60 L61 Z).set (72 + gi) ((ad (72 + gi)), .inr (3, (xfComp ad V60 gi).set 8 (.int (V60 1 8)))) = xw ad kk V65 L61 Z := by rw [hV65]; exact xpComp_rank hgi
        have hP : va_P D vwCl (xw ad kk V65 L61 Z) H := by rw [← ew66]; exact hP
        have hD : va_D A (xw ad kk V65 L61 Z) := by rw [← ew66]; exact hD
        have hMV65 : rgd bX V65 := hMV60.put hV65 (i_full _)
        have agV65 : agr [(1, 3), (1, 6), (1, 8), (6, 8), (6, 9), (6, 10)] [43, 44, 52, 53, 54, 55] V V65 := agV60.up hV65 rfl
        have fwV65 : frX (xR b) V V65 := frX.up fwV60 hV65 (Or.inr ⟨(by show 24 * b ≤ gi; first | exact om_ef8c008e8399 hgl | first | omega | ((try (have i_t59 := Imp.go t59 (by omega))); (try (have i_t58 := Imp.go t58 (by omega))); (try (have i_t58 := Imp.go t58 (by omega))); (try (have i_t59 := Imp.go t59 (by omega))); omega)), (by show gi < 24 * b + 24; first | exact om_8af120267f01 hgh | first | omega | ((try (have i_t59 := Imp.go t59 (by omega))); (try (have i_t58 := Imp.go t58 (by omega))); (try (have i_t58 := Imp.go t58 (by omega))); (try (have i_t59 := Imp.go t59 (by omega))); omega))⟩)
        refine lv_aload_n hx hb dX1_readExtras_70 rfl (lv_at hl 0 rfl) ?_
        refine va_get (D := D) (ci := 1) (v := .ref (ad 6)) (fs := (xfReader ad V65 L61 Z)) (C := RX1) (T := TX1) (N := 9) hx hb hg inX1 hown hK hP 1 xgReader rfl 0 (by decide) (hg _ w304) (fun _ h9 => h9) rfl dX1_readExtras_71 ?_
        refine va_getN (D := D) (ci := 9) (v := .int (V65 6 9)) (fs := (xfTape ad V65 L61 Z)) (C := RX9) (T := TX9) (N := 12) hx hb hg inX9 hown hK hP 6 xgTape rfl 9 (by decide) (hnw.use 262 n262 rfl) (fun _ h9 => h9) rfl dX1_readExtras_74 ?_
        refine g_top (v := (V60 6 9)) (up2_o hV65 (by decide)) ?_
        refine lv_sipush (v := 135) hx hb dX1_readExtras_77 (by decide) ?_
        refine lv_icmp_ne (tgt := 127) hx hb dX1_readExtras_80 (by decide) (fun c67 => ?_) (fun c67 => ?_)
        · skip
          have f68 : ((V60 6 9)).toInt ≠ 135 := b_neq rfl (by decide) c67
          refine lv_iconst (v := 1) hx hb dX1_readExtras_127 (by decide) ?_
          have pq69 : (V65 1 3).toInt = ((V60 1 3)).toInt := congrArg Int32.toInt (up2_o hV65 (by decide))
          have px70 : px V V65 b := px.tr (px.rf : px V V b) (px.ag (show agr [(1, 3), (1, 8), (6, 8), (6, 9), (6, 10)] [53] V V65 from (agr.up (agr.tr (agr.tr agr.rf ajV51 (by decide) (by decide)) ajV60 (by decide) (by decide)) hV65 rfl)) (fun _ => rfl) (fun _ => rfl) (fun _ => rfl))
          exact W.zret (v := 1) hx hb hr rfl (fun t ht hW => ⟨⟨1, (V65, L61), rfl, ⟨hMV65, agV65, alL61, fwV65, (by decide), px70, (Imp.mk (fun hp => absurd hp (by decide)))⟩, by rw [ht]; exact hP, va_K.moved hW.alike hK, hD⟩, hS.F ht⟩) hS.2.2 dX1_readExtras_128
        · skip
          have f71 : ((V60 6 9)).toInt = 135 := b_eq rfl (by decide) c67
          refine lv_aload_n hx hb dX1_readExtras_83 rfl (lv_at hl 0 rfl) ?_
          refine va_get (D := D) (ci := 1) (v := .ref (ad 6)) (fs := (xfReader ad V65 L61 Z)) (C := RX1) (T := TX1) (N := 9) hx hb hg inX1 hown hK hP 1 xgReader rfl 0 (by decide) (hg _ w304) (fun _ h9 => h9) rfl dX1_readExtras_84 ?_
          refine gA_void (gA_runV (As := []) (rest := []) (ci := 9) (q0 := 6) hx hb hml hown hg hP hD hK hS hA hnw hgk (x_next l D ks H.size ad kk V65 L61 Z  hMV65 ) w871 w852 w853 w157 w854 rfl xgTape hdV_yX9_next ⟨Nat.le_of_ble_eq_true rfl, Nat.le_of_ble_eq_true rfl⟩ rfl hl.1 rfl (Nat.le_of_ble_eq_true rfl) dX1_readExtras_87 ⟨Nat.le_of_ble_eq_true rfl, Nat.le_of_ble_eq_true rfl⟩) hP hD hK hS hA (fun u73 H locs w74 hP hD hK hS => ?_)
          obtain ⟨V75, L76⟩ := u73
          obtain ⟨hMV75, ajV75, axL76⟩ := w74
          have alL76 : agL [6, 44] L L76 := agL.tr alL61 axL76 (by decide)
          have hP : va_P D vwCl (xw ad kk V75 L76 Z) H := hP
          have hD : va_D A (xw ad kk V75 L76 Z) := hD
          have hMV75 : rgd bX V75 := hMV75
          have ajV75 : agr [(6, 8), (6, 9), (6, 10)] [] V65 V75 := ajV75
          have agV75 : agr [(1, 3), (1, 6), (1, 8), (6, 8), (6, 9), (6, 10)] [43, 44, 52, 53, 54, 55] V V75 := agV65.tr ajV75 (by decide) (by decide)
          have fwV75 : frX (xR b) V V75 := frX.tr fwV65 (frX.ag ajV75 (by decide) (by decide))
          refine lv_aload_n hx hb dX1_readExtras_90 rfl (lv_at hl 0 rfl) ?_
          have pq77 : (V75 1 1).toInt = ((V 1 1)).toInt := congrArg Int32.toInt ((ajV75 1 1 rfl).trans ((up2_o hV65 (by decide)).trans ((ajV60 1 1 rfl).trans (ajV51 1 1 rfl))))
          refine gA_int (gA_runV (As := []) (rest := []) (ci := 1) (q0 := 1) hx hb hml hown hg hP hD hK hS hA hnw hgk (x_takeSetting l D ks H.size ad kk V75 L76 Z (b) hMV75 (show b < 2 from by first | exact om_f940a4667dd6 hb2 | first | omega | ((try (have i_t59 := Imp.go t59 (by omega))); (try (have i_t58 := Imp.go t58 (by omega))); (try (have i_t58 := Imp.go t58 (by omega))); (try (have i_t59 := Imp.go t59 (by omega))); omega)) (show (V75 1 1).toInt = (b : Int) from by first | exact om_adf531c77a0d rbk pq77 | first | omega | ((try (have i_t59 := Imp.go t59 (by omega))); (try (have i_t58 := Imp.go t58 (by omega))); (try (have i_t58 := Imp.go t58 (by omega))); (try (have i_t59 := Imp.go t59 (by omega))); omega))) w931 w933 w17 w162 w934 rfl xgReader hdV_yX1_takeSetting ⟨Nat.le_of_ble_eq_true rfl, Nat.le_of_ble_eq_true rfl⟩ rfl hl.1 rfl (Nat.le_of_ble_eq_true rfl) dX1_readExtras_91 ⟨Nat.le_of_ble_eq_true rfl, Nat.le_of_ble_eq_true rfl⟩) hP hD hK hS hA (fun z78 u79 H locs w80 hP hD hK hS => ?_)
          obtain ⟨V83, L84⟩ := u79
          obtain ⟨hMV83, ajV83, axL84, rgz78, t81, t82⟩ := w80
          have alL84 : agL [6, 44] L L84 := agL.tr alL76 axL84 (by decide)
          have hP : va_P D vwCl (xw ad kk V83 L84 Z) H := hP
          have hD : va_D A (xw ad kk V83 L84 Z) := hD
          have hMV83 : rgd bX V83 := hMV83
          have ajV83 : agr [(1, 3), (1, 6), (6, 8), (6, 9), (6, 10)] [] V75 V83 := ajV83
          have agV83 : agr [(1, 3), (1, 6), (1, 8), (6, 8), (6, 9), (6, 10)] [43, 44, 52, 53, 54, 55] V V83 := agV75.tr ajV83 (by decide) (by decide)
          have fwV83 : frX (xR b) V V83 := frX.tr fwV75 (frX.ag ajV83 (by decide) (by decide))
          have rgz78 : 0 ≤ z78.toInt ∧ z78.toInt ≤ 1 := rgz78
          have t81 : Imp (z78.toInt = 1) (0 ≤ (V83 1 6).toInt ∧ (V83 1 6).toInt ≤ 11) := t81
          have t82 : Imp (z78.toInt = 0) (1 ≤ (V83 1 3).toInt) := t82
          have r85 : (-1) ≤ ((V83 1 6)).toInt ∧ ((V83 1 6)).toInt ≤ 23 := hMV83 1 6
          refine lv_if_ne (tgt := 99) hx hb dX1_readExtras_94 (by decide) (fun c86 => ?_) (fun c86 => ?_)
          · skip
            have f87 : z78.toInt ≠ 0 := b_neq rfl (by decide) c86
            refine lv_aload_n hx hb dX1_readExtras_99 rfl (lv_at hl 1 rfl) ?_
            refine lv_aload_n hx hb dX1_readExtras_100 rfl (lv_at hl 0 rfl) ?_
            refine va_get (D := D) (ci := 1) (v := .int (V83 1 6)) (fs := (xfReader ad V83 L84 Z)) (C := RX1) (T := TX1) (N := 9) hx hb hg inX1 hown hK hP 1 xgReader rfl 6 (by decide) (hg _ w310) (fun _ h9 => h9) rfl dX1_readExtras_101 ?_
            refine va_putN (D := D) (ci := 3) (v := .int (V83 1 6)) (ty := tyX3 9) (fs := (xfComp ad V83 gi)) (C := RX3) (T := TX3) (N := 13) hx hb hg inX3 tyX3 tyX3_ok nmX3 hown hK hP hD hS (72 + gi) (xgComp hgi) rfl 9 (by decide) (hnw.use 533 n533 rfl) (fun _ h9 => h9) rfl (tyX3_ok 9 (by decide)) rfl rfl (Nat.le_of_ble_eq_true rfl) dX1_readExtras_104 (fun H locs hP hD hS => ?_)
            obtain ⟨V88, hV88⟩ : ∃ z, z = up2 V83 54 gi (V83 1 6) := ⟨_, rfl⟩
            have ew89 : (xw ad kk V83 L84 Z).set (72 + gi) ((ad (72 + gi)), .inr (3, (xfComp ad V83 gi).set 9 (.int (V83 1 6)))) = xw ad kk V88 L84 Z := by rw [hV88]; exact xpComp_whenSetting hgi
            have hP : va_P D vwCl (xw ad kk V88 L84 Z) H := by rw [← ew89]; exact hP
            have hD : va_D A (xw ad kk V88 L84 Z) := by rw [← ew89]; exact hD
            have hMV88 : rgd bX V88 := hMV83.put hV88 (show (-1) ≤ ((V83 1 6)).toInt ∧ ((V83 1 6)).toInt ≤ 11 from by first | exact om_f5bd923ce183 ((Imp.go t81 (imp_a (rgz78.1) (rgz78.2) (f87))).1) ((Imp.go t81 (imp_a (rgz78.1) (rgz78.2) (f87))).2) | first | omega | ((try (have i_t81 := Imp.go t81 (imp_a (rgz78.1) (rgz78.2) (f87)))); (try (have i_t58 := Imp.go t58 (imp_a (rgz55.1) (rgz55.2) (f64)))); omega) | ((try (have i_t82 := Imp.go t82 (by omega))); (try (have i_t81 := Imp.go t81 (by omega))); (try (have i_t59 := Imp.go t59 (by omega))); (try (have i_t58 := Imp.go t58 (by omega))); first | omega | ((try (have i_t58 := Imp.go t58 (by omega))); (try (have i_t59 := Imp.go t59 (by omega))); (try (have i_t81 := Imp.go t81 (by omega))); (try (have i_t82 := Imp.go t82 (by omega))); omega)))
            have agV88 : agr [(1, 3), (1, 6), (1, 8), (6, 8), (6, 9), (6, 10)] [43, 44, 52, 53, 54, 55] V V88 := agV83.up hV88 rfl
            have fwV88 : frX (xR b) V V88 := frX.up fwV83 hV88 (Or.inr ⟨(by show 24 * b ≤ gi; first | exact om_ef8c008e8399 hgl | first | omega | ((try (have i_t81 := Imp.go t81 (imp_a (rgz78.1) (rgz78.2) (f87)))); (try (have i_t58 := Imp.go t58 (imp_a (rgz55.1) (rgz55.2) (f64)))); omega) | ((try (have i_t82 := Imp.go t82 (by omega))); (try (have i_t81 := Imp.go t81 (by omega))); (try (have i_t59 := Imp.go t59 (by omega))); (try (have i_t58 := Imp.go t58 (by omega))); first | omega | ((try (have i_t58 := Imp.go t58 (by omega))); (try (have i_t59 := Imp.go t59 (by omega))); (try (have i_t81 := Imp.go t81 (by omega))); (try (have i_t82 := Imp.go t82 (by omega))); omega))), (by show gi < 24 * b + 24; first | exact om_8af120267f01 hgh | first | omega | ((try (have i_t81 := Imp.go t81 (imp_a (rgz78.1) (rgz78.2) (f87)))); (try (have i_t58 := Imp.go t58 (imp_a (rgz55.1) (rgz55.2) (f64)))); omega) | ((try (have i_t82 := Imp.go t82 (by omega))); (try (have i_t81 := Imp.go t81 (by omega))); (try (have i_t59 := Imp.go t59 (by omega))); (try (have i_t58 := Imp.go t58 (by omega))); first | omega | ((try (have i_t58 := Imp.go t58 (by omega))); (try (have i_t59 := Imp.go t59 (by omega))); (try (have i_t81 := Imp.go t81 (by omega))); (try (have i_t82 := Imp.go t82 (by omega))); omega)))⟩)
            refine lv_aload_n hx hb dX1_readExtras_107 rfl (lv_at hl 0 rfl) ?_
            refine lv_iconst (v := 0) hx hb dX1_readExtras_108 (by decide) ?_
            refine lv_ldc (v := 999999999) hx hb hown (hg _ w905) dX1_readExtras_109 ?_
            have r90 : Int32.toInt 999999999 = 999999999 := by decide
            refine gA_int (gA_runV (As := [.int 0, .int 999999999]) (rest := []) (ci := 1) (q0 := 1) hx hb hml hown hg hP hD hK hS hA hnw hgk (x_takeNumber l D ks H.size ad kk V88 L84 Z 0 999999999 hMV88 (show 0 ≤ (Int32.toInt 0) from by first | exact om_1531b20f57e1 r53 | first | omega | ((try (have i_t81 := Imp.go t81 (imp_a (rgz78.1) (rgz78.2) (f87)))); (try (have i_t58 := Imp.go t58 (imp_a (rgz55.1) (rgz55.2) (f64)))); omega) | ((try (have i_t82 := Imp.go t82 (by omega))); (try (have i_t81 := Imp.go t81 (by omega))); (try (have i_t59 := Imp.go t59 (by omega))); (try (have i_t58 := Imp.go t58 (by omega))); first | omega | ((try (have i_t58 := Imp.go t58 (by omega))); (try (have i_t59 := Imp.go t59 (by omega))); (try (have i_t81 := Imp.go t81 (by omega))); (try (have i_t82 := Imp.go t82 (by omega))); omega))) (show (Int32.toInt 999999999) ≤ 999999999 from by first | exact om_ffff025b4caa r90 | first | omega | ((try (have i_t81 := Imp.go t81 (imp_a (rgz78.1) (rgz78.2) (f87)))); (try (have i_t58 := Imp.go t58 (imp_a (rgz55.1) (rgz55.2) (f64)))); omega) | ((try (have i_t82 := Imp.go t82 (by omega))); (try (have i_t81 := Imp.go t81 (by omega))); (try (have i_t59 := Imp.go t59 (by omega))); (try (have i_t58 := Imp.go t58 (by omega))); first | omega | ((try (have i_t58 := Imp.go t58 (by omega))); (try (have i_t59 := Imp.go t59 (by omega))); (try (have i_t81 := Imp.go t81 (by omega))); (try (have i_t82 := Imp.go t82 (by omega))); omega)))) w906 w908 w12 w162 w909 rfl xgReader hdV_yX1_takeNumber ⟨Nat.le_of_ble_eq_true rfl, Nat.le_of_ble_eq_true rfl⟩ rfl hl.1 rfl (Nat.le_of_ble_eq_true rfl) dX1_readExtras_111 ⟨Nat.le_of_ble_eq_true rfl, Nat.le_of_ble_eq_true rfl⟩) hP hD hK hS hA (fun z91 u92 H locs w93 hP hD hK hS => ?_)
            obtain ⟨V96, L97⟩ := u92
            obtain ⟨hMV96, ajV96, axL97, rgz91, t94, t95⟩ := w93
            have alL97 : agL [6, 44] L L97 := agL.tr alL84 axL97 (by decide)
            have hP : va_P D vwCl (xw ad kk V96 L97 Z) H := hP
            have hD : va_D A (xw ad kk V96 L97 Z) := hD
            have hMV96 : rgd bX V96 := hMV96
            have ajV96 : agr [(1, 3), (1, 8), (6, 8), (6, 9), (6, 10)] [] V88 V96 := ajV96
            have agV96 : agr [(1, 3), (1, 6), (1, 8), (6, 8), (6, 9), (6, 10)] [43, 44, 52, 53, 54, 55] V V96 := agV88.tr ajV96 (by decide) (by decide)
            have fwV96 : frX (xR b) V V96 := frX.tr fwV88 (frX.ag ajV96 (by decide) (by decide))
            have rgz91 : 0 ≤ z91.toInt ∧ z91.toInt ≤ 1 := rgz91
            have t94 : Imp (z91.toInt = 1) ((Int32.toInt 0) ≤ (V96 1 8).toInt ∧ (V96 1 8).toInt ≤ (Int32.toInt 999999999)) := t94
            have t95 : Imp (z91.toInt = 0) (1 ≤ (V96 1 3).toInt) := t95
            have r98 : 0 ≤ ((V96 1 8)).toInt ∧ ((V96 1 8)).toInt ≤ 999999999 := hMV96 1 8
            refine lv_if_ne (tgt := 119) hx hb dX1_readExtras_114 (by decide) (fun c99 => ?_) (fun c99 => ?_)
            · skip
              have f100 : z91.toInt ≠ 0 := b_neq rfl (by decide) c99
              refine lv_aload_n hx hb dX1_readExtras_119 rfl (lv_at hl 1 rfl) ?_
              refine lv_aload_n hx hb dX1_readExtras_120 rfl (lv_at hl 0 rfl) ?_
              refine va_get (D := D) (ci := 1) (v := .int (V96 1 8)) (fs := (xfReader ad V96 L97 Z)) (C := RX1) (T := TX1) (N := 9) hx hb hg inX1 hown hK hP 1 xgReader rfl 8 (by decide) (hg _ w312) (fun _ h9 => h9) rfl dX1_readExtras_121 ?_
              refine va_putN (D := D) (ci := 3) (v := .int (V96 1 8)) (ty := tyX3 10) (fs := (xfComp ad V96 gi)) (C := RX3) (T := TX3) (N := 13) hx hb hg inX3 tyX3 tyX3_ok nmX3 hown hK hP hD hS (72 + gi) (xgComp hgi) rfl 10 (by decide) (hnw.use 536 n536 rfl) (fun _ h9 => h9) rfl (tyX3_ok 10 (by decide)) rfl rfl (Nat.le_of_ble_eq_true rfl) dX1_readExtras_124 (fun H locs hP hD hS => ?_)
              obtain ⟨V101, hV101⟩ : ∃ z, z = up2 V96 55 gi (V96 1 8) := ⟨_, rfl⟩
              have ew102 : (xw ad kk V96 L97 Z).set (72 + gi) ((ad (72 + gi)), .inr (3, (xfComp ad V96 gi).set 10 (.int (V96 1 8)))) = xw ad kk V101 L97 Z := by rw [hV101]; exact xpComp_whenValue hgi
              have hP : va_P D vwCl (xw ad kk V101 L97 Z) H := by rw [← ew102]; exact hP
              have hD : va_D A (xw ad kk V101 L97 Z) := by rw [← ew102]; exact hD
              have hMV101 : rgd bX V101 := hMV96.put hV101 (i_full _)
              have agV101 : agr [(1, 3), (1, 6), (1, 8), (6, 8), (6, 9), (6, 10)] [43, 44, 52, 53, 54, 55] V V101 := agV96.up hV101 rfl
              have fwV101 : frX (xR b) V V101 := frX.up fwV96 hV101 (Or.inr ⟨(by show 24 * b ≤ gi; first | exact om_ef8c008e8399 hgl | first | omega | ((try (have i_t94 := Imp.go t94 (imp_a (rgz91.1) (rgz91.2) (f100)))); (try (have i_t81 := Imp.go t81 (imp_a (rgz78.1) (rgz78.2) (f87)))); (try (have i_t58 := Imp.go t58 (imp_a (rgz55.1) (rgz55.2) (f64)))); omega) | ((try (have i_t95 := Imp.go t95 (by omega))); (try (have i_t94 := Imp.go t94 (by omega))); (try (have i_t82 := Imp.go t82 (by omega))); (try (have i_t81 := Imp.go t81 (by omega))); first | omega | ((try (have i_t59 := Imp.go t59 (by omega))); (try (have i_t58 := Imp.go t58 (by omega))); (try (have i_t58 := Imp.go t58 (by omega))); (try (have i_t59 := Imp.go t59 (by omega))); first | omega | ((try (have i_t81 := Imp.go t81 (by omega))); (try (have i_t82 := Imp.go t82 (by omega))); (try (have i_t94 := Imp.go t94 (by omega))); (try (have i_t95 := Imp.go t95 (by omega))); omega)))), (by show gi < 24 * b + 24; first | exact om_8af120267f01 hgh | first | omega | ((try (have i_t94 := Imp.go t94 (imp_a (rgz91.1) (rgz91.2) (f100)))); (try (have i_t81 := Imp.go t81 (imp_a (rgz78.1) (rgz78.2) (f87)))); (try (have i_t58 := Imp.go t58 (imp_a (rgz55.1) (rgz55.2) (f64)))); omega) | ((try (have i_t95 := Imp.go t95 (by omega))); (try (have i_t94 := Imp.go t94 (by omega))); (try (have i_t82 := Imp.go t82 (by omega))); (try (have i_t81 := Imp.go t81 (by omega))); first | omega | ((try (have i_t59 := Imp.go t59 (by omega))); (try (have i_t58 := Imp.go t58 (by omega))); (try (have i_t58 := Imp.go t58 (by omega))); (try (have i_t59 := Imp.go t59 (by omega))); first | omega | ((try (have i_t81 := Imp.go t81 (by omega))); (try (have i_t82 := Imp.go t82 (by omega))); (try (have i_t94 := Imp.go t94 (by omega))); (try (have i_t95 := Imp.go t95 (by omega))); omega))))⟩)
              refine lv_iconst (v := 1) hx hb dX1_readExtras_127 (by decide) ?_
              have pq103 : (V101 1 3).toInt = ((V96 1 3)).toInt := congrArg Int32.toInt (up2_o hV101 (by decide))
              have px104 : px V V101 b := px.tr (px.rf : px V V b) (px.ag (show agr [(1, 3), (1, 6), (1, 8), (6, 8), (6, 9), (6, 10)] [53, 54, 55] V V101 from (agr.up (agr.tr (agr.up (agr.tr (agr.tr (agr.up (agr.tr (agr.tr agr.rf ajV51 (by decide) (by decide)) ajV60 (by decide) (by decide)) hV65 rfl) ajV75 (by decide) (by decide)) ajV83 (by decide) (by decide)) hV88 rfl) ajV96 (by decide) (by decide)) hV101 rfl)) (fun _ => rfl) (fun _ => rfl) (fun _ => rfl))
              exact W.zret (v := 1) hx hb hr rfl (fun t ht hW => ⟨⟨1, (V101, L97), rfl, ⟨hMV101, agV101, alL97, fwV101, (by decide), px104, (Imp.mk (fun hp => absurd hp (by decide)))⟩, by rw [ht]; exact hP, va_K.moved hW.alike hK, hD⟩, hS.F ht⟩) hS.2.2 dX1_readExtras_128
            · skip
              have f105 : z91.toInt = 0 := b_eq rfl (by decide) c99
              refine lv_iconst (v := 0) hx hb dX1_readExtras_117 (by decide) ?_
              have px106 : px V V96 b := px.tr (px.rf : px V V b) (px.ag (show agr [(1, 3), (1, 6), (1, 8), (6, 8), (6, 9), (6, 10)] [53, 54] V V96 from (agr.tr (agr.up (agr.tr (agr.tr (agr.up (agr.tr (agr.tr agr.rf ajV51 (by decide) (by decide)) ajV60 (by decide) (by decide)) hV65 rfl) ajV75 (by decide) (by decide)) ajV83 (by decide) (by decide)) hV88 rfl) ajV96 (by decide) (by decide))) (fun _ => rfl) (fun _ => rfl) (fun _ => rfl))
              exact W.zret (v := 0) hx hb hr rfl (fun t ht hW => ⟨⟨0, (V96, L97), rfl, ⟨hMV96, agV96, alL97, fwV96, (by decide), px106, (Imp.mk (fun _ => (show 1 ≤ (V96 1 3).toInt from by first | exact om_f8d8213eda45 ((Imp.go t95 (f105))) | first | omega | ((try (have i_t95 := Imp.go t95 (f105))); (try (have i_t81 := Imp.go t81 (imp_a (rgz78.1) (rgz78.2) (f87)))); (try (have i_t58 := Imp.go t58 (imp_a (rgz55.1) (rgz55.2) (f64)))); omega) | ((try (have i_t95 := Imp.go t95 (by omega))); (try (have i_t94 := Imp.go t94 (by omega))); (try (have i_t82 := Imp.go t82 (by omega))); (try (have i_t81 := Imp.go t81 (by omega))); first | omega | ((try (have i_t59 := Imp.go t59 (by omega))); (try (have i_t58 := Imp.go t58 (by omega))); (try (have i_t58 := Imp.go t58 (by omega))); (try (have i_t59 := Imp.go t59 (by omega))); first | omega | ((try (have i_t81 := Imp.go t81 (by omega))); (try (have i_t82 := Imp.go t82 (by omega))); (try (have i_t94 := Imp.go t94 (by omega))); (try (have i_t95 := Imp.go t95 (by omega))); omega))))))⟩, by rw [ht]; exact hP, va_K.moved hW.alike hK, hD⟩, hS.F ht⟩) hS.2.2 dX1_readExtras_118
          · skip
            have f107 : z78.toInt = 0 := b_eq rfl (by decide) c86
            refine lv_iconst (v := 0) hx hb dX1_readExtras_97 (by decide) ?_
            have px108 : px V V83 b := px.tr (px.rf : px V V b) (px.ag (show agr [(1, 3), (1, 6), (1, 8), (6, 8), (6, 9), (6, 10)] [53] V V83 from (agr.tr (agr.tr (agr.up (agr.tr (agr.tr agr.rf ajV51 (by decide) (by decide)) ajV60 (by decide) (by decide)) hV65 rfl) ajV75 (by decide) (by decide)) ajV83 (by decide) (by decide))) (fun _ => rfl) (fun _ => rfl) (fun _ => rfl))
            exact W.zret (v := 0) hx hb hr rfl (fun t ht hW => ⟨⟨0, (V83, L84), rfl, ⟨hMV83, agV83, alL84, fwV83, (by decide), px108, (Imp.mk (fun _ => (show 1 ≤ (V83 1 3).toInt from by first | exact om_f8d8213eda45 ((Imp.go t82 (f107))) | first | omega | ((try (have i_t82 := Imp.go t82 (f107))); (try (have i_t58 := Imp.go t58 (imp_a (rgz55.1) (rgz55.2) (f64)))); omega) | ((try (have i_t82 := Imp.go t82 (by omega))); (try (have i_t81 := Imp.go t81 (by omega))); (try (have i_t59 := Imp.go t59 (by omega))); (try (have i_t58 := Imp.go t58 (by omega))); first | omega | ((try (have i_t58 := Imp.go t58 (by omega))); (try (have i_t59 := Imp.go t59 (by omega))); (try (have i_t81 := Imp.go t81 (by omega))); (try (have i_t82 := Imp.go t82 (by omega))); omega)))))⟩, by rw [ht]; exact hP, va_K.moved hW.alike hK, hD⟩, hS.F ht⟩) hS.2.2 dX1_readExtras_98
      · skip
        have f109 : z55.toInt = 0 := b_eq rfl (by decide) c63
        refine lv_iconst (v := 0) hx hb dX1_readExtras_60 (by decide) ?_
        have px110 : px V V60 b := px.tr (px.rf : px V V b) (px.ag (show agr [(1, 3), (1, 8), (6, 8), (6, 9), (6, 10)] [] V V60 from (agr.tr (agr.tr agr.rf ajV51 (by decide) (by decide)) ajV60 (by decide) (by decide))) (fun _ => rfl) (fun _ => rfl) (fun _ => rfl))
        exact W.zret (v := 0) hx hb hr rfl (fun t ht hW => ⟨⟨0, (V60, L61), rfl, ⟨hMV60, agV60, alL61, fwV60, (by decide), px110, (Imp.mk (fun _ => (show 1 ≤ (V60 1 3).toInt from by first | exact om_f8d8213eda45 ((Imp.go t59 (f109))) | first | omega | ((try (have i_t59 := Imp.go t59 (by omega))); (try (have i_t58 := Imp.go t58 (by omega))); (try (have i_t58 := Imp.go t58 (by omega))); (try (have i_t59 := Imp.go t59 (by omega))); omega))))⟩, by rw [ht]; exact hP, va_K.moved hW.alike hK, hD⟩, hS.F ht⟩) hS.2.2 dX1_readExtras_61
  · skip
    have f111 : ((V 6 9)).toInt = 133 := b_eq rfl (by decide) c2
    refine lv_aload_n hx hb dX1_readExtras_13 rfl (lv_at hl 0 rfl) ?_
    refine gA_int (gA_runV (As := []) (rest := []) (ci := 1) (q0 := 1) hx hb hml hown hg hP hD hK hS hA hnw hgk (x_takeCalled l D ks H.size ad kk V L Z (b) hMV (show b < 2 from by (first | exact om_f940a4667dd6 hb2 | omega)) (show (V 1 1).toInt = (b : Int) from by (first | exact om_08e0c9701055 rbk | omega))) w923 w925 w15 w162 w926 rfl xgReader hdV_yX1_takeCalled ⟨Nat.le_of_ble_eq_true rfl, Nat.le_of_ble_eq_true rfl⟩ rfl hl.1 rfl (Nat.le_of_ble_eq_true rfl) dX1_readExtras_14 ⟨Nat.le_of_ble_eq_true rfl, Nat.le_of_ble_eq_true rfl⟩) hP hD hK hS hA (fun z112 u113 H locs w114 hP hD hK hS => ?_)
    obtain ⟨V117, L118⟩ := u113
    obtain ⟨hMV117, ajV117, axL118, fyV117, rgz112, t115, t116⟩ := w114
    have alL118 : agL [6, 44] L L118 := agL.tr alL axL118 (by decide)
    have hP : va_P D vwCl (xw ad kk V117 L118 Z) H := hP
    have hD : va_D A (xw ad kk V117 L118 Z) := hD
    have hMV117 : rgd bX V117 := hMV117
    have ajV117 : agr [(1, 3), (1, 6), (6, 8), (6, 9), (6, 10)] [43, 44] V V117 := ajV117
    have agV117 : agr [(1, 3), (1, 6), (1, 8), (6, 8), (6, 9), (6, 10)] [43, 44, 52, 53, 54, 55] V V117 := agV.tr ajV117 (by decide) (by decide)
    have fwV117 : frX (xR b) V V117 := frX.tr fwV (fyV117)
    have rgz112 : 0 ≤ z112.toInt ∧ z112.toInt ≤ 1 := rgz112
    have t115 : px V V117 b := t115
    have t116 : Imp (z112.toInt = 0) (1 ≤ (V117 1 3).toInt) := t116
    refine lv_if_ne (tgt := 22) hx hb dX1_readExtras_17 (by decide) (fun c119 => ?_) (fun c119 => ?_)
    · skip
      have f120 : z112.toInt ≠ 0 := b_neq rfl (by decide) c119
      refine lv_aload_n hx hb dX1_readExtras_22 rfl (lv_at hl 1 rfl) ?_
      refine lv_aload_n hx hb dX1_readExtras_23 rfl (lv_at hl 0 rfl) ?_
      refine va_get (D := D) (ci := 1) (v := .int (V117 1 6)) (fs := (xfReader ad V117 L118 Z)) (C := RX1) (T := TX1) (N := 9) hx hb hg inX1 hown hK hP 1 xgReader rfl 6 (by decide) (hg _ w310) (fun _ h9 => h9) rfl dX1_readExtras_24 ?_
      have r121 : (-1) ≤ ((V117 1 6)).toInt ∧ ((V117 1 6)).toInt ≤ 23 := hMV117 1 6
      refine va_putN (D := D) (ci := 3) (v := .int (V117 1 6)) (ty := tyX3 7) (fs := (xfComp ad V117 gi)) (C := RX3) (T := TX3) (N := 13) hx hb hg inX3 tyX3 tyX3_ok nmX3 hown hK hP hD hS (72 + gi) (xgComp hgi) rfl 7 (by decide) (hnw.use 524 n524 rfl) (fun _ h9 => h9) rfl (tyX3_ok 7 (by decide)) rfl rfl (Nat.le_of_ble_eq_true rfl) dX1_readExtras_27 (fun H locs hP hD hS => ?_)
      obtain ⟨V122, hV122⟩ : ∃ z, z = up2 V117 52 gi (V117 1 6) := ⟨_, rfl⟩
      have ew123 : (xw ad kk V117 L118 Z).set (72 + gi) ((ad (72 + gi)), .inr (3, (xfComp ad V117 gi).set 7 (.int (V117 1 6)))) = xw ad kk V122 L118 Z := by rw [hV122]; exact xpComp_calledWord hgi
      have hP : va_P D vwCl (xw ad kk V122 L118 Z) H := by rw [← ew123]; exact hP
      have hD : va_D A (xw ad kk V122 L118 Z) := by rw [← ew123]; exact hD
      have hMV122 : rgd bX V122 := hMV117.put hV122 (i_full _)
      have agV122 : agr [(1, 3), (1, 6), (1, 8), (6, 8), (6, 9), (6, 10)] [43, 44, 52, 53, 54, 55] V V122 := agV117.up hV122 rfl
      have fwV122 : frX (xR b) V V122 := frX.up fwV117 hV122 (Or.inr ⟨(by show 24 * b ≤ gi; first | exact om_ef8c008e8399 hgl | first | omega | ((try (have i_t116 := Imp.go t116 (by omega))); omega)), (by show gi < 24 * b + 24; first | exact om_8af120267f01 hgh | first | omega | ((try (have i_t116 := Imp.go t116 (by omega))); omega))⟩)
      refine lv_aload_n hx hb dX1_readExtras_30 rfl (lv_at hl 0 rfl) ?_
      refine va_get (D := D) (ci := 1) (v := .ref (ad 6)) (fs := (xfReader ad V122 L118 Z)) (C := RX1) (T := TX1) (N := 9) hx hb hg inX1 hown hK hP 1 xgReader rfl 0 (by decide) (hg _ w304) (fun _ h9 => h9) rfl dX1_readExtras_31 ?_
      refine va_getN (D := D) (ci := 9) (v := .int (V122 6 9)) (fs := (xfTape ad V122 L118 Z)) (C := RX9) (T := TX9) (N := 12) hx hb hg inX9 hown hK hP 6 xgTape rfl 9 (by decide) (hnw.use 262 n262 rfl) (fun _ h9 => h9) rfl dX1_readExtras_34 ?_
      refine g_top (v := (V117 6 9)) (up2_o hV122 (by decide)) ?_
      refine lv_sipush (v := 134) hx hb dX1_readExtras_37 (by decide) ?_
      refine lv_icmp_ne (tgt := 70) hx hb dX1_readExtras_40 (by decide) (fun c124 => ?_) (fun c124 => ?_)
      · skip
        have f125 : ((V117 6 9)).toInt ≠ 134 := b_neq rfl (by decide) c124
        refine lv_aload_n hx hb dX1_readExtras_70 rfl (lv_at hl 0 rfl) ?_
        refine va_get (D := D) (ci := 1) (v := .ref (ad 6)) (fs := (xfReader ad V122 L118 Z)) (C := RX1) (T := TX1) (N := 9) hx hb hg inX1 hown hK hP 1 xgReader rfl 0 (by decide) (hg _ w304) (fun _ h9 => h9) rfl dX1_readExtras_71 ?_
        refine va_getN (D := D) (ci := 9) (v := .int (V122 6 9)) (fs := (xfTape ad V122 L118 Z)) (C := RX9) (T := TX9) (N := 12) hx hb hg inX9 hown hK hP 6 xgTape rfl 9 (by decide) (hnw.use 262 n262 rfl) (fun _ h9 => h9) rfl dX1_readExtras_74 ?_
        refine g_top (v := (V117 6 9)) (up2_o hV122 (by decide)) ?_
        refine lv_sipush (v := 135) hx hb dX1_readExtras_77 (by decide) ?_
        refine lv_icmp_ne (tgt := 127) hx hb dX1_readExtras_80 (by decide) (fun c126 => ?_) (fun c126 => ?_)
        · skip
          have f127 : ((V117 6 9)).toInt ≠ 135 := b_neq rfl (by decide) c126
          refine lv_iconst (v := 1) hx hb dX1_readExtras_127 (by decide) ?_
          have pq128 : (V122 1 3).toInt = ((V117 1 3)).toInt := congrArg Int32.toInt (up2_o hV122 (by decide))
          have px129 : px V V117 b := px.tr (px.rf : px V V b) t115
          have px130 : px V V122 b := px.tr px129 (px.ag (show agr [] [52] V117 V122 from (agr.up agr.rf hV122 rfl)) (fun _ => rfl) (fun _ => rfl) (fun _ => rfl))
          exact W.zret (v := 1) hx hb hr rfl (fun t ht hW => ⟨⟨1, (V122, L118), rfl, ⟨hMV122, agV122, alL118, fwV122, (by decide), px130, (Imp.mk (fun hp => absurd hp (by decide)))⟩, by rw [ht]; exact hP, va_K.moved hW.alike hK, hD⟩, hS.F ht⟩) hS.2.2 dX1_readExtras_128
        · skip
          have f131 : ((V117 6 9)).toInt = 135 := b_eq rfl (by decide) c126
          refine lv_aload_n hx hb dX1_readExtras_83 rfl (lv_at hl 0 rfl) ?_
          refine va_get (D := D) (ci := 1) (v := .ref (ad 6)) (fs := (xfReader ad V122 L118 Z)) (C := RX1) (T := TX1) (N := 9) hx hb hg inX1 hown hK hP 1 xgReader rfl 0 (by decide) (hg _ w304) (fun _ h9 => h9) rfl dX1_readExtras_84 ?_
          refine gA_void (gA_runV (As := []) (rest := []) (ci := 9) (q0 := 6) hx hb hml hown hg hP hD hK hS hA hnw hgk (x_next l D ks H.size ad kk V122 L118 Z  hMV122 ) w871 w852 w853 w157 w854 rfl xgTape hdV_yX9_next ⟨Nat.le_of_ble_eq_true rfl, Nat.le_of_ble_eq_true rfl⟩ rfl hl.1 rfl (Nat.le_of_ble_eq_true rfl) dX1_readExtras_87 ⟨Nat.le_of_ble_eq_true rfl, Nat.le_of_ble_eq_true rfl⟩) hP hD hK hS hA (fun u133 H locs w134 hP hD hK hS => ?_)
          obtain ⟨V135, L136⟩ := u133
          obtain ⟨hMV135, ajV135, axL136⟩ := w134
          have alL136 : agL [6, 44] L L136 := agL.tr alL118 axL136 (by decide)
          have hP : va_P D vwCl (xw ad kk V135 L136 Z) H := hP
          have hD : va_D A (xw ad kk V135 L136 Z) := hD
          have hMV135 : rgd bX V135 := hMV135
          have ajV135 : agr [(6, 8), (6, 9), (6, 10)] [] V122 V135 := ajV135
          have agV135 : agr [(1, 3), (1, 6), (1, 8), (6, 8), (6, 9), (6, 10)] [43, 44, 52, 53, 54, 55] V V135 := agV122.tr ajV135 (by decide) (by decide)
          have fwV135 : frX (xR b) V V135 := frX.tr fwV122 (frX.ag ajV135 (by decide) (by decide))
          refine lv_aload_n hx hb dX1_readExtras_90 rfl (lv_at hl 0 rfl) ?_
          have pq137 : (V135 1 1).toInt = ((V 1 1)).toInt := congrArg Int32.toInt ((ajV135 1 1 rfl).trans ((up2_o hV122 (by decide)).trans (ajV117 1 1 rfl)))
          refine gA_int (gA_runV (As := []) (rest := []) (ci := 1) (q0 := 1) hx hb hml hown hg hP hD hK hS hA hnw hgk (x_takeSetting l D ks H.size ad kk V135 L136 Z (b) hMV135 (show b < 2 from by first | exact om_f940a4667dd6 hb2 | first | omega | ((try (have i_t116 := Imp.go t116 (by omega))); omega)) (show (V135 1 1).toInt = (b : Int) from by first | exact om_adf531c77a0d rbk pq137 | first | omega | ((try (have i_t116 := Imp.go t116 (by omega))); omega))) w931 w933 w17 w162 w934 rfl xgReader hdV_yX1_takeSetting ⟨Nat.le_of_ble_eq_true rfl, Nat.le_of_ble_eq_true rfl⟩ rfl hl.1 rfl (Nat.le_of_ble_eq_true rfl) dX1_readExtras_91 ⟨Nat.le_of_ble_eq_true rfl, Nat.le_of_ble_eq_true rfl⟩) hP hD hK hS hA (fun z138 u139 H locs w140 hP hD hK hS => ?_)
          obtain ⟨V143, L144⟩ := u139
          obtain ⟨hMV143, ajV143, axL144, rgz138, t141, t142⟩ := w140
          have alL144 : agL [6, 44] L L144 := agL.tr alL136 axL144 (by decide)
          have hP : va_P D vwCl (xw ad kk V143 L144 Z) H := hP
          have hD : va_D A (xw ad kk V143 L144 Z) := hD
          have hMV143 : rgd bX V143 := hMV143
          have ajV143 : agr [(1, 3), (1, 6), (6, 8), (6, 9), (6, 10)] [] V135 V143 := ajV143
          have agV143 : agr [(1, 3), (1, 6), (1, 8), (6, 8), (6, 9), (6, 10)] [43, 44, 52, 53, 54, 55] V V143 := agV135.tr ajV143 (by decide) (by decide)
          have fwV143 : frX (xR b) V V143 := frX.tr fwV135 (frX.ag ajV143 (by decide) (by decide))
          have rgz138 : 0 ≤ z138.toInt ∧ z138.toInt ≤ 1 := rgz138
          have t141 : Imp (z138.toInt = 1) (0 ≤ (V143 1 6).toInt ∧ (V143 1 6).toInt ≤ 11) := t141
          have t142 : Imp (z138.toInt = 0) (1 ≤ (V143 1 3).toInt) := t142
          have r145 : (-1) ≤ ((V143 1 6)).toInt ∧ ((V143 1 6)).toInt ≤ 23 := hMV143 1 6
          refine lv_if_ne (tgt := 99) hx hb dX1_readExtras_94 (by decide) (fun c146 => ?_) (fun c146 => ?_)
          · skip
            have f147 : z138.toInt ≠ 0 := b_neq rfl (by decide) c146
            refine lv_aload_n hx hb dX1_readExtras_99 rfl (lv_at hl 1 rfl) ?_
            refine lv_aload_n hx hb dX1_readExtras_100 rfl (lv_at hl 0 rfl) ?_
            refine va_get (D := D) (ci := 1) (v := .int (V143 1 6)) (fs := (xfReader ad V143 L144 Z)) (C := RX1) (T := TX1) (N := 9) hx hb hg inX1 hown hK hP 1 xgReader rfl 6 (by decide) (hg _ w310) (fun _ h9 => h9) rfl dX1_readExtras_101 ?_
            refine va_putN (D := D) (ci := 3) (v := .int (V143 1 6)) (ty := tyX3 9) (fs := (xfComp ad V143 gi)) (C := RX3) (T := TX3) (N := 13) hx hb hg inX3 tyX3 tyX3_ok nmX3 hown hK hP hD hS (72 + gi) (xgComp hgi) rfl 9 (by decide) (hnw.use 533 n533 rfl) (fun _ h9 => h9) rfl (tyX3_ok 9 (by decide)) rfl rfl (Nat.le_of_ble_eq_true rfl) dX1_readExtras_104 (fun H locs hP hD hS => ?_)
            obtain ⟨V148, hV148⟩ : ∃ z, z = up2 V143 54 gi (V143 1 6) := ⟨_, rfl⟩
            have ew149 : (xw ad kk V143 L144 Z).set (72 + gi) ((ad (72 + gi)), .inr (3, (xfComp ad V143 gi).set 9 (.int (V143 1 6)))) = xw ad kk V148 L144 Z := by rw [hV148]; exact xpComp_whenSetting hgi
            have hP : va_P D vwCl (xw ad kk V148 L144 Z) H := by rw [← ew149]; exact hP
            have hD : va_D A (xw ad kk V148 L144 Z) := by rw [← ew149]; exact hD
            have hMV148 : rgd bX V148 := hMV143.put hV148 (show (-1) ≤ ((V143 1 6)).toInt ∧ ((V143 1 6)).toInt ≤ 11 from by first | exact om_f5bd923ce183 ((Imp.go t141 (imp_a (rgz138.1) (rgz138.2) (f147))).1) ((Imp.go t141 (imp_a (rgz138.1) (rgz138.2) (f147))).2) | first | omega | ((try (have i_t142 := Imp.go t142 (by omega))); (try (have i_t141 := Imp.go t141 (by omega))); (try (have i_t116 := Imp.go t116 (by omega))); (try (have i_t116 := Imp.go t116 (by omega))); (try (have i_t141 := Imp.go t141 (by omega))); (try (have i_t142 := Imp.go t142 (by omega))); omega))
            have agV148 : agr [(1, 3), (1, 6), (1, 8), (6, 8), (6, 9), (6, 10)] [43, 44, 52, 53, 54, 55] V V148 := agV143.up hV148 rfl
            have fwV148 : frX (xR b) V V148 := frX.up fwV143 hV148 (Or.inr ⟨(by show 24 * b ≤ gi; first | exact om_ef8c008e8399 hgl | first | omega | ((try (have i_t142 := Imp.go t142 (by omega))); (try (have i_t141 := Imp.go t141 (by omega))); (try (have i_t116 := Imp.go t116 (by omega))); (try (have i_t116 := Imp.go t116 (by omega))); (try (have i_t141 := Imp.go t141 (by omega))); (try (have i_t142 := Imp.go t142 (by omega))); omega)), (by show gi < 24 * b + 24; first | exact om_8af120267f01 hgh | first | omega | ((try (have i_t142 := Imp.go t142 (by omega))); (try (have i_t141 := Imp.go t141 (by omega))); (try (have i_t116 := Imp.go t116 (by omega))); (try (have i_t116 := Imp.go t116 (by omega))); (try (have i_t141 := Imp.go t141 (by omega))); (try (have i_t142 := Imp.go t142 (by omega))); omega))⟩)
            refine lv_aload_n hx hb dX1_readExtras_107 rfl (lv_at hl 0 rfl) ?_
            refine lv_iconst (v := 0) hx hb dX1_readExtras_108 (by decide) ?_
            refine lv_ldc (v := 999999999) hx hb hown (hg _ w905) dX1_readExtras_109 ?_
            have r150 : Int32.toInt 0 = 0 := by decide
            have r151 : Int32.toInt 999999999 = 999999999 := by decide
            refine gA_int (gA_runV (As := [.int 0, .int 999999999]) (rest := []) (ci := 1) (q0 := 1) hx hb hml hown hg hP hD hK hS hA hnw hgk (x_takeNumber l D ks H.size ad kk V148 L144 Z 0 999999999 hMV148 (show 0 ≤ (Int32.toInt 0) from by first | exact om_1531b20f57e1 r150 | first | omega | ((try (have i_t142 := Imp.go t142 (by omega))); (try (have i_t141 := Imp.go t141 (by omega))); (try (have i_t116 := Imp.go t116 (by omega))); (try (have i_t116 := Imp.go t116 (by omega))); (try (have i_t141 := Imp.go t141 (by omega))); (try (have i_t142 := Imp.go t142 (by omega))); omega)) (show (Int32.toInt 999999999) ≤ 999999999 from by first | exact om_ffff025b4caa r151 | first | omega | ((try (have i_t142 := Imp.go t142 (by omega))); (try (have i_t141 := Imp.go t141 (by omega))); (try (have i_t116 := Imp.go t116 (by omega))); (try (have i_t116 := Imp.go t116 (by omega))); (try (have i_t141 := Imp.go t141 (by omega))); (try (have i_t142 := Imp.go t142 (by omega))); omega))) w906 w908 w12 w162 w909 rfl xgReader hdV_yX1_takeNumber ⟨Nat.le_of_ble_eq_true rfl, Nat.le_of_ble_eq_true rfl⟩ rfl hl.1 rfl (Nat.le_of_ble_eq_true rfl) dX1_readExtras_111 ⟨Nat.le_of_ble_eq_true rfl, Nat.le_of_ble_eq_true rfl⟩) hP hD hK hS hA (fun z152 u153 H locs w154 hP hD hK hS => ?_)
            obtain ⟨V157, L158⟩ := u153
            obtain ⟨hMV157, ajV157, axL158, rgz152, t155, t156⟩ := w154
            have alL158 : agL [6, 44] L L158 := agL.tr alL144 axL158 (by decide)
            have hP : va_P D vwCl (xw ad kk V157 L158 Z) H := hP
            have hD : va_D A (xw ad kk V157 L158 Z) := hD
            have hMV157 : rgd bX V157 := hMV157
            have ajV157 : agr [(1, 3), (1, 8), (6, 8), (6, 9), (6, 10)] [] V148 V157 := ajV157
            have agV157 : agr [(1, 3), (1, 6), (1, 8), (6, 8), (6, 9), (6, 10)] [43, 44, 52, 53, 54, 55] V V157 := agV148.tr ajV157 (by decide) (by decide)
            have fwV157 : frX (xR b) V V157 := frX.tr fwV148 (frX.ag ajV157 (by decide) (by decide))
            have rgz152 : 0 ≤ z152.toInt ∧ z152.toInt ≤ 1 := rgz152
            have t155 : Imp (z152.toInt = 1) ((Int32.toInt 0) ≤ (V157 1 8).toInt ∧ (V157 1 8).toInt ≤ (Int32.toInt 999999999)) := t155
            have t156 : Imp (z152.toInt = 0) (1 ≤ (V157 1 3).toInt) := t156
            have r159 : 0 ≤ ((V157 1 8)).toInt ∧ ((V157 1 8)).toInt ≤ 999999999 := hMV157 1 8
            refine lv_if_ne (tgt := 119) hx hb dX1_readExtras_114 (by decide) (fun c160 => ?_) (fun c160 => ?_)
            · skip
              have f161 : z152.toInt ≠ 0 := b_neq rfl (by decide) c160
              refine lv_aload_n hx hb dX1_readExtras_119 rfl (lv_at hl 1 rfl) ?_
              refine lv_aload_n hx hb dX1_readExtras_120 rfl (lv_at hl 0 rfl) ?_
              refine va_get (D := D) (ci := 1) (v := .int (V157 1 8)) (fs := (xfReader ad V157 L158 Z)) (C := RX1) (T := TX1) (N := 9) hx hb hg inX1 hown hK hP 1 xgReader rfl 8 (by decide) (hg _ w312) (fun _ h9 => h9) rfl dX1_readExtras_121 ?_
              refine va_putN (D := D) (ci := 3) (v := .int (V157 1 8)) (ty := tyX3 10) (fs := (xfComp ad V157 gi)) (C := RX3) (T := TX3) (N := 13) hx hb hg inX3 tyX3 tyX3_ok nmX3 hown hK hP hD hS (72 + gi) (xgComp hgi) rfl 10 (by decide) (hnw.use 536 n536 rfl) (fun _ h9 => h9) rfl (tyX3_ok 10 (by decide)) rfl rfl (Nat.le_of_ble_eq_true rfl) dX1_readExtras_124 (fun H locs hP hD hS => ?_)
              obtain ⟨V162, hV162⟩ : ∃ z, z = up2 V157 55 gi (V157 1 8) := ⟨_, rfl⟩
              have ew163 : (xw ad kk V157 L158 Z).set (72 + gi) ((ad (72 + gi)), .inr (3, (xfComp ad V157 gi).set 10 (.int (V157 1 8)))) = xw ad kk V162 L158 Z := by rw [hV162]; exact xpComp_whenValue hgi
              have hP : va_P D vwCl (xw ad kk V162 L158 Z) H := by rw [← ew163]; exact hP
              have hD : va_D A (xw ad kk V162 L158 Z) := by rw [← ew163]; exact hD
              have hMV162 : rgd bX V162 := hMV157.put hV162 (i_full _)
              have agV162 : agr [(1, 3), (1, 6), (1, 8), (6, 8), (6, 9), (6, 10)] [43, 44, 52, 53, 54, 55] V V162 := agV157.up hV162 rfl
              have fwV162 : frX (xR b) V V162 := frX.up fwV157 hV162 (Or.inr ⟨(by show 24 * b ≤ gi; first | exact om_ef8c008e8399 hgl | first | omega | ((try (have i_t155 := Imp.go t155 (imp_a (rgz152.1) (rgz152.2) (f161)))); (try (have i_t141 := Imp.go t141 (imp_a (rgz138.1) (rgz138.2) (f147)))); omega) | ((try (have i_t156 := Imp.go t156 (by omega))); (try (have i_t155 := Imp.go t155 (by omega))); (try (have i_t142 := Imp.go t142 (by omega))); (try (have i_t141 := Imp.go t141 (by omega))); first | omega | ((try (have i_t116 := Imp.go t116 (by omega))); (try (have i_t116 := Imp.go t116 (by omega))); (try (have i_t141 := Imp.go t141 (by omega))); (try (have i_t142 := Imp.go t142 (by omega))); (try (have i_t155 := Imp.go t155 (by omega))); (try (have i_t156 := Imp.go t156 (by omega))); omega))), (by show gi < 24 * b + 24; first | exact om_8af120267f01 hgh | first | omega | ((try (have i_t155 := Imp.go t155 (imp_a (rgz152.1) (rgz152.2) (f161)))); (try (have i_t141 := Imp.go t141 (imp_a (rgz138.1) (rgz138.2) (f147)))); omega) | ((try (have i_t156 := Imp.go t156 (by omega))); (try (have i_t155 := Imp.go t155 (by omega))); (try (have i_t142 := Imp.go t142 (by omega))); (try (have i_t141 := Imp.go t141 (by omega))); first | omega | ((try (have i_t116 := Imp.go t116 (by omega))); (try (have i_t116 := Imp.go t116 (by omega))); (try (have i_t141 := Imp.go t141 (by omega))); (try (have i_t142 := Imp.go t142 (by omega))); (try (have i_t155 := Imp.go t155 (by omega))); (try (have i_t156 := Imp.go t156 (by omega))); omega)))⟩)
              refine lv_iconst (v := 1) hx hb dX1_readExtras_127 (by decide) ?_
              have pq164 : (V162 1 3).toInt = ((V157 1 3)).toInt := congrArg Int32.toInt (up2_o hV162 (by decide))
              have px165 : px V V117 b := px.tr (px.rf : px V V b) t115
              have px166 : px V V162 b := px.tr px165 (px.ag (show agr [(1, 3), (1, 6), (1, 8), (6, 8), (6, 9), (6, 10)] [52, 54, 55] V117 V162 from (agr.up (agr.tr (agr.up (agr.tr (agr.tr (agr.up agr.rf hV122 rfl) ajV135 (by decide) (by decide)) ajV143 (by decide) (by decide)) hV148 rfl) ajV157 (by decide) (by decide)) hV162 rfl)) (fun _ => rfl) (fun _ => rfl) (fun _ => rfl))
              exact W.zret (v := 1) hx hb hr rfl (fun t ht hW => ⟨⟨1, (V162, L158), rfl, ⟨hMV162, agV162, alL158, fwV162, (by decide), px166, (Imp.mk (fun hp => absurd hp (by decide)))⟩, by rw [ht]; exact hP, va_K.moved hW.alike hK, hD⟩, hS.F ht⟩) hS.2.2 dX1_readExtras_128
            · skip
              have f167 : z152.toInt = 0 := b_eq rfl (by decide) c160
              refine lv_iconst (v := 0) hx hb dX1_readExtras_117 (by decide) ?_
              have px168 : px V V117 b := px.tr (px.rf : px V V b) t115
              have px169 : px V V157 b := px.tr px168 (px.ag (show agr [(1, 3), (1, 6), (1, 8), (6, 8), (6, 9), (6, 10)] [52, 54] V117 V157 from (agr.tr (agr.up (agr.tr (agr.tr (agr.up agr.rf hV122 rfl) ajV135 (by decide) (by decide)) ajV143 (by decide) (by decide)) hV148 rfl) ajV157 (by decide) (by decide))) (fun _ => rfl) (fun _ => rfl) (fun _ => rfl))
              exact W.zret (v := 0) hx hb hr rfl (fun t ht hW => ⟨⟨0, (V157, L158), rfl, ⟨hMV157, agV157, alL158, fwV157, (by decide), px169, (Imp.mk (fun _ => (show 1 ≤ (V157 1 3).toInt from by first | exact om_f8d8213eda45 ((Imp.go t156 (f167))) | first | omega | ((try (have i_t156 := Imp.go t156 (f167))); (try (have i_t141 := Imp.go t141 (imp_a (rgz138.1) (rgz138.2) (f147)))); omega) | ((try (have i_t156 := Imp.go t156 (by omega))); (try (have i_t155 := Imp.go t155 (by omega))); (try (have i_t142 := Imp.go t142 (by omega))); (try (have i_t141 := Imp.go t141 (by omega))); first | omega | ((try (have i_t116 := Imp.go t116 (by omega))); (try (have i_t116 := Imp.go t116 (by omega))); (try (have i_t141 := Imp.go t141 (by omega))); (try (have i_t142 := Imp.go t142 (by omega))); (try (have i_t155 := Imp.go t155 (by omega))); (try (have i_t156 := Imp.go t156 (by omega))); omega)))))⟩, by rw [ht]; exact hP, va_K.moved hW.alike hK, hD⟩, hS.F ht⟩) hS.2.2 dX1_readExtras_118
          · skip
            have f170 : z138.toInt = 0 := b_eq rfl (by decide) c146
            refine lv_iconst (v := 0) hx hb dX1_readExtras_97 (by decide) ?_
            have px171 : px V V117 b := px.tr (px.rf : px V V b) t115
            have px172 : px V V143 b := px.tr px171 (px.ag (show agr [(1, 3), (1, 6), (6, 8), (6, 9), (6, 10)] [52] V117 V143 from (agr.tr (agr.tr (agr.up agr.rf hV122 rfl) ajV135 (by decide) (by decide)) ajV143 (by decide) (by decide))) (fun _ => rfl) (fun _ => rfl) (fun _ => rfl))
            exact W.zret (v := 0) hx hb hr rfl (fun t ht hW => ⟨⟨0, (V143, L144), rfl, ⟨hMV143, agV143, alL144, fwV143, (by decide), px172, (Imp.mk (fun _ => (show 1 ≤ (V143 1 3).toInt from by first | exact om_f8d8213eda45 ((Imp.go t142 (f170))) | first | omega | ((try (have i_t142 := Imp.go t142 (by omega))); (try (have i_t141 := Imp.go t141 (by omega))); (try (have i_t116 := Imp.go t116 (by omega))); (try (have i_t116 := Imp.go t116 (by omega))); (try (have i_t141 := Imp.go t141 (by omega))); (try (have i_t142 := Imp.go t142 (by omega))); omega))))⟩, by rw [ht]; exact hP, va_K.moved hW.alike hK, hD⟩, hS.F ht⟩) hS.2.2 dX1_readExtras_98
      · skip
        have f173 : ((V117 6 9)).toInt = 134 := b_eq rfl (by decide) c124
        refine lv_aload_n hx hb dX1_readExtras_43 rfl (lv_at hl 0 rfl) ?_
        refine va_get (D := D) (ci := 1) (v := .ref (ad 6)) (fs := (xfReader ad V122 L118 Z)) (C := RX1) (T := TX1) (N := 9) hx hb hg inX1 hown hK hP 1 xgReader rfl 0 (by decide) (hg _ w304) (fun _ h9 => h9) rfl dX1_readExtras_44 ?_
        refine gA_void (gA_runV (As := []) (rest := []) (ci := 9) (q0 := 6) hx hb hml hown hg hP hD hK hS hA hnw hgk (x_next l D ks H.size ad kk V122 L118 Z  hMV122 ) w871 w852 w853 w157 w854 rfl xgTape hdV_yX9_next ⟨Nat.le_of_ble_eq_true rfl, Nat.le_of_ble_eq_true rfl⟩ rfl hl.1 rfl (Nat.le_of_ble_eq_true rfl) dX1_readExtras_47 ⟨Nat.le_of_ble_eq_true rfl, Nat.le_of_ble_eq_true rfl⟩) hP hD hK hS hA (fun u175 H locs w176 hP hD hK hS => ?_)
        obtain ⟨V177, L178⟩ := u175
        obtain ⟨hMV177, ajV177, axL178⟩ := w176
        have alL178 : agL [6, 44] L L178 := agL.tr alL118 axL178 (by decide)
        have hP : va_P D vwCl (xw ad kk V177 L178 Z) H := hP
        have hD : va_D A (xw ad kk V177 L178 Z) := hD
        have hMV177 : rgd bX V177 := hMV177
        have ajV177 : agr [(6, 8), (6, 9), (6, 10)] [] V122 V177 := ajV177
        have agV177 : agr [(1, 3), (1, 6), (1, 8), (6, 8), (6, 9), (6, 10)] [43, 44, 52, 53, 54, 55] V V177 := agV122.tr ajV177 (by decide) (by decide)
        have fwV177 : frX (xR b) V V177 := frX.tr fwV122 (frX.ag ajV177 (by decide) (by decide))
        refine lv_aload_n hx hb dX1_readExtras_50 rfl (lv_at hl 0 rfl) ?_
        refine lv_iconst (v := 0) hx hb dX1_readExtras_51 (by decide) ?_
        refine lv_bipush (v := 9) hx hb dX1_readExtras_52 (by decide) ?_
        have r179 : Int32.toInt 0 = 0 := by decide
        have r180 : Int32.toInt 9 = 9 := by decide
        refine gA_int (gA_runV (As := [.int 0, .int 9]) (rest := []) (ci := 1) (q0 := 1) hx hb hml hown hg hP hD hK hS hA hnw hgk (x_takeNumber l D ks H.size ad kk V177 L178 Z 0 9 hMV177 (show 0 ≤ (Int32.toInt 0) from by first | exact om_1531b20f57e1 r179 | first | omega | ((try (have i_t116 := Imp.go t116 (by omega))); omega)) (show (Int32.toInt 9) ≤ 999999999 from by first | exact om_e577f9a5b80c r180 | first | omega | ((try (have i_t116 := Imp.go t116 (by omega))); omega))) w906 w908 w12 w162 w909 rfl xgReader hdV_yX1_takeNumber ⟨Nat.le_of_ble_eq_true rfl, Nat.le_of_ble_eq_true rfl⟩ rfl hl.1 rfl (Nat.le_of_ble_eq_true rfl) dX1_readExtras_54 ⟨Nat.le_of_ble_eq_true rfl, Nat.le_of_ble_eq_true rfl⟩) hP hD hK hS hA (fun z181 u182 H locs w183 hP hD hK hS => ?_)
        obtain ⟨V186, L187⟩ := u182
        obtain ⟨hMV186, ajV186, axL187, rgz181, t184, t185⟩ := w183
        have alL187 : agL [6, 44] L L187 := agL.tr alL178 axL187 (by decide)
        have hP : va_P D vwCl (xw ad kk V186 L187 Z) H := hP
        have hD : va_D A (xw ad kk V186 L187 Z) := hD
        have hMV186 : rgd bX V186 := hMV186
        have ajV186 : agr [(1, 3), (1, 8), (6, 8), (6, 9), (6, 10)] [] V177 V186 := ajV186
        have agV186 : agr [(1, 3), (1, 6), (1, 8), (6, 8), (6, 9), (6, 10)] [43, 44, 52, 53, 54, 55] V V186 := agV177.tr ajV186 (by decide) (by decide)
        have fwV186 : frX (xR b) V V186 := frX.tr fwV177 (frX.ag ajV186 (by decide) (by decide))
        have rgz181 : 0 ≤ z181.toInt ∧ z181.toInt ≤ 1 := rgz181
        have t184 : Imp (z181.toInt = 1) ((Int32.toInt 0) ≤ (V186 1 8).toInt ∧ (V186 1 8).toInt ≤ (Int32.toInt 9)) := t184
        have t185 : Imp (z181.toInt = 0) (1 ≤ (V186 1 3).toInt) := t185
        have r188 : 0 ≤ ((V186 1 8)).toInt ∧ ((V186 1 8)).toInt ≤ 999999999 := hMV186 1 8
        refine lv_if_ne (tgt := 62) hx hb dX1_readExtras_57 (by decide) (fun c189 => ?_) (fun c189 => ?_)
        · skip
          have f190 : z181.toInt ≠ 0 := b_neq rfl (by decide) c189
          refine lv_aload_n hx hb dX1_readExtras_62 rfl (lv_at hl 1 rfl) ?_
          refine lv_aload_n hx hb dX1_readExtras_63 rfl (lv_at hl 0 rfl) ?_
          refine va_get (D := D) (ci := 1) (v := .int (V186 1 8)) (fs := (xfReader ad V186 L187 Z)) (C := RX1) (T := TX1) (N := 9) hx hb hg inX1 hown hK hP 1 xgReader rfl 8 (by decide) (hg _ w312) (fun _ h9 => h9) rfl dX1_readExtras_64 ?_
          refine va_putN (D := D) (ci := 3) (v := .int (V186 1 8)) (ty := tyX3 8) (fs := (xfComp ad V186 gi)) (C := RX3) (T := TX3) (N := 13) hx hb hg inX3 tyX3 tyX3_ok nmX3 hown hK hP hD hS (72 + gi) (xgComp hgi) rfl 8 (by decide) (hnw.use 528 n528 rfl) (fun _ h9 => h9) rfl (tyX3_ok 8 (by decide)) rfl rfl (Nat.le_of_ble_eq_true rfl) dX1_readExtras_67 (fun H locs hP hD hS => ?_)
          obtain ⟨V191, hV191⟩ : ∃ z, z = up2 V186 53 gi (V186 1 8) := ⟨_, rfl⟩
          have ew192 : (xw ad kk V186 L187 Z).set (72 + gi) ((ad (72 + gi)), .inr (3, (xfComp ad V186 gi).set 8 (.int (V186 1 8)))) = xw ad kk V191 L187 Z := by rw [hV191]; exact xpComp_rank hgi
          have hP : va_P D vwCl (xw ad kk V191 L187 Z) H := by rw [← ew192]; exact hP
          have hD : va_D A (xw ad kk V191 L187 Z) := by rw [← ew192]; exact hD
          have hMV191 : rgd bX V191 := hMV186.put hV191 (i_full _)
          have agV191 : agr [(1, 3), (1, 6), (1, 8), (6, 8), (6, 9), (6, 10)] [43, 44, 52, 53, 54, 55] V V191 := agV186.up hV191 rfl
          have fwV191 : frX (xR b) V V191 := frX.up fwV186 hV191 (Or.inr ⟨(by show 24 * b ≤ gi; first | exact om_ef8c008e8399 hgl | first | omega | ((try (have i_t185 := Imp.go t185 (by omega))); (try (have i_t184 := Imp.go t184 (by omega))); (try (have i_t116 := Imp.go t116 (by omega))); (try (have i_t116 := Imp.go t116 (by omega))); (try (have i_t184 := Imp.go t184 (by omega))); (try (have i_t185 := Imp.go t185 (by omega))); omega)), (by show gi < 24 * b + 24; first | exact om_8af120267f01 hgh | first | omega | ((try (have i_t185 := Imp.go t185 (by omega))); (try (have i_t184 := Imp.go t184 (by omega))); (try (have i_t116 := Imp.go t116 (by omega))); (try (have i_t116 := Imp.go t116 (by omega))); (try (have i_t184 := Imp.go t184 (by omega))); (try (have i_t185 := Imp.go t185 (by omega))); omega))⟩)
          refine lv_aload_n hx hb dX1_readExtras_70 rfl (lv_at hl 0 rfl) ?_
          refine va_get (D := D) (ci := 1) (v := .ref (ad 6)) (fs := (xfReader ad V191 L187 Z)) (C := RX1) (T := TX1) (N := 9) hx hb hg inX1 hown hK hP 1 xgReader rfl 0 (by decide) (hg _ w304) (fun _ h9 => h9) rfl dX1_readExtras_71 ?_
          refine va_getN (D := D) (ci := 9) (v := .int (V191 6 9)) (fs := (xfTape ad V191 L187 Z)) (C := RX9) (T := TX9) (N := 12) hx hb hg inX9 hown hK hP 6 xgTape rfl 9 (by decide) (hnw.use 262 n262 rfl) (fun _ h9 => h9) rfl dX1_readExtras_74 ?_
          refine g_top (v := (V186 6 9)) (up2_o hV191 (by decide)) ?_
          refine lv_sipush (v := 135) hx hb dX1_readExtras_77 (by decide) ?_
          refine lv_icmp_ne (tgt := 127) hx hb dX1_readExtras_80 (by decide) (fun c193 => ?_) (fun c193 => ?_)
          · skip
            have f194 : ((V186 6 9)).toInt ≠ 135 := b_neq rfl (by decide) c193
            refine lv_iconst (v := 1) hx hb dX1_readExtras_127 (by decide) ?_
            have pq195 : (V191 1 3).toInt = ((V186 1 3)).toInt := congrArg Int32.toInt (up2_o hV191 (by decide))
            have px196 : px V V117 b := px.tr (px.rf : px V V b) t115
            have px197 : px V V191 b := px.tr px196 (px.ag (show agr [(1, 3), (1, 8), (6, 8), (6, 9), (6, 10)] [52, 53] V117 V191 from (agr.up (agr.tr (agr.tr (agr.up agr.rf hV122 rfl) ajV177 (by decide) (by decide)) ajV186 (by decide) (by decide)) hV191 rfl)) (fun _ => rfl) (fun _ => rfl) (fun _ => rfl))
            exact W.zret (v := 1) hx hb hr rfl (fun t ht hW => ⟨⟨1, (V191, L187), rfl, ⟨hMV191, agV191, alL187, fwV191, (by decide), px197, (Imp.mk (fun hp => absurd hp (by decide)))⟩, by rw [ht]; exact hP, va_K.moved hW.alike hK, hD⟩, hS.F ht⟩) hS.2.2 dX1_readExtras_128
          · skip
            have f198 : ((V186 6 9)).toInt = 135 := b_eq rfl (by decide) c193
            refine lv_aload_n hx hb dX1_readExtras_83 rfl (lv_at hl 0 rfl) ?_
            refine va_get (D := D) (ci := 1) (v := .ref (ad 6)) (fs := (xfReader ad V191 L187 Z)) (C := RX1) (T := TX1) (N := 9) hx hb hg inX1 hown hK hP 1 xgReader rfl 0 (by decide) (hg _ w304) (fun _ h9 => h9) rfl dX1_readExtras_84 ?_
            refine gA_void (gA_runV (As := []) (rest := []) (ci := 9) (q0 := 6) hx hb hml hown hg hP hD hK hS hA hnw hgk (x_next l D ks H.size ad kk V191 L187 Z  hMV191 ) w871 w852 w853 w157 w854 rfl xgTape hdV_yX9_next ⟨Nat.le_of_ble_eq_true rfl, Nat.le_of_ble_eq_true rfl⟩ rfl hl.1 rfl (Nat.le_of_ble_eq_true rfl) dX1_readExtras_87 ⟨Nat.le_of_ble_eq_true rfl, Nat.le_of_ble_eq_true rfl⟩) hP hD hK hS hA (fun u200 H locs w201 hP hD hK hS => ?_)
            obtain ⟨V202, L203⟩ := u200
            obtain ⟨hMV202, ajV202, axL203⟩ := w201
            have alL203 : agL [6, 44] L L203 := agL.tr alL187 axL203 (by decide)
            have hP : va_P D vwCl (xw ad kk V202 L203 Z) H := hP
            have hD : va_D A (xw ad kk V202 L203 Z) := hD
            have hMV202 : rgd bX V202 := hMV202
            have ajV202 : agr [(6, 8), (6, 9), (6, 10)] [] V191 V202 := ajV202
            have agV202 : agr [(1, 3), (1, 6), (1, 8), (6, 8), (6, 9), (6, 10)] [43, 44, 52, 53, 54, 55] V V202 := agV191.tr ajV202 (by decide) (by decide)
            have fwV202 : frX (xR b) V V202 := frX.tr fwV191 (frX.ag ajV202 (by decide) (by decide))
            refine lv_aload_n hx hb dX1_readExtras_90 rfl (lv_at hl 0 rfl) ?_
            have pq204 : (V202 1 1).toInt = ((V 1 1)).toInt := congrArg Int32.toInt ((ajV202 1 1 rfl).trans ((up2_o hV191 (by decide)).trans ((ajV186 1 1 rfl).trans ((ajV177 1 1 rfl).trans ((up2_o hV122 (by decide)).trans (ajV117 1 1 rfl))))))
            refine gA_int (gA_runV (As := []) (rest := []) (ci := 1) (q0 := 1) hx hb hml hown hg hP hD hK hS hA hnw hgk (x_takeSetting l D ks H.size ad kk V202 L203 Z (b) hMV202 (show b < 2 from by first | exact om_f940a4667dd6 hb2 | first | omega | ((try (have i_t185 := Imp.go t185 (by omega))); (try (have i_t184 := Imp.go t184 (by omega))); (try (have i_t116 := Imp.go t116 (by omega))); (try (have i_t116 := Imp.go t116 (by omega))); (try (have i_t184 := Imp.go t184 (by omega))); (try (have i_t185 := Imp.go t185 (by omega))); omega)) (show (V202 1 1).toInt = (b : Int) from by first | exact om_adf531c77a0d rbk pq204 | first | omega | ((try (have i_t185 := Imp.go t185 (by omega))); (try (have i_t184 := Imp.go t184 (by omega))); (try (have i_t116 := Imp.go t116 (by omega))); (try (have i_t116 := Imp.go t116 (by omega))); (try (have i_t184 := Imp.go t184 (by omega))); (try (have i_t185 := Imp.go t185 (by omega))); omega))) w931 w933 w17 w162 w934 rfl xgReader hdV_yX1_takeSetting ⟨Nat.le_of_ble_eq_true rfl, Nat.le_of_ble_eq_true rfl⟩ rfl hl.1 rfl (Nat.le_of_ble_eq_true rfl) dX1_readExtras_91 ⟨Nat.le_of_ble_eq_true rfl, Nat.le_of_ble_eq_true rfl⟩) hP hD hK hS hA (fun z205 u206 H locs w207 hP hD hK hS => ?_)
            obtain ⟨V210, L211⟩ := u206
            obtain ⟨hMV210, ajV210, axL211, rgz205, t208, t209⟩ := w207
            have alL211 : agL [6, 44] L L211 := agL.tr alL203 axL211 (by decide)
            have hP : va_P D vwCl (xw ad kk V210 L211 Z) H := hP
            have hD : va_D A (xw ad kk V210 L211 Z) := hD
            have hMV210 : rgd bX V210 := hMV210
            have ajV210 : agr [(1, 3), (1, 6), (6, 8), (6, 9), (6, 10)] [] V202 V210 := ajV210
            have agV210 : agr [(1, 3), (1, 6), (1, 8), (6, 8), (6, 9), (6, 10)] [43, 44, 52, 53, 54, 55] V V210 := agV202.tr ajV210 (by decide) (by decide)
            have fwV210 : frX (xR b) V V210 := frX.tr fwV202 (frX.ag ajV210 (by decide) (by decide))
            have rgz205 : 0 ≤ z205.toInt ∧ z205.toInt ≤ 1 := rgz205
            have t208 : Imp (z205.toInt = 1) (0 ≤ (V210 1 6).toInt ∧ (V210 1 6).toInt ≤ 11) := t208
            have t209 : Imp (z205.toInt = 0) (1 ≤ (V210 1 3).toInt) := t209
            have r212 : (-1) ≤ ((V210 1 6)).toInt ∧ ((V210 1 6)).toInt ≤ 23 := hMV210 1 6
            refine lv_if_ne (tgt := 99) hx hb dX1_readExtras_94 (by decide) (fun c213 => ?_) (fun c213 => ?_)
            · skip
              have f214 : z205.toInt ≠ 0 := b_neq rfl (by decide) c213
              refine lv_aload_n hx hb dX1_readExtras_99 rfl (lv_at hl 1 rfl) ?_
              refine lv_aload_n hx hb dX1_readExtras_100 rfl (lv_at hl 0 rfl) ?_
              refine va_get (D := D) (ci := 1) (v := .int (V210 1 6)) (fs := (xfReader ad V210 L211 Z)) (C := RX1) (T := TX1) (N := 9) hx hb hg inX1 hown hK hP 1 xgReader rfl 6 (by decide) (hg _ w310) (fun _ h9 => h9) rfl dX1_readExtras_101 ?_
              refine va_putN (D := D) (ci := 3) (v := .int (V210 1 6)) (ty := tyX3 9) (fs := (xfComp ad V210 gi)) (C := RX3) (T := TX3) (N := 13) hx hb hg inX3 tyX3 tyX3_ok nmX3 hown hK hP hD hS (72 + gi) (xgComp hgi) rfl 9 (by decide) (hnw.use 533 n533 rfl) (fun _ h9 => h9) rfl (tyX3_ok 9 (by decide)) rfl rfl (Nat.le_of_ble_eq_true rfl) dX1_readExtras_104 (fun H locs hP hD hS => ?_)
              obtain ⟨V215, hV215⟩ : ∃ z, z = up2 V210 54 gi (V210 1 6) := ⟨_, rfl⟩
              have ew216 : (xw ad kk V210 L211 Z).set (72 + gi) ((ad (72 + gi)), .inr (3, (xfComp ad V210 gi).set 9 (.int (V210 1 6)))) = xw ad kk V215 L211 Z := by rw [hV215]; exact xpComp_whenSetting hgi
              have hP : va_P D vwCl (xw ad kk V215 L211 Z) H := by rw [← ew216]; exact hP
              have hD : va_D A (xw ad kk V215 L211 Z) := by rw [← ew216]; exact hD
              have hMV215 : rgd bX V215 := hMV210.put hV215 (show (-1) ≤ ((V210 1 6)).toInt ∧ ((V210 1 6)).toInt ≤ 11 from by first | exact om_f5bd923ce183 ((Imp.go t208 (imp_a (rgz205.1) (rgz205.2) (f214))).1) ((Imp.go t208 (imp_a (rgz205.1) (rgz205.2) (f214))).2) | first | omega | ((try (have i_t208 := Imp.go t208 (imp_a (rgz205.1) (rgz205.2) (f214)))); (try (have i_t184 := Imp.go t184 (imp_a (rgz181.1) (rgz181.2) (f190)))); omega) | ((try (have i_t209 := Imp.go t209 (by omega))); (try (have i_t208 := Imp.go t208 (by omega))); (try (have i_t185 := Imp.go t185 (by omega))); (try (have i_t184 := Imp.go t184 (by omega))); first | omega | ((try (have i_t116 := Imp.go t116 (by omega))); (try (have i_t116 := Imp.go t116 (by omega))); (try (have i_t184 := Imp.go t184 (by omega))); (try (have i_t185 := Imp.go t185 (by omega))); (try (have i_t208 := Imp.go t208 (by omega))); (try (have i_t209 := Imp.go t209 (by omega))); omega)))
              have agV215 : agr [(1, 3), (1, 6), (1, 8), (6, 8), (6, 9), (6, 10)] [43, 44, 52, 53, 54, 55] V V215 := agV210.up hV215 rfl
              have fwV215 : frX (xR b) V V215 := frX.up fwV210 hV215 (Or.inr ⟨(by show 24 * b ≤ gi; first | exact om_ef8c008e8399 hgl | first | omega | ((try (have i_t208 := Imp.go t208 (imp_a (rgz205.1) (rgz205.2) (f214)))); (try (have i_t184 := Imp.go t184 (imp_a (rgz181.1) (rgz181.2) (f190)))); omega) | ((try (have i_t209 := Imp.go t209 (by omega))); (try (have i_t208 := Imp.go t208 (by omega))); (try (have i_t185 := Imp.go t185 (by omega))); (try (have i_t184 := Imp.go t184 (by omega))); first | omega | ((try (have i_t116 := Imp.go t116 (by omega))); (try (have i_t116 := Imp.go t116 (by omega))); (try (have i_t184 := Imp.go t184 (by omega))); (try (have i_t185 := Imp.go t185 (by omega))); (try (have i_t208 := Imp.go t208 (by omega))); (try (have i_t209 := Imp.go t209 (by omega))); omega))), (by show gi < 24 * b + 24; first | exact om_8af120267f01 hgh | first | omega | ((try (have i_t208 := Imp.go t208 (imp_a (rgz205.1) (rgz205.2) (f214)))); (try (have i_t184 := Imp.go t184 (imp_a (rgz181.1) (rgz181.2) (f190)))); omega) | ((try (have i_t209 := Imp.go t209 (by omega))); (try (have i_t208 := Imp.go t208 (by omega))); (try (have i_t185 := Imp.go t185 (by omega))); (try (have i_t184 := Imp.go t184 (by omega))); first | omega | ((try (have i_t116 := Imp.go t116 (by omega))); (try (have i_t116 := Imp.go t116 (by omega))); (try (have i_t184 := Imp.go t184 (by omega))); (try (have i_t185 := Imp.go t185 (by omega))); (try (have i_t208 := Imp.go t208 (by omega))); (try (have i_t209 := Imp.go t209 (by omega))); omega)))⟩)
              refine lv_aload_n hx hb dX1_readExtras_107 rfl (lv_at hl 0 rfl) ?_
              refine lv_iconst (v := 0) hx hb dX1_readExtras_108 (by decide) ?_
              refine lv_ldc (v := 999999999) hx hb hown (hg _ w905) dX1_readExtras_109 ?_
              have r217 : Int32.toInt 999999999 = 999999999 := by decide
              refine gA_int (gA_runV (As := [.int 0, .int 999999999]) (rest := []) (ci := 1) (q0 := 1) hx hb hml hown hg hP hD hK hS hA hnw hgk (x_takeNumber l D ks H.size ad kk V215 L211 Z 0 999999999 hMV215 (show 0 ≤ (Int32.toInt 0) from by first | exact om_1531b20f57e1 r179 | first | omega | ((try (have i_t208 := Imp.go t208 (imp_a (rgz205.1) (rgz205.2) (f214)))); (try (have i_t184 := Imp.go t184 (imp_a (rgz181.1) (rgz181.2) (f190)))); omega) | ((try (have i_t209 := Imp.go t209 (by omega))); (try (have i_t208 := Imp.go t208 (by omega))); (try (have i_t185 := Imp.go t185 (by omega))); (try (have i_t184 := Imp.go t184 (by omega))); first | omega | ((try (have i_t116 := Imp.go t116 (by omega))); (try (have i_t116 := Imp.go t116 (by omega))); (try (have i_t184 := Imp.go t184 (by omega))); (try (have i_t185 := Imp.go t185 (by omega))); (try (have i_t208 := Imp.go t208 (by omega))); (try (have i_t209 := Imp.go t209 (by omega))); omega))) (show (Int32.toInt 999999999) ≤ 999999999 from by first | exact om_ffff025b4caa r217 | first | omega | ((try (have i_t208 := Imp.go t208 (imp_a (rgz205.1) (rgz205.2) (f214)))); (try (have i_t184 := Imp.go t184 (imp_a (rgz181.1) (rgz181.2) (f190)))); omega) | ((try (have i_t209 := Imp.go t209 (by omega))); (try (have i_t208 := Imp.go t208 (by omega))); (try (have i_t185 := Imp.go t185 (by omega))); (try (have i_t184 := Imp.go t184 (by omega))); first | omega | ((try (have i_t116 := Imp.go t116 (by omega))); (try (have i_t116 := Imp.go t116 (by omega))); (try (have i_t184 := Imp.go t184 (by omega))); (try (have i_t185 := Imp.go t185 (by omega))); (try (have i_t208 := Imp.go t208 (by omega))); (try (have i_t209 := Imp.go t209 (by omega))); omega)))) w906 w908 w12 w162 w909 rfl xgReader hdV_yX1_takeNumber ⟨Nat.le_of_ble_eq_true rfl, Nat.le_of_ble_eq_true rfl⟩ rfl hl.1 rfl (Nat.le_of_ble_eq_true rfl) dX1_readExtras_111 ⟨Nat.le_of_ble_eq_true rfl, Nat.le_of_ble_eq_true rfl⟩) hP hD hK hS hA (fun z218 u219 H locs w220 hP hD hK hS => ?_)
              obtain ⟨V223, L224⟩ := u219
              obtain ⟨hMV223, ajV223, axL224, rgz218, t221, t222⟩ := w220
              have alL224 : agL [6, 44] L L224 := agL.tr alL211 axL224 (by decide)
              have hP : va_P D vwCl (xw ad kk V223 L224 Z) H := hP
              have hD : va_D A (xw ad kk V223 L224 Z) := hD
              have hMV223 : rgd bX V223 := hMV223
              have ajV223 : agr [(1, 3), (1, 8), (6, 8), (6, 9), (6, 10)] [] V215 V223 := ajV223
              have agV223 : agr [(1, 3), (1, 6), (1, 8), (6, 8), (6, 9), (6, 10)] [43, 44, 52, 53, 54, 55] V V223 := agV215.tr ajV223 (by decide) (by decide)
              have fwV223 : frX (xR b) V V223 := frX.tr fwV215 (frX.ag ajV223 (by decide) (by decide))
              have rgz218 : 0 ≤ z218.toInt ∧ z218.toInt ≤ 1 := rgz218
              have t221 : Imp (z218.toInt = 1) ((Int32.toInt 0) ≤ (V223 1 8).toInt ∧ (V223 1 8).toInt ≤ (Int32.toInt 999999999)) := t221
              have t222 : Imp (z218.toInt = 0) (1 ≤ (V223 1 3).toInt) := t222
              have r225 : 0 ≤ ((V223 1 8)).toInt ∧ ((V223 1 8)).toInt ≤ 999999999 := hMV223 1 8
              refine lv_if_ne (tgt := 119) hx hb dX1_readExtras_114 (by decide) (fun c226 => ?_) (fun c226 => ?_)
              · skip
                have f227 : z218.toInt ≠ 0 := b_neq rfl (by decide) c226
                refine lv_aload_n hx hb dX1_readExtras_119 rfl (lv_at hl 1 rfl) ?_
                refine lv_aload_n hx hb dX1_readExtras_120 rfl (lv_at hl 0 rfl) ?_
                refine va_get (D := D) (ci := 1) (v := .int (V223 1 8)) (fs := (xfReader ad V223 L224 Z)) (C := RX1) (T := TX1) (N := 9) hx hb hg inX1 hown hK hP 1 xgReader rfl 8 (by decide) (hg _ w312) (fun _ h9 => h9) rfl dX1_readExtras_121 ?_
                refine va_putN (D := D) (ci := 3) (v := .int (V223 1 8)) (ty := tyX3 10) (fs := (xfComp ad V223 gi)) (C := RX3) (T := TX3) (N := 13) hx hb hg inX3 tyX3 tyX3_ok nmX3 hown hK hP hD hS (72 + gi) (xgComp hgi) rfl 10 (by decide) (hnw.use 536 n536 rfl) (fun _ h9 => h9) rfl (tyX3_ok 10 (by decide)) rfl rfl (Nat.le_of_ble_eq_true rfl) dX1_readExtras_124 (fun H locs hP hD hS => ?_)
                obtain ⟨V228, hV228⟩ : ∃ z, z = up2 V223 55 gi (V223 1 8) := ⟨_, rfl⟩
                have ew229 : (xw ad kk V223 L224 Z).set (72 + gi) ((ad (72 + gi)), .inr (3, (xfComp ad V223 gi).set 10 (.int (V223 1 8)))) = xw ad kk V228 L224 Z := by rw [hV228]; exact xpComp_whenValue hgi
                have hP : va_P D vwCl (xw ad kk V228 L224 Z) H := by rw [← ew229]; exact hP
                have hD : va_D A (xw ad kk V228 L224 Z) := by rw [← ew229]; exact hD
                have hMV228 : rgd bX V228 := hMV223.put hV228 (i_full _)
                have agV228 : agr [(1, 3), (1, 6), (1, 8), (6, 8), (6, 9), (6, 10)] [43, 44, 52, 53, 54, 55] V V228 := agV223.up hV228 rfl
                have fwV228 : frX (xR b) V V228 := frX.up fwV223 hV228 (Or.inr ⟨(by show 24 * b ≤ gi; first | exact om_ef8c008e8399 hgl | first | omega | ((try (have i_t221 := Imp.go t221 (imp_a (rgz218.1) (rgz218.2) (f227)))); (try (have i_t208 := Imp.go t208 (imp_a (rgz205.1) (rgz205.2) (f214)))); (try (have i_t184 := Imp.go t184 (imp_a (rgz181.1) (rgz181.2) (f190)))); omega) | ((try (have i_t222 := Imp.go t222 (by omega))); (try (have i_t221 := Imp.go t221 (by omega))); (try (have i_t209 := Imp.go t209 (by omega))); (try (have i_t208 := Imp.go t208 (by omega))); first | omega | ((try (have i_t185 := Imp.go t185 (by omega))); (try (have i_t184 := Imp.go t184 (by omega))); (try (have i_t116 := Imp.go t116 (by omega))); (try (have i_t116 := Imp.go t116 (by omega))); first | omega | ((try (have i_t184 := Imp.go t184 (by omega))); (try (have i_t185 := Imp.go t185 (by omega))); (try (have i_t208 := Imp.go t208 (by omega))); (try (have i_t209 := Imp.go t209 (by omega))); (try (have i_t221 := Imp.go t221 (by omega))); (try (have i_t222 := Imp.go t222 (by omega))); omega)))), (by show gi < 24 * b + 24; first | exact om_8af120267f01 hgh | first | omega | ((try (have i_t221 := Imp.go t221 (imp_a (rgz218.1) (rgz218.2) (f227)))); (try (have i_t208 := Imp.go t208 (imp_a (rgz205.1) (rgz205.2) (f214)))); (try (have i_t184 := Imp.go t184 (imp_a (rgz181.1) (rgz181.2) (f190)))); omega) | ((try (have i_t222 := Imp.go t222 (by omega))); (try (have i_t221 := Imp.go t221 (by omega))); (try (have i_t209 := Imp.go t209 (by omega))); (try (have i_t208 := Imp.go t208 (by omega))); first | omega | ((try (have i_t185 := Imp.go t185 (by omega))); (try (have i_t184 := Imp.go t184 (by omega))); (try (have i_t116 := Imp.go t116 (by omega))); (try (have i_t116 := Imp.go t116 (by omega))); first | omega | ((try (have i_t184 := Imp.go t184 (by omega))); (try (have i_t185 := Imp.go t185 (by omega))); (try (have i_t208 := Imp.go t208 (by omega))); (try (have i_t209 := Imp.go t209 (by omega))); (try (have i_t221 := Imp.go t221 (by omega))); (try (have i_t222 := Imp.go t222 (by omega))); omega))))⟩)
                refine lv_iconst (v := 1) hx hb dX1_readExtras_127 (by decide) ?_
                have pq230 : (V228 1 3).toInt = ((V223 1 3)).toInt := congrArg Int32.toInt (up2_o hV228 (by decide))
                have px231 : px V V117 b := px.tr (px.rf : px V V b) t115
                have px232 : px V V228 b := px.tr px231 (px.ag (show agr [(1, 3), (1, 6), (1, 8), (6, 8), (6, 9), (6, 10)] [52, 53, 54, 55] V117 V228 from (agr.up (agr.tr (agr.up (agr.tr (agr.tr (agr.up (agr.tr (agr.tr (agr.up agr.rf hV122 rfl) ajV177 (by decide) (by decide)) ajV186 (by decide) (by decide)) hV191 rfl) ajV202 (by decide) (by decide)) ajV210 (by decide) (by decide)) hV215 rfl) ajV223 (by decide) (by decide)) hV228 rfl)) (fun _ => rfl) (fun _ => rfl) (fun _ => rfl))
                exact W.zret (v := 1) hx hb hr rfl (fun t ht hW => ⟨⟨1, (V228, L224), rfl, ⟨hMV228, agV228, alL224, fwV228, (by decide), px232, (Imp.mk (fun hp => absurd hp (by decide)))⟩, by rw [ht]; exact hP, va_K.moved hW.alike hK, hD⟩, hS.F ht⟩) hS.2.2 dX1_readExtras_128
              · skip
                have f233 : z218.toInt = 0 := b_eq rfl (by decide) c226
                refine lv_iconst (v := 0) hx hb dX1_readExtras_117 (by decide) ?_
                have px234 : px V V117 b := px.tr (px.rf : px V V b) t115
                have px235 : px V V223 b := px.tr px234 (px.ag (show agr [(1, 3), (1, 6), (1, 8), (6, 8), (6, 9), (6, 10)] [52, 53, 54] V117 V223 from (agr.tr (agr.up (agr.tr (agr.tr (agr.up (agr.tr (agr.tr (agr.up agr.rf hV122 rfl) ajV177 (by decide) (by decide)) ajV186 (by decide) (by decide)) hV191 rfl) ajV202 (by decide) (by decide)) ajV210 (by decide) (by decide)) hV215 rfl) ajV223 (by decide) (by decide))) (fun _ => rfl) (fun _ => rfl) (fun _ => rfl))
                exact W.zret (v := 0) hx hb hr rfl (fun t ht hW => ⟨⟨0, (V223, L224), rfl, ⟨hMV223, agV223, alL224, fwV223, (by decide), px235, (Imp.mk (fun _ => (show 1 ≤ (V223 1 3).toInt from by first | exact om_f8d8213eda45 ((Imp.go t222 (f233))) | first | omega | ((try (have i_t222 := Imp.go t222 (f233))); (try (have i_t208 := Imp.go t208 (imp_a (rgz205.1) (rgz205.2) (f214)))); (try (have i_t184 := Imp.go t184 (imp_a (rgz181.1) (rgz181.2) (f190)))); omega) | ((try (have i_t222 := Imp.go t222 (by omega))); (try (have i_t221 := Imp.go t221 (by omega))); (try (have i_t209 := Imp.go t209 (by omega))); (try (have i_t208 := Imp.go t208 (by omega))); first | omega | ((try (have i_t185 := Imp.go t185 (by omega))); (try (have i_t184 := Imp.go t184 (by omega))); (try (have i_t116 := Imp.go t116 (by omega))); (try (have i_t116 := Imp.go t116 (by omega))); first | omega | ((try (have i_t184 := Imp.go t184 (by omega))); (try (have i_t185 := Imp.go t185 (by omega))); (try (have i_t208 := Imp.go t208 (by omega))); (try (have i_t209 := Imp.go t209 (by omega))); (try (have i_t221 := Imp.go t221 (by omega))); (try (have i_t222 := Imp.go t222 (by omega))); omega))))))⟩, by rw [ht]; exact hP, va_K.moved hW.alike hK, hD⟩, hS.F ht⟩) hS.2.2 dX1_readExtras_118
            · skip
              have f236 : z205.toInt = 0 := b_eq rfl (by decide) c213
              refine lv_iconst (v := 0) hx hb dX1_readExtras_97 (by decide) ?_
              have px237 : px V V117 b := px.tr (px.rf : px V V b) t115
              have px238 : px V V210 b := px.tr px237 (px.ag (show agr [(1, 3), (1, 6), (1, 8), (6, 8), (6, 9), (6, 10)] [52, 53] V117 V210 from (agr.tr (agr.tr (agr.up (agr.tr (agr.tr (agr.up agr.rf hV122 rfl) ajV177 (by decide) (by decide)) ajV186 (by decide) (by decide)) hV191 rfl) ajV202 (by decide) (by decide)) ajV210 (by decide) (by decide))) (fun _ => rfl) (fun _ => rfl) (fun _ => rfl))
              exact W.zret (v := 0) hx hb hr rfl (fun t ht hW => ⟨⟨0, (V210, L211), rfl, ⟨hMV210, agV210, alL211, fwV210, (by decide), px238, (Imp.mk (fun _ => (show 1 ≤ (V210 1 3).toInt from by first | exact om_f8d8213eda45 ((Imp.go t209 (f236))) | first | omega | ((try (have i_t209 := Imp.go t209 (f236))); (try (have i_t184 := Imp.go t184 (imp_a (rgz181.1) (rgz181.2) (f190)))); omega) | ((try (have i_t209 := Imp.go t209 (by omega))); (try (have i_t208 := Imp.go t208 (by omega))); (try (have i_t185 := Imp.go t185 (by omega))); (try (have i_t184 := Imp.go t184 (by omega))); first | omega | ((try (have i_t116 := Imp.go t116 (by omega))); (try (have i_t116 := Imp.go t116 (by omega))); (try (have i_t184 := Imp.go t184 (by omega))); (try (have i_t185 := Imp.go t185 (by omega))); (try (have i_t208 := Imp.go t208 (by omega))); (try (have i_t209 := Imp.go t209 (by omega))); omega)))))⟩, by rw [ht]; exact hP, va_K.moved hW.alike hK, hD⟩, hS.F ht⟩) hS.2.2 dX1_readExtras_98
        · skip
          have f239 : z181.toInt = 0 := b_eq rfl (by decide) c189
          refine lv_iconst (v := 0) hx hb dX1_readExtras_60 (by decide) ?_
          have px240 : px V V117 b := px.tr (px.rf : px V V b) t115
          have px241 : px V V186 b := px.tr px240 (px.ag (show agr [(1, 3), (1, 8), (6, 8), (6, 9), (6, 10)] [52] V117 V186 from (agr.tr (agr.tr (agr.up agr.rf hV122 rfl) ajV177 (by decide) (by decide)) ajV186 (by decide) (by decide))) (fun _ => rfl) (fun _ => rfl) (fun _ => rfl))
          exact W.zret (v := 0) hx hb hr rfl (fun t ht hW => ⟨⟨0, (V186, L187), rfl, ⟨hMV186, agV186, alL187, fwV186, (by decide), px241, (Imp.mk (fun _ => (show 1 ≤ (V186 1 3).toInt from by first | exact om_f8d8213eda45 ((Imp.go t185 (f239))) | first | omega | ((try (have i_t185 := Imp.go t185 (by omega))); (try (have i_t184 := Imp.go t184 (by omega))); (try (have i_t116 := Imp.go t116 (by omega))); (try (have i_t116 := Imp.go t116 (by omega))); (try (have i_t184 := Imp.go t184 (by omega))); (try (have i_t185 := Imp.go t185 (by omega))); omega))))⟩, by rw [ht]; exact hP, va_K.moved hW.alike hK, hD⟩, hS.F ht⟩) hS.2.2 dX1_readExtras_61
    · skip
      have f242 : z112.toInt = 0 := b_eq rfl (by decide) c119
      refine lv_iconst (v := 0) hx hb dX1_readExtras_20 (by decide) ?_
      have px243 : px V V117 b := px.tr (px.rf : px V V b) t115
      exact W.zret (v := 0) hx hb hr rfl (fun t ht hW => ⟨⟨0, (V117, L118), rfl, ⟨hMV117, agV117, alL118, fwV117, (by decide), px243, (Imp.mk (fun _ => (show 1 ≤ (V117 1 3).toInt from by first | exact om_f8d8213eda45 ((Imp.go t116 (f242))) | first | omega | ((try (have i_t116 := Imp.go t116 (by omega))); omega))))⟩, by rw [ht]; exact hP, va_K.moved hW.alike hK, hD⟩, hS.F ht⟩) hS.2.2 dX1_readExtras_21
abbrev r_x_readSetting : Room := { frames := 3, cells := 0, slots := 0, locals := 65 }
abbrev q_x_readSetting (D : va_G) (ks : KS) (ad : Nat → Nat) (kk : Nat → ClassId) (V : Vf) (L : Lf) (Z : XZ) (b : Nat) (A : Nat → Prop) : Array Value → State → Outcome → State → Prop := va_Qi (fun (r : Int32) (u : Vf × Lf) => rgd bX u.1 ∧ agr [(1, 3), (1, 8), (6, 8), (6, 9), (6, 10)] [43, 44, 46] V u.1 ∧ agL [1, 6, 44] L u.2 ∧ frX (xR b) V u.1 ∧ (0 ≤ r.toInt ∧ r.toInt ≤ 1) ∧ (TX u.1 b) ∧ (CD u.1 b) ∧ (px V u.1 b) ∧ (Imp (r.toInt = 0) (1 ≤ (u.1 1 3).toInt))) (fun u t => gq D A (xw ad kk u.1 u.2 Z) (xty kk Z) t) A
set_option maxHeartbeats 4000000 in
set_option maxRecDepth 100000 in
theorem x_readSetting (l : Launch) (D : va_G) (ks : KS) (sz : Nat) (ad : Nat → Nat) (kk : Nat → ClassId) (V : Vf) (L : Lf) (Z : XZ) (b : Nat) (hMV : rgd bX V) (hb2 : b < 2) (rbk : (V 1 1).toInt = (b : Int)) (cd : CD V b) (tx : TX V b)  : Met l yX1_readSetting (Cond.code yX1_readSetting cX1_readSetting 4 (some .boolean) :: GW) r_x_readSetting (va_Pc [.ref (ad 1)] (gp D ks (xw ad kk V L Z) (xty kk Z) sz)) (q_x_readSetting D ks ad kk V L Z  b (va_A (xw ad kk V L Z) sz)) 0 0 (va_A (xw ad kk V L Z) sz) := by
  refine g_met (q_x_readSetting D ks ad kk V L Z  b) (by decide) (Nat.le_of_ble_eq_true rfl) ?_
  intro p e s m below meth c A ls H locs hx hb hr hml hown hg hlocks hin hnw hgk hP hK hD hS hA hl
  have hown : s.vm.findClass RX1 = some m.cls := hown
  have hl : lv_has ls 4 [(0, .ref (ad 1))] := hl
  have hP : va_P D vwCl (xw ad kk V L Z) H := hP
  have hD : va_D A (xw ad kk V L Z) := hD
  have hK : va_K D vwCl (xty kk Z) s := hK
  have agV : agr [(1, 3), (1, 8), (6, 8), (6, 9), (6, 10)] [43, 44, 46] V V := agr.rf
  have alL : agL [1, 6, 44] L L := agL.rf
  have fwV : frX (xR b) V V := frX.rf
  have r1 : (-1) ≤ ((V 1 1)).toInt ∧ ((V 1 1)).toInt ≤ 1 := hMV 1 1
  refine lv_aload_n hx hb dX1_readSetting_0 rfl (lv_at hl 0 rfl) ?_
  refine va_get (D := D) (ci := 1) (v := rfN ad 38 (V 1 1)) (fs := (xfReader ad V L Z)) (C := RX1) (T := TX1) (N := 9) hx hb hg inX1 hown hK hP 1 xgReader rfl 1 (by decide) (hg _ w305) (fun _ h9 => h9) rfl dX1_readSetting_1 ?_
  refine g_topv (v := .ref (ad (38 + b))) (rfN_r (by first | omega | ((try (have i_tx := Imp.go tx (by omega))); (try (have i_cd := Imp.go cd (by omega))); (try (have i_cd := Imp.go cd (by omega))); (try (have i_tx := Imp.go tx (by omega))); omega))) ?_
  refine va_getN (D := D) (ci := 0) (v := .ref (ad (40 + (5 * b + 1)))) (fs := (xfBook ad V b)) (C := RX0) (T := TX0) (N := 13) hx hb hg inX0 hown hK hP (38 + b) (xgBook hb2) rfl 1 (by decide) (hnw.use 597 n597 rfl) (fun _ h9 => h9) rfl dX1_readSetting_4 ?_
  have il2 : (5 * b + 1) < 10 := by first | exact om_3891d7acfde9 hb2 | first | omega | ((try (have i_tx := Imp.go tx (by omega))); (try (have i_cd := Imp.go cd (by omega))); (try (have i_cd := Imp.go cd (by omega))); (try (have i_tx := Imp.go tx (by omega))); omega)
  refine gA_int (gA_runV (As := []) (rest := []) (ci := 6) (q0 := (40 + (5 * b + 1))) hx hb hml hown hg hP hD hK hS hA hnw hgk (x_isFull l D ks H.size ad kk V L Z ((5 * b + 1)) hMV (show (5 * b + 1) < 10 from by first | exact om_3891d7acfde9 hb2 | first | omega | ((try (have i_tx := Imp.go tx (by omega))); (try (have i_cd := Imp.go cd (by omega))); (try (have i_cd := Imp.go cd (by omega))); (try (have i_tx := Imp.go tx (by omega))); omega))) w863 w864 w865 w168 w866 rfl (xgNames il2) hdV_yX6_isFull ⟨Nat.le_of_ble_eq_true rfl, Nat.le_of_ble_eq_true rfl⟩ rfl hl.1 rfl (Nat.le_of_ble_eq_true rfl) dX1_readSetting_7 ⟨Nat.le_of_ble_eq_true rfl, Nat.le_of_ble_eq_true rfl⟩) hP hD hK hS hA (fun z3 u4 H locs w5 hP hD hK hS => ?_)
  obtain ⟨rgz3, t6⟩ := w5
  have rgz3 : 0 ≤ z3.toInt ∧ z3.toInt ≤ 1 := rgz3
  have t6 : Imp (z3.toInt = 0) ((V 43 (5 * b + 1)).toInt < ((xcap (5 * b + 1) : Nat) : Int)) := t6
  refine lv_if_eq (tgt := 19) hx hb dX1_readSetting_10 (by decide) (fun c7 => ?_) (fun c7 => ?_)
  · skip
    have f8 : z3.toInt = 0 := b_eq rfl (by decide) c7
    refine lv_aload_n hx hb dX1_readSetting_19 rfl (lv_at hl 0 rfl) ?_
    refine va_get (D := D) (ci := 1) (v := .ref (ad 6)) (fs := (xfReader ad V L Z)) (C := RX1) (T := TX1) (N := 9) hx hb hg inX1 hown hK hP 1 xgReader rfl 0 (by decide) (hg _ w304) (fun _ h9 => h9) rfl dX1_readSetting_20 ?_
    refine gA_void (gA_runV (As := []) (rest := []) (ci := 9) (q0 := 6) hx hb hml hown hg hP hD hK hS hA hnw hgk (x_next l D ks H.size ad kk V L Z  hMV ) w871 w852 w853 w157 w854 rfl xgTape hdV_yX9_next ⟨Nat.le_of_ble_eq_true rfl, Nat.le_of_ble_eq_true rfl⟩ rfl hl.1 rfl (Nat.le_of_ble_eq_true rfl) dX1_readSetting_23 ⟨Nat.le_of_ble_eq_true rfl, Nat.le_of_ble_eq_true rfl⟩) hP hD hK hS hA (fun u10 H locs w11 hP hD hK hS => ?_)
    obtain ⟨V12, L13⟩ := u10
    obtain ⟨hMV12, ajV12, axL13⟩ := w11
    have alL13 : agL [1, 6, 44] L L13 := agL.tr alL axL13 (by decide)
    have hP : va_P D vwCl (xw ad kk V12 L13 Z) H := hP
    have hD : va_D A (xw ad kk V12 L13 Z) := hD
    have hMV12 : rgd bX V12 := hMV12
    have ajV12 : agr [(6, 8), (6, 9), (6, 10)] [] V V12 := ajV12
    have agV12 : agr [(1, 3), (1, 8), (6, 8), (6, 9), (6, 10)] [43, 44, 46] V V12 := agV.tr ajV12 (by decide) (by decide)
    have fwV12 : frX (xR b) V V12 := frX.tr fwV (frX.ag ajV12 (by decide) (by decide))
    refine lv_aload_n hx hb dX1_readSetting_26 rfl (lv_at hl 0 rfl) ?_
    have pq14 : (V12 1 1).toInt = ((V 1 1)).toInt := congrArg Int32.toInt (ajV12 1 1 rfl)
    refine gA_int (gA_runV (As := []) (rest := []) (ci := 1) (q0 := 1) hx hb hml hown hg hP hD hK hS hA hnw hgk (x_takeNewName l D ks H.size ad kk V12 L13 Z (b) hMV12 (show b < 2 from by first | exact om_f940a4667dd6 hb2 | first | omega | ((try (have i_t6 := Imp.go t6 (by omega))); (try (have i_tx := Imp.go tx (by omega))); (try (have i_cd := Imp.go cd (by omega))); (try (have i_cd := Imp.go cd (by omega))); (try (have i_tx := Imp.go tx (by omega))); (try (have i_t6 := Imp.go t6 (by omega))); omega)) (show (V12 1 1).toInt = (b : Int) from by first | exact om_adf531c77a0d rbk pq14 | first | omega | ((try (have i_t6 := Imp.go t6 (by omega))); (try (have i_tx := Imp.go tx (by omega))); (try (have i_cd := Imp.go cd (by omega))); (try (have i_cd := Imp.go cd (by omega))); (try (have i_tx := Imp.go tx (by omega))); (try (have i_t6 := Imp.go t6 (by omega))); omega))) w872 w874 w7 w162 w875 rfl xgReader hdV_yX1_takeNewName ⟨Nat.le_of_ble_eq_true rfl, Nat.le_of_ble_eq_true rfl⟩ rfl hl.1 rfl (Nat.le_of_ble_eq_true rfl) dX1_readSetting_27 ⟨Nat.le_of_ble_eq_true rfl, Nat.le_of_ble_eq_true rfl⟩) hP hD hK hS hA (fun z15 u16 H locs w17 hP hD hK hS => ?_)
    obtain ⟨V19, L20⟩ := u16
    obtain ⟨hMV19, ajV19, axL20, rgz15, t18⟩ := w17
    have alL20 : agL [1, 6, 44] L L20 := agL.tr alL13 axL20 (by decide)
    have hP : va_P D vwCl (xw ad kk V19 L20 Z) H := hP
    have hD : va_D A (xw ad kk V19 L20 Z) := hD
    have hMV19 : rgd bX V19 := hMV19
    have ajV19 : agr [(1, 3), (6, 8), (6, 9), (6, 10)] [] V12 V19 := ajV19
    have agV19 : agr [(1, 3), (1, 8), (6, 8), (6, 9), (6, 10)] [43, 44, 46] V V19 := agV12.tr ajV19 (by decide) (by decide)
    have fwV19 : frX (xR b) V V19 := frX.tr fwV12 (frX.ag ajV19 (by decide) (by decide))
    have rgz15 : 0 ≤ z15.toInt ∧ z15.toInt ≤ 1 := rgz15
    have t18 : Imp (z15.toInt = 0) (1 ≤ (V19 1 3).toInt) := t18
    refine lv_if_ne (tgt := 35) hx hb dX1_readSetting_30 (by decide) (fun c21 => ?_) (fun c21 => ?_)
    · skip
      have f22 : z15.toInt ≠ 0 := b_neq rfl (by decide) c21
      refine lv_aload_n hx hb dX1_readSetting_35 rfl (lv_at hl 0 rfl) ?_
      refine va_get (D := D) (ci := 1) (v := .long (L20 1 5)) (fs := (xfReader ad V19 L20 Z)) (C := RX1) (T := TX1) (N := 9) hx hb hg inX1 hown hK hP 1 xgReader rfl 5 (by decide) (hg _ w309) (fun _ h9 => h9) rfl dX1_readSetting_36 ?_
      refine lv_topl (fun w23 ew23 => ?_)
      refine lv_lstore_n (lv' := [(1, .long w23), (0, .ref (ad 1))]) hx hb dX1_readSetting_39 rfl hl (by decide) rfl (fun ls hl => ?_)
      refine lv_aload_n hx hb dX1_readSetting_40 rfl (lv_at hl 1 rfl) ?_
      refine lv_iconst (v := 0) hx hb dX1_readSetting_41 (by decide) ?_
      refine lv_ldc (v := 999999999) hx hb hown (hg _ w905) dX1_readSetting_42 ?_
      have r24 : Int32.toInt 0 = 0 := by decide
      have r25 : Int32.toInt 999999999 = 999999999 := by decide
      refine gA_int (gA_runV (As := [.int 0, .int 999999999]) (rest := []) (ci := 1) (q0 := 1) hx hb hml hown hg hP hD hK hS hA hnw hgk (x_takeNumber l D ks H.size ad kk V19 L20 Z 0 999999999 hMV19 (show 0 ≤ (Int32.toInt 0) from by first | exact om_1531b20f57e1 r24 | first | omega | ((try (have i_t6 := Imp.go t6 (f8))); omega) | ((try (have i_t18 := Imp.go t18 (by omega))); (try (have i_t6 := Imp.go t6 (by omega))); (try (have i_tx := Imp.go tx (by omega))); (try (have i_cd := Imp.go cd (by omega))); first | omega | ((try (have i_cd := Imp.go cd (by omega))); (try (have i_tx := Imp.go tx (by omega))); (try (have i_t6 := Imp.go t6 (by omega))); (try (have i_t18 := Imp.go t18 (by omega))); omega))) (show (Int32.toInt 999999999) ≤ 999999999 from by first | exact om_ffff025b4caa r25 | first | omega | ((try (have i_t6 := Imp.go t6 (f8))); omega) | ((try (have i_t18 := Imp.go t18 (by omega))); (try (have i_t6 := Imp.go t6 (by omega))); (try (have i_tx := Imp.go tx (by omega))); (try (have i_cd := Imp.go cd (by omega))); first | omega | ((try (have i_cd := Imp.go cd (by omega))); (try (have i_tx := Imp.go tx (by omega))); (try (have i_t6 := Imp.go t6 (by omega))); (try (have i_t18 := Imp.go t18 (by omega))); omega)))) w906 w908 w12 w162 w909 rfl xgReader hdV_yX1_takeNumber ⟨Nat.le_of_ble_eq_true rfl, Nat.le_of_ble_eq_true rfl⟩ rfl hl.1 rfl (Nat.le_of_ble_eq_true rfl) dX1_readSetting_44 ⟨Nat.le_of_ble_eq_true rfl, Nat.le_of_ble_eq_true rfl⟩) hP hD hK hS hA (fun z26 u27 H locs w28 hP hD hK hS => ?_)
      obtain ⟨V31, L32⟩ := u27
      obtain ⟨hMV31, ajV31, axL32, rgz26, t29, t30⟩ := w28
      have alL32 : agL [1, 6, 44] L L32 := agL.tr alL20 axL32 (by decide)
      have hP : va_P D vwCl (xw ad kk V31 L32 Z) H := hP
      have hD : va_D A (xw ad kk V31 L32 Z) := hD
      have hMV31 : rgd bX V31 := hMV31
      have ajV31 : agr [(1, 3), (1, 8), (6, 8), (6, 9), (6, 10)] [] V19 V31 := ajV31
      have agV31 : agr [(1, 3), (1, 8), (6, 8), (6, 9), (6, 10)] [43, 44, 46] V V31 := agV19.tr ajV31 (by decide) (by decide)
      have fwV31 : frX (xR b) V V31 := frX.tr fwV19 (frX.ag ajV31 (by decide) (by decide))
      have rgz26 : 0 ≤ z26.toInt ∧ z26.toInt ≤ 1 := rgz26
      have t29 : Imp (z26.toInt = 1) ((Int32.toInt 0) ≤ (V31 1 8).toInt ∧ (V31 1 8).toInt ≤ (Int32.toInt 999999999)) := t29
      have t30 : Imp (z26.toInt = 0) (1 ≤ (V31 1 3).toInt) := t30
      have r33 : 0 ≤ ((V31 1 8)).toInt ∧ ((V31 1 8)).toInt ≤ 999999999 := hMV31 1 8
      refine lv_if_eq (tgt := 59) hx hb dX1_readSetting_47 (by decide) (fun c34 => ?_) (fun c34 => ?_)
      · skip
        have f35 : z26.toInt = 0 := b_eq rfl (by decide) c34
        refine lv_iconst (v := 0) hx hb dX1_readSetting_59 (by decide) ?_
        have px36 : px V V31 b := px.tr (px.rf : px V V b) (px.ag (show agr [(1, 3), (1, 8), (6, 8), (6, 9), (6, 10)] [] V V31 from (agr.tr (agr.tr (agr.tr agr.rf ajV12 (by decide) (by decide)) ajV19 (by decide) (by decide)) ajV31 (by decide) (by decide))) (fun _ => rfl) (fun _ => rfl) (fun _ => rfl))
        have tx37 : TX V31 b := TX.ag tx (show agr [(1, 3), (1, 8), (6, 8), (6, 9), (6, 10)] [] V V31 from (agr.tr (agr.tr (agr.tr agr.rf ajV12 (by decide) (by decide)) ajV19 (by decide) (by decide)) ajV31 (by decide) (by decide))) px36 (fun _ => rfl) (fun _ => rfl) (fun _ => rfl) (fun _ => rfl) (fun _ => rfl) (fun _ => rfl)
        have cd38 : CD V31 b := ⟨CB.ag cd.1 (show agr [(1, 3), (1, 8), (6, 8), (6, 9), (6, 10)] [] V V31 from (agr.tr (agr.tr (agr.tr agr.rf ajV12 (by decide) (by decide)) ajV19 (by decide) (by decide)) ajV31 (by decide) (by decide))) (fun _ => rfl) (fun _ => rfl), CO.ag cd.2 (show agr [(1, 3), (1, 8), (6, 8), (6, 9), (6, 10)] [] V V31 from (agr.tr (agr.tr (agr.tr agr.rf ajV12 (by decide) (by decide)) ajV19 (by decide) (by decide)) ajV31 (by decide) (by decide))) (fun _ => rfl) (fun _ => rfl)⟩
        have px39 : px V V31 b := px.tr (px.rf : px V V b) (px.ag (show agr [(1, 3), (1, 8), (6, 8), (6, 9), (6, 10)] [] V V31 from (agr.tr (agr.tr (agr.tr agr.rf ajV12 (by decide) (by decide)) ajV19 (by decide) (by decide)) ajV31 (by decide) (by decide))) (fun _ => rfl) (fun _ => rfl) (fun _ => rfl))
        exact W.zret (v := 0) hx hb hr rfl (fun t ht hW => ⟨⟨0, (V31, L32), rfl, ⟨hMV31, agV31, alL32, fwV31, (by decide), tx37, cd38, px39, (Imp.mk (fun _ => (show 1 ≤ (V31 1 3).toInt from by first | exact om_f8d8213eda45 ((Imp.go t30 (f35))) | first | omega | ((try (have i_t30 := Imp.go t30 (f35))); (try (have i_t6 := Imp.go t6 (f8))); omega) | ((try (have i_t30 := Imp.go t30 (by omega))); (try (have i_t29 := Imp.go t29 (by omega))); (try (have i_t18 := Imp.go t18 (by omega))); (try (have i_t6 := Imp.go t6 (by omega))); first | omega | ((try (have i_tx := Imp.go tx (by omega))); (try (have i_cd := Imp.go cd (by omega))); (try (have i_cd := Imp.go cd (by omega))); (try (have i_tx := Imp.go tx (by omega))); first | omega | ((try (have i_t6 := Imp.go t6 (by omega))); (try (have i_t18 := Imp.go t18 (by omega))); (try (have i_t29 := Imp.go t29 (by omega))); (try (have i_t30 := Imp.go t30 (by omega))); omega))))))⟩, by rw [ht]; exact hP, va_K.moved hW.alike hK, hD⟩, hS.F ht⟩) hS.2.2 dX1_readSetting_60
      · skip
        have f40 : z26.toInt ≠ 0 := b_neq rfl (by decide) c34
        refine lv_aload_n hx hb dX1_readSetting_50 rfl (lv_at hl 1 rfl) ?_
        refine lv_bipush (v := 59) hx hb dX1_readSetting_51 (by decide) ?_
        have r41 : Int32.toInt 59 = 59 := by decide
        refine gA_int (gA_runV (As := [.int 59]) (rest := []) (ci := 1) (q0 := 1) hx hb hml hown hg hP hD hK hS hA hnw hgk (x_take l D ks H.size ad kk V31 L32 Z 59 hMV31 ) w893 w895 w10 w162 w896 rfl xgReader hdV_yX1_take ⟨Nat.le_of_ble_eq_true rfl, Nat.le_of_ble_eq_true rfl⟩ rfl hl.1 rfl (Nat.le_of_ble_eq_true rfl) dX1_readSetting_53 ⟨Nat.le_of_ble_eq_true rfl, Nat.le_of_ble_eq_true rfl⟩) hP hD hK hS hA (fun z42 u43 H locs w44 hP hD hK hS => ?_)
        obtain ⟨V46, L47⟩ := u43
        obtain ⟨hMV46, ajV46, axL47, rgz42, t45⟩ := w44
        have alL47 : agL [1, 6, 44] L L47 := agL.tr alL32 axL47 (by decide)
        have hP : va_P D vwCl (xw ad kk V46 L47 Z) H := hP
        have hD : va_D A (xw ad kk V46 L47 Z) := hD
        have hMV46 : rgd bX V46 := hMV46
        have ajV46 : agr [(1, 3), (6, 8), (6, 9), (6, 10)] [] V31 V46 := ajV46
        have agV46 : agr [(1, 3), (1, 8), (6, 8), (6, 9), (6, 10)] [43, 44, 46] V V46 := agV31.tr ajV46 (by decide) (by decide)
        have fwV46 : frX (xR b) V V46 := frX.tr fwV31 (frX.ag ajV46 (by decide) (by decide))
        have rgz42 : 0 ≤ z42.toInt ∧ z42.toInt ≤ 1 := rgz42
        have t45 : Imp (z42.toInt = 0) (1 ≤ (V46 1 3).toInt) := t45
        refine lv_if_ne (tgt := 61) hx hb dX1_readSetting_56 (by decide) (fun c48 => ?_) (fun c48 => ?_)
        · skip
          have f49 : z42.toInt ≠ 0 := b_neq rfl (by decide) c48
          refine lv_aload_n hx hb dX1_readSetting_61 rfl (lv_at hl 1 rfl) ?_
          refine va_get (D := D) (ci := 1) (v := rfN ad 38 (V46 1 1)) (fs := (xfReader ad V46 L47 Z)) (C := RX1) (T := TX1) (N := 9) hx hb hg inX1 hown hK hP 1 xgReader rfl 1 (by decide) (hg _ w305) (fun _ h9 => h9) rfl dX1_readSetting_62 ?_
          have pq50 : (V46 1 1).toInt = ((V 1 1)).toInt := congrArg Int32.toInt ((ajV46 1 1 rfl).trans ((ajV31 1 1 rfl).trans ((ajV19 1 1 rfl).trans (ajV12 1 1 rfl))))
          refine g_topv (v := .ref (ad (38 + b))) (rfN_r (by first | omega | ((try (have i_t29 := Imp.go t29 (imp_a (rgz26.1) (rgz26.2) (f40)))); (try (have i_t6 := Imp.go t6 (f8))); omega) | ((try (have i_t45 := Imp.go t45 (by omega))); (try (have i_t30 := Imp.go t30 (by omega))); (try (have i_t29 := Imp.go t29 (by omega))); (try (have i_t18 := Imp.go t18 (by omega))); first | omega | ((try (have i_t6 := Imp.go t6 (by omega))); (try (have i_tx := Imp.go tx (by omega))); (try (have i_cd := Imp.go cd (by omega))); (try (have i_cd := Imp.go cd (by omega))); first | omega | ((try (have i_tx := Imp.go tx (by omega))); (try (have i_t6 := Imp.go t6 (by omega))); (try (have i_t18 := Imp.go t18 (by omega))); (try (have i_t29 := Imp.go t29 (by omega))); (try (have i_t30 := Imp.go t30 (by omega))); (try (have i_t45 := Imp.go t45 (by omega))); omega))))) ?_
          refine va_getN (D := D) (ci := 0) (v := .ref (ad (40 + (5 * b + 1)))) (fs := (xfBook ad V46 b)) (C := RX0) (T := TX0) (N := 13) hx hb hg inX0 hown hK hP (38 + b) (xgBook hb2) rfl 1 (by decide) (hnw.use 597 n597 rfl) (fun _ h9 => h9) rfl dX1_readSetting_65 ?_
          refine lv_lload_n hx hb dX1_readSetting_68 rfl (lv_at hl 0 rfl) ?_
          refine gA_int (gA_runV (As := [.long w23]) (rest := []) (ci := 6) (q0 := (40 + (5 * b + 1))) hx hb hml hown hg hP hD hK hS hA hnw hgk (x_add l D ks H.size ad kk V46 L47 Z w23 ((5 * b + 1)) hMV46 (show (5 * b + 1) < 10 from by first | exact om_3891d7acfde9 hb2 | first | omega | ((try (have i_t29 := Imp.go t29 (imp_a (rgz26.1) (rgz26.2) (f40)))); (try (have i_t6 := Imp.go t6 (f8))); omega) | ((try (have i_t45 := Imp.go t45 (by omega))); (try (have i_t30 := Imp.go t30 (by omega))); (try (have i_t29 := Imp.go t29 (by omega))); (try (have i_t18 := Imp.go t18 (by omega))); first | omega | ((try (have i_t6 := Imp.go t6 (by omega))); (try (have i_tx := Imp.go tx (by omega))); (try (have i_cd := Imp.go cd (by omega))); (try (have i_cd := Imp.go cd (by omega))); first | omega | ((try (have i_tx := Imp.go tx (by omega))); (try (have i_t6 := Imp.go t6 (by omega))); (try (have i_t18 := Imp.go t18 (by omega))); (try (have i_t29 := Imp.go t29 (by omega))); (try (have i_t30 := Imp.go t30 (by omega))); (try (have i_t45 := Imp.go t45 (by omega))); omega))))) w897 w898 w899 w168 w900 rfl (xgNames il2) hdV_yX6_add ⟨Nat.le_of_ble_eq_true rfl, Nat.le_of_ble_eq_true rfl⟩ rfl hl.1 rfl (Nat.le_of_ble_eq_true rfl) dX1_readSetting_69 ⟨Nat.le_of_ble_eq_true rfl, Nat.le_of_ble_eq_true rfl⟩) hP hD hK hS hA (fun z51 u52 H locs w53 hP hD hK hS => ?_)
          obtain ⟨V57, L58⟩ := u52
          obtain ⟨hMV57, ajV57, axL58, fyV57, rgz51, t54, t55, t56⟩ := w53
          have alL58 : agL [1, 6, 44] L L58 := agL.tr alL47 axL58 (by decide)
          have hP : va_P D vwCl (xw ad kk V57 L58 Z) H := hP
          have hD : va_D A (xw ad kk V57 L58 Z) := hD
          have hMV57 : rgd bX V57 := hMV57
          have ajV57 : agr [] [43, 44] V46 V57 := ajV57
          have agV57 : agr [(1, 3), (1, 8), (6, 8), (6, 9), (6, 10)] [43, 44, 46] V V57 := agV46.tr ajV57 (by decide) (by decide)
          have fwV57 : frX (xR b) V V57 := frX.tr fwV46 (frX_NB fyV57 (by first | omega | ((try (have i_t29 := Imp.go t29 (imp_a (rgz26.1) (rgz26.2) (f40)))); (try (have i_t6 := Imp.go t6 (f8))); omega) | ((try (have i_t45 := Imp.go t45 (by omega))); (try (have i_t30 := Imp.go t30 (by omega))); (try (have i_t29 := Imp.go t29 (by omega))); (try (have i_t18 := Imp.go t18 (by omega))); first | omega | ((try (have i_t6 := Imp.go t6 (by omega))); (try (have i_tx := Imp.go tx (by omega))); (try (have i_cd := Imp.go cd (by omega))); (try (have i_cd := Imp.go cd (by omega))); first | omega | ((try (have i_tx := Imp.go tx (by omega))); (try (have i_t6 := Imp.go t6 (by omega))); (try (have i_t18 := Imp.go t18 (by omega))); (try (have i_t29 := Imp.go t29 (by omega))); (try (have i_t30 := Imp.go t30 (by omega))); (try (have i_t45 := Imp.go t45 (by omega))); omega)))) (by first | omega | ((try (have i_t29 := Imp.go t29 (imp_a (rgz26.1) (rgz26.2) (f40)))); (try (have i_t6 := Imp.go t6 (f8))); omega) | ((try (have i_t45 := Imp.go t45 (by omega))); (try (have i_t30 := Imp.go t30 (by omega))); (try (have i_t29 := Imp.go t29 (by omega))); (try (have i_t18 := Imp.go t18 (by omega))); first | omega | ((try (have i_t6 := Imp.go t6 (by omega))); (try (have i_tx := Imp.go tx (by omega))); (try (have i_cd := Imp.go cd (by omega))); (try (have i_cd := Imp.go cd (by omega))); first | omega | ((try (have i_tx := Imp.go tx (by omega))); (try (have i_t6 := Imp.go t6 (by omega))); (try (have i_t18 := Imp.go t18 (by omega))); (try (have i_t29 := Imp.go t29 (by omega))); (try (have i_t30 := Imp.go t30 (by omega))); (try (have i_t45 := Imp.go t45 (by omega))); omega)))))
          have rgz51 : (-1) ≤ z51.toInt ∧ z51.toInt ≤ 23 := rgz51
          have t54 : z51.toInt < (V57 43 (5 * b + 1)).toInt := t54
          have t55 : Imp ((V46 43 (5 * b + 1)).toInt < ((xcap (5 * b + 1) : Nat) : Int)) (z51.toInt = (V46 43 (5 * b + 1)).toInt ∧ (V57 43 (5 * b + 1)).toInt = (V46 43 (5 * b + 1)).toInt + 1) := t55
          have t56 : (∀ n : Nat, ¬ n = (5 * b + 1) → V57 43 n = V46 43 n) := t56
          have r59 : xcap (5 * b + 1) = 12 := xcap_1
          have sz1 : (V57 43 (5 * b + 1)).toInt ≤ ((xcap (5 * b + 1) : Nat) : Int) := (hMV57 43 (5 * b + 1)).2
          refine lv_istore_n (lv' := [(3, .int z51), (1, .long w23), (0, .ref (ad 1))]) hx hb dX1_readSetting_72 rfl hl (by decide) rfl (fun ls hl => ?_)
          refine lv_iload_n hx hb dX1_readSetting_73 rfl (lv_at hl 0 rfl) ?_
          refine lv_iconst (v := (-1)) hx hb dX1_readSetting_74 (by decide) ?_
          refine lv_icmp_eq (tgt := 91) hx hb dX1_readSetting_75 (by decide) (fun c60 => ?_) (fun c60 => ?_)
          · skip
            have f61 : z51.toInt = (-1) := b_eq rfl (by decide) c60
            refine lv_iconst (v := 1) hx hb dX1_readSetting_91 (by decide) ?_
            have pq62 : (V57 1 3).toInt = ((V46 1 3)).toInt := congrArg Int32.toInt (ajV57 1 3 rfl)
            have px63 : px V V46 b := px.tr (px.rf : px V V b) (px.ag (show agr [(1, 3), (1, 8), (6, 8), (6, 9), (6, 10)] [] V V46 from (agr.tr (agr.tr (agr.tr (agr.tr agr.rf ajV12 (by decide) (by decide)) ajV19 (by decide) (by decide)) ajV31 (by decide) (by decide)) ajV46 (by decide) (by decide))) (fun _ => rfl) (fun _ => rfl) (fun _ => rfl))
            have px64 : px V V57 b := px.tr px63 ⟨p0x.ag ajV57 (fun _ => rfl) (fun _ => rfl), t56 _ (by omega)⟩
            have tx65 : TX V57 b := TX.ag tx (show agr [(1, 3), (1, 8), (6, 8), (6, 9), (6, 10)] [43, 44] V V57 from (agr.tr (agr.tr (agr.tr (agr.tr (agr.tr agr.rf ajV12 (by decide) (by decide)) ajV19 (by decide) (by decide)) ajV31 (by decide) (by decide)) ajV46 (by decide) (by decide)) ajV57 (by decide) (by decide))) px64 (fun _ => rfl) (fun _ => rfl) (fun _ => rfl) (fun _ => rfl) (fun _ => rfl) (fun _ => rfl)
            have cd66 : CD V57 b := ⟨CB.ag cd.1 (show agr [(1, 3), (1, 8), (6, 8), (6, 9), (6, 10)] [43, 44] V V57 from (agr.tr (agr.tr (agr.tr (agr.tr (agr.tr agr.rf ajV12 (by decide) (by decide)) ajV19 (by decide) (by decide)) ajV31 (by decide) (by decide)) ajV46 (by decide) (by decide)) ajV57 (by decide) (by decide))) (fun _ => rfl) (fun _ => rfl), CO.ag cd.2 (show agr [(1, 3), (1, 8), (6, 8), (6, 9), (6, 10)] [43, 44] V V57 from (agr.tr (agr.tr (agr.tr (agr.tr (agr.tr agr.rf ajV12 (by decide) (by decide)) ajV19 (by decide) (by decide)) ajV31 (by decide) (by decide)) ajV46 (by decide) (by decide)) ajV57 (by decide) (by decide))) (fun _ => rfl) (fun _ => rfl)⟩
            have px67 : px V V46 b := px.tr (px.rf : px V V b) (px.ag (show agr [(1, 3), (1, 8), (6, 8), (6, 9), (6, 10)] [] V V46 from (agr.tr (agr.tr (agr.tr (agr.tr agr.rf ajV12 (by decide) (by decide)) ajV19 (by decide) (by decide)) ajV31 (by decide) (by decide)) ajV46 (by decide) (by decide))) (fun _ => rfl) (fun _ => rfl) (fun _ => rfl))
            have px68 : px V V57 b := px.tr px67 ⟨p0x.ag ajV57 (fun _ => rfl) (fun _ => rfl), t56 _ (by omega)⟩
            exact W.zret (v := 1) hx hb hr rfl (fun t ht hW => ⟨⟨1, (V57, L58), rfl, ⟨hMV57, agV57, alL58, fwV57, (by decide), tx65, cd66, px68, (Imp.mk (fun hp => absurd hp (by decide)))⟩, by rw [ht]; exact hP, va_K.moved hW.alike hK, hD⟩, hS.F ht⟩) hS.2.2 dX1_readSetting_92
          · skip
            have f69 : z51.toInt ≠ (-1) := b_neq rfl (by decide) c60
            refine lv_aload_n hx hb dX1_readSetting_78 rfl (lv_at hl 2 rfl) ?_
            refine va_get (D := D) (ci := 1) (v := rfN ad 38 (V57 1 1)) (fs := (xfReader ad V57 L58 Z)) (C := RX1) (T := TX1) (N := 9) hx hb hg inX1 hown hK hP 1 xgReader rfl 1 (by decide) (hg _ w305) (fun _ h9 => h9) rfl dX1_readSetting_79 ?_
            have pq70 : (V57 1 1).toInt = ((V 1 1)).toInt := congrArg Int32.toInt ((ajV57 1 1 rfl).trans ((ajV46 1 1 rfl).trans ((ajV31 1 1 rfl).trans ((ajV19 1 1 rfl).trans (ajV12 1 1 rfl)))))
            refine g_topv (v := .ref (ad (38 + b))) (rfN_r (by first | omega | ((try (have i_t29 := Imp.go t29 (imp_a (rgz26.1) (rgz26.2) (f40)))); (try (have i_t6 := Imp.go t6 (f8))); omega) | ((try (have i_t55 := Imp.go t55 (by omega))); (try (have i_t45 := Imp.go t45 (by omega))); (try (have i_t30 := Imp.go t30 (by omega))); (try (have i_t29 := Imp.go t29 (by omega))); first | omega | ((try (have i_t18 := Imp.go t18 (by omega))); (try (have i_t6 := Imp.go t6 (by omega))); (try (have i_tx := Imp.go tx (by omega))); (try (have i_cd := Imp.go cd (by omega))); first | omega | ((try (have i_cd := Imp.go cd (by omega))); (try (have i_tx := Imp.go tx (by omega))); (try (have i_t6 := Imp.go t6 (by omega))); (try (have i_t18 := Imp.go t18 (by omega))); first | omega | ((try (have i_t29 := Imp.go t29 (by omega))); (try (have i_t30 := Imp.go t30 (by omega))); (try (have i_t45 := Imp.go t45 (by omega))); (try (have i_t55 := Imp.go t55 (by omega))); omega)))))) ?_
            refine va_getN (D := D) (ci := 0) (v := .ref (ad (62 + b))) (fs := (xfBook ad V57 b)) (C := RX0) (T := TX0) (N := 13) hx hb hg inX0 hown hK hP (38 + b) (xgBook hb2) rfl 6 (by decide) (hnw.use 612 n612 rfl) (fun _ h9 => h9) rfl dX1_readSetting_82 ?_
            refine lv_iload_n hx hb dX1_readSetting_85 rfl (lv_at hl 0 rfl) ?_
            refine lv_aload_n hx hb dX1_readSetting_86 rfl (lv_at hl 2 rfl) ?_
            refine va_get (D := D) (ci := 1) (v := .int (V57 1 8)) (fs := (xfReader ad V57 L58 Z)) (C := RX1) (T := TX1) (N := 9) hx hb hg inX1 hown hK hP 1 xgReader rfl 8 (by decide) (hg _ w312) (fun _ h9 => h9) rfl dX1_readSetting_87 ?_
            refine g_top (v := (V31 1 8)) ((ajV57 1 8 rfl).trans (ajV46 1 8 rfl)) ?_
            have il71 : b < 2 := by first | exact om_f940a4667dd6 hb2 | first | omega | ((try (have i_t29 := Imp.go t29 (imp_a (rgz26.1) (rgz26.2) (f40)))); (try (have i_t6 := Imp.go t6 (f8))); omega) | ((try (have i_t55 := Imp.go t55 (by omega))); (try (have i_t45 := Imp.go t45 (by omega))); (try (have i_t30 := Imp.go t30 (by omega))); (try (have i_t29 := Imp.go t29 (by omega))); first | omega | ((try (have i_t18 := Imp.go t18 (by omega))); (try (have i_t6 := Imp.go t6 (by omega))); (try (have i_tx := Imp.go tx (by omega))); (try (have i_cd := Imp.go cd (by omega))); first | omega | ((try (have i_cd := Imp.go cd (by omega))); (try (have i_tx := Imp.go tx (by omega))); (try (have i_t6 := Imp.go t6 (by omega))); (try (have i_t18 := Imp.go t18 (by omega))); first | omega | ((try (have i_t29 := Imp.go t29 (by omega))); (try (have i_t30 := Imp.go t30 (by omega))); (try (have i_t45 := Imp.go t45 (by omega))); (try (have i_t55 := Imp.go t55 (by omega))); omega))))
            refine va_iast (D := D) (i := z51) (x := (V31 1 8)) hx hb hK hP hD hS (62 + b) (55 + b) (xgsettingValues il71) (xtsettingValues il71) (i_in (a := z51.toInt) rfl (by first | exact om_7e4e2cb577c6 rgz51.1 t54 r59 sz1 f69 | first | omega | ((try (have i_t29 := Imp.go t29 (imp_a (rgz26.1) (rgz26.2) (f40)))); (try (have i_t6 := Imp.go t6 (f8))); omega) | ((try (have i_t55 := Imp.go t55 (by omega))); (try (have i_t45 := Imp.go t45 (by omega))); (try (have i_t30 := Imp.go t30 (by omega))); (try (have i_t29 := Imp.go t29 (by omega))); first | omega | ((try (have i_t18 := Imp.go t18 (by omega))); (try (have i_t6 := Imp.go t6 (by omega))); (try (have i_tx := Imp.go tx (by omega))); (try (have i_cd := Imp.go cd (by omega))); first | omega | ((try (have i_cd := Imp.go cd (by omega))); (try (have i_tx := Imp.go tx (by omega))); (try (have i_t6 := Imp.go t6 (by omega))); (try (have i_t18 := Imp.go t18 (by omega))); first | omega | ((try (have i_t29 := Imp.go t29 (by omega))); (try (have i_t30 := Imp.go t30 (by omega))); (try (have i_t45 := Imp.go t45 (by omega))); (try (have i_t55 := Imp.go t55 (by omega))); omega)))))) dX1_readSetting_90 (fun H locs hP hD hS => ?_)
            have kc72 := i_clamp (x := z51) rfl (by first | exact om_e3b1d6ac9ce8 rgz51.1 f69 | first | omega | ((try (have i_t29 := Imp.go t29 (imp_a (rgz26.1) (rgz26.2) (f40)))); (try (have i_t6 := Imp.go t6 (f8))); omega) | ((try (have i_t55 := Imp.go t55 (by omega))); (try (have i_t45 := Imp.go t45 (by omega))); (try (have i_t30 := Imp.go t30 (by omega))); (try (have i_t29 := Imp.go t29 (by omega))); first | omega | ((try (have i_t18 := Imp.go t18 (by omega))); (try (have i_t6 := Imp.go t6 (by omega))); (try (have i_tx := Imp.go tx (by omega))); (try (have i_cd := Imp.go cd (by omega))); first | omega | ((try (have i_cd := Imp.go cd (by omega))); (try (have i_tx := Imp.go tx (by omega))); (try (have i_t6 := Imp.go t6 (by omega))); (try (have i_t18 := Imp.go t18 (by omega))); first | omega | ((try (have i_t29 := Imp.go t29 (by omega))); (try (have i_t30 := Imp.go t30 (by omega))); (try (have i_t45 := Imp.go t45 (by omega))); (try (have i_t55 := Imp.go t55 (by omega))); omega)))))
            have kl73 : (Int32.toNatClampNeg z51) < 12 := by first | exact om_420d6ed4c1b2 t54 r59 sz1 kc72 | first | omega | ((try (have i_t29 := Imp.go t29 (imp_a (rgz26.1) (rgz26.2) (f40)))); (try (have i_t6 := Imp.go t6 (f8))); omega) | ((try (have i_t55 := Imp.go t55 (by omega))); (try (have i_t45 := Imp.go t45 (by omega))); (try (have i_t30 := Imp.go t30 (by omega))); (try (have i_t29 := Imp.go t29 (by omega))); first | omega | ((try (have i_t18 := Imp.go t18 (by omega))); (try (have i_t6 := Imp.go t6 (by omega))); (try (have i_tx := Imp.go tx (by omega))); (try (have i_cd := Imp.go cd (by omega))); first | omega | ((try (have i_cd := Imp.go cd (by omega))); (try (have i_tx := Imp.go tx (by omega))); (try (have i_t6 := Imp.go t6 (by omega))); (try (have i_t18 := Imp.go t18 (by omega))); first | omega | ((try (have i_t29 := Imp.go t29 (by omega))); (try (have i_t30 := Imp.go t30 (by omega))); (try (have i_t45 := Imp.go t45 (by omega))); (try (have i_t55 := Imp.go t55 (by omega))); omega))))
            obtain ⟨V74, hV74⟩ : ∃ z, z = up2 V57 46 (12 * b + (Int32.toNatClampNeg z51)) (V31 1 8) := ⟨_, rfl⟩
            have ew75 : (xw ad kk V57 L58 Z).set (62 + b) ((ad (62 + b)), .inl ((kk (62 + b)), 12, .inl (upd (fun q => if q < 12 then V57 46 (12 * b + q) else 0) (Int32.toNatClampNeg z51) (V31 1 8)))) = xw ad kk V74 L58 Z := by rw [hV74]; exact xpsettingValues il71 kl73
            have hP : va_P D vwCl (xw ad kk V74 L58 Z) H := by rw [← ew75]; exact hP
            have hD : va_D A (xw ad kk V74 L58 Z) := by rw [← ew75]; exact hD
            have hMV74 : rgd bX V74 := hMV57.put hV74 (i_full _)
            have agV74 : agr [(1, 3), (1, 8), (6, 8), (6, 9), (6, 10)] [43, 44, 46] V V74 := agV57.up hV74 rfl
            have fwV74 : frX (xR b) V V74 := frX.up fwV57 hV74 (Or.inr ⟨(by show 12 * b ≤ (12 * b + (Int32.toNatClampNeg z51)); first | exact om_ec2f8ebc05d2 rgz51.1 f69 kc72 | first | omega | ((try (have i_t29 := Imp.go t29 (imp_a (rgz26.1) (rgz26.2) (f40)))); (try (have i_t6 := Imp.go t6 (f8))); omega) | ((try (have i_t55 := Imp.go t55 (by omega))); (try (have i_t45 := Imp.go t45 (by omega))); (try (have i_t30 := Imp.go t30 (by omega))); (try (have i_t29 := Imp.go t29 (by omega))); first | omega | ((try (have i_t18 := Imp.go t18 (by omega))); (try (have i_t6 := Imp.go t6 (by omega))); (try (have i_tx := Imp.go tx (by omega))); (try (have i_cd := Imp.go cd (by omega))); first | omega | ((try (have i_cd := Imp.go cd (by omega))); (try (have i_tx := Imp.go tx (by omega))); (try (have i_t6 := Imp.go t6 (by omega))); (try (have i_t18 := Imp.go t18 (by omega))); first | omega | ((try (have i_t29 := Imp.go t29 (by omega))); (try (have i_t30 := Imp.go t30 (by omega))); (try (have i_t45 := Imp.go t45 (by omega))); (try (have i_t55 := Imp.go t55 (by omega))); omega))))), (by show (12 * b + (Int32.toNatClampNeg z51)) < 12 * b + 12; first | exact om_3e4d81a0c1be t54 r59 sz1 kc72 | first | omega | ((try (have i_t29 := Imp.go t29 (imp_a (rgz26.1) (rgz26.2) (f40)))); (try (have i_t6 := Imp.go t6 (f8))); omega) | ((try (have i_t55 := Imp.go t55 (by omega))); (try (have i_t45 := Imp.go t45 (by omega))); (try (have i_t30 := Imp.go t30 (by omega))); (try (have i_t29 := Imp.go t29 (by omega))); first | omega | ((try (have i_t18 := Imp.go t18 (by omega))); (try (have i_t6 := Imp.go t6 (by omega))); (try (have i_tx := Imp.go tx (by omega))); (try (have i_cd := Imp.go cd (by omega))); first | omega | ((try (have i_cd := Imp.go cd (by omega))); (try (have i_tx := Imp.go tx (by omega))); (try (have i_t6 := Imp.go t6 (by omega))); (try (have i_t18 := Imp.go t18 (by omega))); first | omega | ((try (have i_t29 := Imp.go t29 (by omega))); (try (have i_t30 := Imp.go t30 (by omega))); (try (have i_t45 := Imp.go t45 (by omega))); (try (have i_t55 := Imp.go t55 (by omega))); omega)))))⟩)
            refine lv_iconst (v := 1) hx hb dX1_readSetting_91 (by decide) ?_
            have pq76 : (V74 1 3).toInt = ((V46 1 3)).toInt := congrArg Int32.toInt ((up2_o hV74 (by decide)).trans (ajV57 1 3 rfl))
            have px77 : px V V46 b := px.tr (px.rf : px V V b) (px.ag (show agr [(1, 3), (1, 8), (6, 8), (6, 9), (6, 10)] [] V V46 from (agr.tr (agr.tr (agr.tr (agr.tr agr.rf ajV12 (by decide) (by decide)) ajV19 (by decide) (by decide)) ajV31 (by decide) (by decide)) ajV46 (by decide) (by decide))) (fun _ => rfl) (fun _ => rfl) (fun _ => rfl))
            have px78 : px V V57 b := px.tr px77 ⟨p0x.ag ajV57 (fun _ => rfl) (fun _ => rfl), t56 _ (by omega)⟩
            have px79 : px V V74 b := px.tr px78 (px.ag (show agr [] [46] V57 V74 from (agr.up agr.rf hV74 rfl)) (fun _ => rfl) (fun _ => rfl) (fun _ => rfl))
            have tx80 : TX V74 b := TX.ag tx (show agr [(1, 3), (1, 8), (6, 8), (6, 9), (6, 10)] [43, 44, 46] V V74 from (agr.up (agr.tr (agr.tr (agr.tr (agr.tr (agr.tr agr.rf ajV12 (by decide) (by decide)) ajV19 (by decide) (by decide)) ajV31 (by decide) (by decide)) ajV46 (by decide) (by decide)) ajV57 (by decide) (by decide)) hV74 rfl)) px79 (fun _ => rfl) (fun _ => rfl) (fun _ => rfl) (fun _ => rfl) (fun _ => rfl) (fun _ => rfl)
            have cd81 : CD V74 b := ⟨CB.ag cd.1 (show agr [(1, 3), (1, 8), (6, 8), (6, 9), (6, 10)] [43, 44, 46] V V74 from (agr.up (agr.tr (agr.tr (agr.tr (agr.tr (agr.tr agr.rf ajV12 (by decide) (by decide)) ajV19 (by decide) (by decide)) ajV31 (by decide) (by decide)) ajV46 (by decide) (by decide)) ajV57 (by decide) (by decide)) hV74 rfl)) (fun _ => rfl) (fun _ => rfl), CO.ag cd.2 (show agr [(1, 3), (1, 8), (6, 8), (6, 9), (6, 10)] [43, 44, 46] V V74 from (agr.up (agr.tr (agr.tr (agr.tr (agr.tr (agr.tr agr.rf ajV12 (by decide) (by decide)) ajV19 (by decide) (by decide)) ajV31 (by decide) (by decide)) ajV46 (by decide) (by decide)) ajV57 (by decide) (by decide)) hV74 rfl)) (fun _ => rfl) (fun _ => rfl)⟩
            have px82 : px V V46 b := px.tr (px.rf : px V V b) (px.ag (show agr [(1, 3), (1, 8), (6, 8), (6, 9), (6, 10)] [] V V46 from (agr.tr (agr.tr (agr.tr (agr.tr agr.rf ajV12 (by decide) (by decide)) ajV19 (by decide) (by decide)) ajV31 (by decide) (by decide)) ajV46 (by decide) (by decide))) (fun _ => rfl) (fun _ => rfl) (fun _ => rfl))
            have px83 : px V V57 b := px.tr px82 ⟨p0x.ag ajV57 (fun _ => rfl) (fun _ => rfl), t56 _ (by omega)⟩
            have px84 : px V V74 b := px.tr px83 (px.ag (show agr [] [46] V57 V74 from (agr.up agr.rf hV74 rfl)) (fun _ => rfl) (fun _ => rfl) (fun _ => rfl))
            exact W.zret (v := 1) hx hb hr rfl (fun t ht hW => ⟨⟨1, (V74, L58), rfl, ⟨hMV74, agV74, alL58, fwV74, (by decide), tx80, cd81, px84, (Imp.mk (fun hp => absurd hp (by decide)))⟩, by rw [ht]; exact hP, va_K.moved hW.alike hK, hD⟩, hS.F ht⟩) hS.2.2 dX1_readSetting_92
        · skip
          have f85 : z42.toInt = 0 := b_eq rfl (by decide) c48
          refine lv_iconst (v := 0) hx hb dX1_readSetting_59 (by decide) ?_
          have px86 : px V V46 b := px.tr (px.rf : px V V b) (px.ag (show agr [(1, 3), (1, 8), (6, 8), (6, 9), (6, 10)] [] V V46 from (agr.tr (agr.tr (agr.tr (agr.tr agr.rf ajV12 (by decide) (by decide)) ajV19 (by decide) (by decide)) ajV31 (by decide) (by decide)) ajV46 (by decide) (by decide))) (fun _ => rfl) (fun _ => rfl) (fun _ => rfl))
          have tx87 : TX V46 b := TX.ag tx (show agr [(1, 3), (1, 8), (6, 8), (6, 9), (6, 10)] [] V V46 from (agr.tr (agr.tr (agr.tr (agr.tr agr.rf ajV12 (by decide) (by decide)) ajV19 (by decide) (by decide)) ajV31 (by decide) (by decide)) ajV46 (by decide) (by decide))) px86 (fun _ => rfl) (fun _ => rfl) (fun _ => rfl) (fun _ => rfl) (fun _ => rfl) (fun _ => rfl)
          have cd88 : CD V46 b := ⟨CB.ag cd.1 (show agr [(1, 3), (1, 8), (6, 8), (6, 9), (6, 10)] [] V V46 from (agr.tr (agr.tr (agr.tr (agr.tr agr.rf ajV12 (by decide) (by decide)) ajV19 (by decide) (by decide)) ajV31 (by decide) (by decide)) ajV46 (by decide) (by decide))) (fun _ => rfl) (fun _ => rfl), CO.ag cd.2 (show agr [(1, 3), (1, 8), (6, 8), (6, 9), (6, 10)] [] V V46 from (agr.tr (agr.tr (agr.tr (agr.tr agr.rf ajV12 (by decide) (by decide)) ajV19 (by decide) (by decide)) ajV31 (by decide) (by decide)) ajV46 (by decide) (by decide))) (fun _ => rfl) (fun _ => rfl)⟩
          have px89 : px V V46 b := px.tr (px.rf : px V V b) (px.ag (show agr [(1, 3), (1, 8), (6, 8), (6, 9), (6, 10)] [] V V46 from (agr.tr (agr.tr (agr.tr (agr.tr agr.rf ajV12 (by decide) (by decide)) ajV19 (by decide) (by decide)) ajV31 (by decide) (by decide)) ajV46 (by decide) (by decide))) (fun _ => rfl) (fun _ => rfl) (fun _ => rfl))
          exact W.zret (v := 0) hx hb hr rfl (fun t ht hW => ⟨⟨0, (V46, L47), rfl, ⟨hMV46, agV46, alL47, fwV46, (by decide), tx87, cd88, px89, (Imp.mk (fun _ => (show 1 ≤ (V46 1 3).toInt from by first | exact om_f8d8213eda45 ((Imp.go t45 (f85))) | first | omega | ((try (have i_t45 := Imp.go t45 (f85))); (try (have i_t29 := Imp.go t29 (imp_a (rgz26.1) (rgz26.2) (f40)))); (try (have i_t6 := Imp.go t6 (f8))); omega) | ((try (have i_t45 := Imp.go t45 (by omega))); (try (have i_t30 := Imp.go t30 (by omega))); (try (have i_t29 := Imp.go t29 (by omega))); (try (have i_t18 := Imp.go t18 (by omega))); first | omega | ((try (have i_t6 := Imp.go t6 (by omega))); (try (have i_tx := Imp.go tx (by omega))); (try (have i_cd := Imp.go cd (by omega))); (try (have i_cd := Imp.go cd (by omega))); first | omega | ((try (have i_tx := Imp.go tx (by omega))); (try (have i_t6 := Imp.go t6 (by omega))); (try (have i_t18 := Imp.go t18 (by omega))); (try (have i_t29 := Imp.go t29 (by omega))); (try (have i_t30 := Imp.go t30 (by omega))); (try (have i_t45 := Imp.go t45 (by omega))); omega))))))⟩, by rw [ht]; exact hP, va_K.moved hW.alike hK, hD⟩, hS.F ht⟩) hS.2.2 dX1_readSetting_60
    · skip
      have f90 : z15.toInt = 0 := b_eq rfl (by decide) c21
      refine lv_iconst (v := 0) hx hb dX1_readSetting_33 (by decide) ?_
      have px91 : px V V19 b := px.tr (px.rf : px V V b) (px.ag (show agr [(1, 3), (6, 8), (6, 9), (6, 10)] [] V V19 from (agr.tr (agr.tr agr.rf ajV12 (by decide) (by decide)) ajV19 (by decide) (by decide))) (fun _ => rfl) (fun _ => rfl) (fun _ => rfl))
      have tx92 : TX V19 b := TX.ag tx (show agr [(1, 3), (6, 8), (6, 9), (6, 10)] [] V V19 from (agr.tr (agr.tr agr.rf ajV12 (by decide) (by decide)) ajV19 (by decide) (by decide))) px91 (fun _ => rfl) (fun _ => rfl) (fun _ => rfl) (fun _ => rfl) (fun _ => rfl) (fun _ => rfl)
      have cd93 : CD V19 b := ⟨CB.ag cd.1 (show agr [(1, 3), (6, 8), (6, 9), (6, 10)] [] V V19 from (agr.tr (agr.tr agr.rf ajV12 (by decide) (by decide)) ajV19 (by decide) (by decide))) (fun _ => rfl) (fun _ => rfl), CO.ag cd.2 (show agr [(1, 3), (6, 8), (6, 9), (6, 10)] [] V V19 from (agr.tr (agr.tr agr.rf ajV12 (by decide) (by decide)) ajV19 (by decide) (by decide))) (fun _ => rfl) (fun _ => rfl)⟩
      have px94 : px V V19 b := px.tr (px.rf : px V V b) (px.ag (show agr [(1, 3), (6, 8), (6, 9), (6, 10)] [] V V19 from (agr.tr (agr.tr agr.rf ajV12 (by decide) (by decide)) ajV19 (by decide) (by decide))) (fun _ => rfl) (fun _ => rfl) (fun _ => rfl))
      exact W.zret (v := 0) hx hb hr rfl (fun t ht hW => ⟨⟨0, (V19, L20), rfl, ⟨hMV19, agV19, alL20, fwV19, (by decide), tx92, cd93, px94, (Imp.mk (fun _ => (show 1 ≤ (V19 1 3).toInt from by first | exact om_f8d8213eda45 ((Imp.go t18 (f90))) | first | omega | ((try (have i_t18 := Imp.go t18 (f90))); (try (have i_t6 := Imp.go t6 (f8))); omega) | ((try (have i_t18 := Imp.go t18 (by omega))); (try (have i_t6 := Imp.go t6 (by omega))); (try (have i_tx := Imp.go tx (by omega))); (try (have i_cd := Imp.go cd (by omega))); first | omega | ((try (have i_cd := Imp.go cd (by omega))); (try (have i_tx := Imp.go tx (by omega))); (try (have i_t6 := Imp.go t6 (by omega))); (try (have i_t18 := Imp.go t18 (by omega))); omega)))))⟩, by rw [ht]; exact hP, va_K.moved hW.alike hK, hD⟩, hS.F ht⟩) hS.2.2 dX1_readSetting_34
  · skip
    have f95 : z3.toInt ≠ 0 := b_neq rfl (by decide) c7
    refine lv_aload_n hx hb dX1_readSetting_13 rfl (lv_at hl 0 rfl) ?_
    refine lv_iconst (v := 5) hx hb dX1_readSetting_14 (by decide) ?_
    have r96 : Int32.toInt 5 = 5 := by decide
    refine gA_int (gA_runV (As := [.int 5]) (rest := []) (ci := 1) (q0 := 1) hx hb hml hown hg hP hD hK hS hA hnw hgk (x_wrong l D ks H.size ad kk V L Z 5 hMV (by decide)) w867 w869 w6 w162 w870 rfl xgReader hdV_yX1_wrong ⟨Nat.le_of_ble_eq_true rfl, Nat.le_of_ble_eq_true rfl⟩ rfl hl.1 rfl (Nat.le_of_ble_eq_true rfl) dX1_readSetting_15 ⟨Nat.le_of_ble_eq_true rfl, Nat.le_of_ble_eq_true rfl⟩) hP hD hK hS hA (fun z97 u98 H locs w99 hP hD hK hS => ?_)
    obtain ⟨V101, L102⟩ := u98
    obtain ⟨hMV101, ajV101, axL102, rgz97, t100⟩ := w99
    have axL102 : L = L102 := Eq.symm axL102
    subst axL102
    have hP : va_P D vwCl (xw ad kk V101 L Z) H := hP
    have hD : va_D A (xw ad kk V101 L Z) := hD
    have hMV101 : rgd bX V101 := hMV101
    have ajV101 : agr [(1, 3)] [] V V101 := ajV101
    have agV101 : agr [(1, 3), (1, 8), (6, 8), (6, 9), (6, 10)] [43, 44, 46] V V101 := agV.tr ajV101 (by decide) (by decide)
    have fwV101 : frX (xR b) V V101 := frX.tr fwV (frX.ag ajV101 (by decide) (by decide))
    have rgz97 : 0 ≤ z97.toInt ∧ z97.toInt ≤ 0 := rgz97
    have t100 : 1 ≤ (V101 1 3).toInt := t100
    have px103 : px V V101 b := px.tr (px.rf : px V V b) (px.ag (show agr [(1, 3)] [] V V101 from (agr.tr agr.rf ajV101 (by decide) (by decide))) (fun _ => rfl) (fun _ => rfl) (fun _ => rfl))
    have tx104 : TX V101 b := TX.ag tx (show agr [(1, 3)] [] V V101 from (agr.tr agr.rf ajV101 (by decide) (by decide))) px103 (fun _ => rfl) (fun _ => rfl) (fun _ => rfl) (fun _ => rfl) (fun _ => rfl) (fun _ => rfl)
    have cd105 : CD V101 b := ⟨CB.ag cd.1 (show agr [(1, 3)] [] V V101 from (agr.tr agr.rf ajV101 (by decide) (by decide))) (fun _ => rfl) (fun _ => rfl), CO.ag cd.2 (show agr [(1, 3)] [] V V101 from (agr.tr agr.rf ajV101 (by decide) (by decide))) (fun _ => rfl) (fun _ => rfl)⟩
    have px106 : px V V101 b := px.tr (px.rf : px V V b) (px.ag (show agr [(1, 3)] [] V V101 from (agr.tr agr.rf ajV101 (by decide) (by decide))) (fun _ => rfl) (fun _ => rfl) (fun _ => rfl))
    exact W.zret (v := z97) hx hb hr (nb_ok (by omega)) (fun t ht hW => ⟨⟨z97, (V101, L), rfl, ⟨hMV101, agV101, alL, fwV101, (show 0 ≤ z97.toInt ∧ z97.toInt ≤ 1 from by first | exact om_641b3f05f166 rgz97.1 rgz97.2 | first | omega | ((try (have i_t6 := Imp.go t6 (by omega))); (try (have i_tx := Imp.go tx (by omega))); (try (have i_cd := Imp.go cd (by omega))); (try (have i_cd := Imp.go cd (by omega))); (try (have i_tx := Imp.go tx (by omega))); (try (have i_t6 := Imp.go t6 (by omega))); omega)), tx104, cd105, px106, (Imp.mk (fun hp => have hp : z97.toInt = 0 := hp; (show 1 ≤ (V101 1 3).toInt from by first | exact om_f8d8213eda45 t100 | first | omega | ((try (have i_t6 := Imp.go t6 (by omega))); (try (have i_tx := Imp.go tx (by omega))); (try (have i_cd := Imp.go cd (by omega))); (try (have i_cd := Imp.go cd (by omega))); (try (have i_tx := Imp.go tx (by omega))); (try (have i_t6 := Imp.go t6 (by omega))); omega))))⟩, by rw [ht]; exact hP, va_K.moved hW.alike hK, hD⟩, hS.F ht⟩) hS.2.2 dX1_readSetting_18
abbrev r_x_readType : Room := { frames := 3, cells := 0, slots := 0, locals := 65 }
abbrev q_x_readType (D : va_G) (ks : KS) (ad : Nat → Nat) (kk : Nat → ClassId) (V : Vf) (L : Lf) (Z : XZ) (b : Nat) (A : Nat → Prop) : Array Value → State → Outcome → State → Prop := va_Qi (fun (r : Int32) (u : Vf × Lf) => rgd bX u.1 ∧ agr [(1, 3), (1, 6), (1, 7), (6, 8), (6, 9), (6, 10)] [43, 44, 45] V u.1 ∧ agL [1, 6, 44] L u.2 ∧ frX (xR b) V u.1 ∧ (0 ≤ r.toInt ∧ r.toInt ≤ 1) ∧ (TX u.1 b) ∧ (CD u.1 b) ∧ (px V u.1 b) ∧ (Imp (r.toInt = 0) (1 ≤ (u.1 1 3).toInt))) (fun u t => gq D A (xw ad kk u.1 u.2 Z) (xty kk Z) t) A
set_option maxHeartbeats 4000000 in
set_option maxRecDepth 100000 in
theorem x_readType (l : Launch) (D : va_G) (ks : KS) (sz : Nat) (ad : Nat → Nat) (kk : Nat → ClassId) (V : Vf) (L : Lf) (Z : XZ) (b : Nat) (hMV : rgd bX V) (hb2 : b < 2) (rbk : (V 1 1).toInt = (b : Int)) (cd : CD V b) (tx : TX V b)  : Met l yX1_readType (Cond.code yX1_readType cX1_readType 4 (some .boolean) :: GW) r_x_readType (va_Pc [.ref (ad 1)] (gp D ks (xw ad kk V L Z) (xty kk Z) sz)) (q_x_readType D ks ad kk V L Z  b (va_A (xw ad kk V L Z) sz)) 0 0 (va_A (xw ad kk V L Z) sz) := by
  refine g_met (q_x_readType D ks ad kk V L Z  b) (by decide) (Nat.le_of_ble_eq_true rfl) ?_
  intro p e s m below meth c A ls H locs hx hb hr hml hown hg hlocks hin hnw hgk hP hK hD hS hA hl
  have hown : s.vm.findClass RX1 = some m.cls := hown
  have hl : lv_has ls 4 [(0, .ref (ad 1))] := hl
  have hP : va_P D vwCl (xw ad kk V L Z) H := hP
  have hD : va_D A (xw ad kk V L Z) := hD
  have hK : va_K D vwCl (xty kk Z) s := hK
  have agV : agr [(1, 3), (1, 6), (1, 7), (6, 8), (6, 9), (6, 10)] [43, 44, 45] V V := agr.rf
  have alL : agL [1, 6, 44] L L := agL.rf
  have fwV : frX (xR b) V V := frX.rf
  have r1 : (-1) ≤ ((V 1 1)).toInt ∧ ((V 1 1)).toInt ≤ 1 := hMV 1 1
  refine lv_aload_n hx hb dX1_readType_0 rfl (lv_at hl 0 rfl) ?_
  refine va_get (D := D) (ci := 1) (v := rfN ad 38 (V 1 1)) (fs := (xfReader ad V L Z)) (C := RX1) (T := TX1) (N := 9) hx hb hg inX1 hown hK hP 1 xgReader rfl 1 (by decide) (hg _ w305) (fun _ h9 => h9) rfl dX1_readType_1 ?_
  refine g_topv (v := .ref (ad (38 + b))) (rfN_r (by first | omega | ((try (have i_tx := Imp.go tx (by omega))); (try (have i_cd := Imp.go cd (by omega))); (try (have i_cd := Imp.go cd (by omega))); (try (have i_tx := Imp.go tx (by omega))); omega))) ?_
  refine va_getN (D := D) (ci := 0) (v := .ref (ad (40 + (5 * b + 0)))) (fs := (xfBook ad V b)) (C := RX0) (T := TX0) (N := 13) hx hb hg inX0 hown hK hP (38 + b) (xgBook hb2) rfl 0 (by decide) (hnw.use 594 n594 rfl) (fun _ h9 => h9) rfl dX1_readType_4 ?_
  have il2 : (5 * b + 0) < 10 := by first | exact om_99c4753a5d76 hb2 | first | omega | ((try (have i_tx := Imp.go tx (by omega))); (try (have i_cd := Imp.go cd (by omega))); (try (have i_cd := Imp.go cd (by omega))); (try (have i_tx := Imp.go tx (by omega))); omega)
  refine gA_int (gA_runV (As := []) (rest := []) (ci := 6) (q0 := (40 + (5 * b + 0))) hx hb hml hown hg hP hD hK hS hA hnw hgk (x_isFull l D ks H.size ad kk V L Z ((5 * b + 0)) hMV (show (5 * b + 0) < 10 from by first | exact om_99c4753a5d76 hb2 | first | omega | ((try (have i_tx := Imp.go tx (by omega))); (try (have i_cd := Imp.go cd (by omega))); (try (have i_cd := Imp.go cd (by omega))); (try (have i_tx := Imp.go tx (by omega))); omega))) w863 w864 w865 w168 w866 rfl (xgNames il2) hdV_yX6_isFull ⟨Nat.le_of_ble_eq_true rfl, Nat.le_of_ble_eq_true rfl⟩ rfl hl.1 rfl (Nat.le_of_ble_eq_true rfl) dX1_readType_7 ⟨Nat.le_of_ble_eq_true rfl, Nat.le_of_ble_eq_true rfl⟩) hP hD hK hS hA (fun z3 u4 H locs w5 hP hD hK hS => ?_)
  obtain ⟨rgz3, t6⟩ := w5
  have rgz3 : 0 ≤ z3.toInt ∧ z3.toInt ≤ 1 := rgz3
  have t6 : Imp (z3.toInt = 0) ((V 43 (5 * b + 0)).toInt < ((xcap (5 * b + 0) : Nat) : Int)) := t6
  refine lv_if_eq (tgt := 19) hx hb dX1_readType_10 (by decide) (fun c7 => ?_) (fun c7 => ?_)
  · skip
    have f8 : z3.toInt = 0 := b_eq rfl (by decide) c7
    refine lv_aload_n hx hb dX1_readType_19 rfl (lv_at hl 0 rfl) ?_
    refine va_get (D := D) (ci := 1) (v := .ref (ad 6)) (fs := (xfReader ad V L Z)) (C := RX1) (T := TX1) (N := 9) hx hb hg inX1 hown hK hP 1 xgReader rfl 0 (by decide) (hg _ w304) (fun _ h9 => h9) rfl dX1_readType_20 ?_
    refine gA_void (gA_runV (As := []) (rest := []) (ci := 9) (q0 := 6) hx hb hml hown hg hP hD hK hS hA hnw hgk (x_next l D ks H.size ad kk V L Z  hMV ) w871 w852 w853 w157 w854 rfl xgTape hdV_yX9_next ⟨Nat.le_of_ble_eq_true rfl, Nat.le_of_ble_eq_true rfl⟩ rfl hl.1 rfl (Nat.le_of_ble_eq_true rfl) dX1_readType_23 ⟨Nat.le_of_ble_eq_true rfl, Nat.le_of_ble_eq_true rfl⟩) hP hD hK hS hA (fun u10 H locs w11 hP hD hK hS => ?_)
    obtain ⟨V12, L13⟩ := u10
    obtain ⟨hMV12, ajV12, axL13⟩ := w11
    have alL13 : agL [1, 6, 44] L L13 := agL.tr alL axL13 (by decide)
    have hP : va_P D vwCl (xw ad kk V12 L13 Z) H := hP
    have hD : va_D A (xw ad kk V12 L13 Z) := hD
    have hMV12 : rgd bX V12 := hMV12
    have ajV12 : agr [(6, 8), (6, 9), (6, 10)] [] V V12 := ajV12
    have agV12 : agr [(1, 3), (1, 6), (1, 7), (6, 8), (6, 9), (6, 10)] [43, 44, 45] V V12 := agV.tr ajV12 (by decide) (by decide)
    have fwV12 : frX (xR b) V V12 := frX.tr fwV (frX.ag ajV12 (by decide) (by decide))
    refine lv_aload_n hx hb dX1_readType_26 rfl (lv_at hl 0 rfl) ?_
    have pq14 : (V12 1 1).toInt = ((V 1 1)).toInt := congrArg Int32.toInt (ajV12 1 1 rfl)
    refine gA_int (gA_runV (As := []) (rest := []) (ci := 1) (q0 := 1) hx hb hml hown hg hP hD hK hS hA hnw hgk (x_takeNewName l D ks H.size ad kk V12 L13 Z (b) hMV12 (show b < 2 from by first | exact om_f940a4667dd6 hb2 | first | omega | ((try (have i_t6 := Imp.go t6 (by omega))); (try (have i_tx := Imp.go tx (by omega))); (try (have i_cd := Imp.go cd (by omega))); (try (have i_cd := Imp.go cd (by omega))); (try (have i_tx := Imp.go tx (by omega))); (try (have i_t6 := Imp.go t6 (by omega))); omega)) (show (V12 1 1).toInt = (b : Int) from by first | exact om_adf531c77a0d rbk pq14 | first | omega | ((try (have i_t6 := Imp.go t6 (by omega))); (try (have i_tx := Imp.go tx (by omega))); (try (have i_cd := Imp.go cd (by omega))); (try (have i_cd := Imp.go cd (by omega))); (try (have i_tx := Imp.go tx (by omega))); (try (have i_t6 := Imp.go t6 (by omega))); omega))) w872 w874 w7 w162 w875 rfl xgReader hdV_yX1_takeNewName ⟨Nat.le_of_ble_eq_true rfl, Nat.le_of_ble_eq_true rfl⟩ rfl hl.1 rfl (Nat.le_of_ble_eq_true rfl) dX1_readType_27 ⟨Nat.le_of_ble_eq_true rfl, Nat.le_of_ble_eq_true rfl⟩) hP hD hK hS hA (fun z15 u16 H locs w17 hP hD hK hS => ?_)
    obtain ⟨V19, L20⟩ := u16
    obtain ⟨hMV19, ajV19, axL20, rgz15, t18⟩ := w17
    have alL20 : agL [1, 6, 44] L L20 := agL.tr alL13 axL20 (by decide)
    have hP : va_P D vwCl (xw ad kk V19 L20 Z) H := hP
    have hD : va_D A (xw ad kk V19 L20 Z) := hD
    have hMV19 : rgd bX V19 := hMV19
    have ajV19 : agr [(1, 3), (6, 8), (6, 9), (6, 10)] [] V12 V19 := ajV19
    have agV19 : agr [(1, 3), (1, 6), (1, 7), (6, 8), (6, 9), (6, 10)] [43, 44, 45] V V19 := agV12.tr ajV19 (by decide) (by decide)
    have fwV19 : frX (xR b) V V19 := frX.tr fwV12 (frX.ag ajV19 (by decide) (by decide))
    have rgz15 : 0 ≤ z15.toInt ∧ z15.toInt ≤ 1 := rgz15
    have t18 : Imp (z15.toInt = 0) (1 ≤ (V19 1 3).toInt) := t18
    refine lv_if_ne (tgt := 35) hx hb dX1_readType_30 (by decide) (fun c21 => ?_) (fun c21 => ?_)
    · skip
      have f22 : z15.toInt ≠ 0 := b_neq rfl (by decide) c21
      refine lv_aload_n hx hb dX1_readType_35 rfl (lv_at hl 0 rfl) ?_
      refine va_get (D := D) (ci := 1) (v := .long (L20 1 5)) (fs := (xfReader ad V19 L20 Z)) (C := RX1) (T := TX1) (N := 9) hx hb hg inX1 hown hK hP 1 xgReader rfl 5 (by decide) (hg _ w309) (fun _ h9 => h9) rfl dX1_readType_36 ?_
      refine lv_topl (fun w23 ew23 => ?_)
      refine lv_lstore_n (lv' := [(1, .long w23), (0, .ref (ad 1))]) hx hb dX1_readType_39 rfl hl (by decide) rfl (fun ls hl => ?_)
      refine lv_aload_n hx hb dX1_readType_40 rfl (lv_at hl 1 rfl) ?_
      refine lv_iconst (v := 0) hx hb dX1_readType_41 (by decide) ?_
      refine va_put (D := D) (ci := 1) (v := .int 0) (ty := tyX1 7) (fs := (xfReader ad V19 L20 Z)) (C := RX1) (T := TX1) (N := 9) hx hb hg inX1 tyX1 tyX1_ok nmX1 hown hK hP hD hS 1 xgReader rfl 7 (by decide) (hg _ w311) (fun _ h9 => h9) rfl (tyX1_ok 7 (by decide)) rfl rfl (Nat.le_of_ble_eq_true rfl) dX1_readType_42 (fun H locs hP hD hS => ?_)
      obtain ⟨V24, hV24⟩ : ∃ z, z = up2 V19 1 7 0 := ⟨_, rfl⟩
      have ew25 : (xw ad kk V19 L20 Z).set 1 ((ad 1), .inr (1, (xfReader ad V19 L20 Z).set 7 (.int 0))) = xw ad kk V24 L20 Z := by rw [hV24]; exact xw_ss (by decide) rfl (xb_si (by decide))
      have hP : va_P D vwCl (xw ad kk V24 L20 Z) H := by rw [← ew25]; exact hP
      have hD : va_D A (xw ad kk V24 L20 Z) := by rw [← ew25]; exact hD
      have hMV24 : rgd bX V24 := hMV19.put hV24 (i_full _)
      have agV24 : agr [(1, 3), (1, 6), (1, 7), (6, 8), (6, 9), (6, 10)] [43, 44, 45] V V24 := agV19.up hV24 rfl
      have fwV24 : frX (xR b) V V24 := frX.up fwV19 hV24 (Or.inl (by decide))
      refine lv_aload_n hx hb dX1_readType_45 rfl (lv_at hl 1 rfl) ?_
      refine va_get (D := D) (ci := 1) (v := .ref (ad 6)) (fs := (xfReader ad V24 L20 Z)) (C := RX1) (T := TX1) (N := 9) hx hb hg inX1 hown hK hP 1 xgReader rfl 0 (by decide) (hg _ w304) (fun _ h9 => h9) rfl dX1_readType_46 ?_
      refine va_getN (D := D) (ci := 9) (v := .int (V24 6 9)) (fs := (xfTape ad V24 L20 Z)) (C := RX9) (T := TX9) (N := 12) hx hb hg inX9 hown hK hP 6 xgTape rfl 9 (by decide) (hnw.use 262 n262 rfl) (fun _ h9 => h9) rfl dX1_readType_49 ?_
      refine g_top (v := (V19 6 9)) (up2_o hV24 (by decide)) ?_
      refine lv_sipush (v := 129) hx hb dX1_readType_52 (by decide) ?_
      refine lv_icmp_ne (tgt := 74) hx hb dX1_readType_55 (by decide) (fun c26 => ?_) (fun c26 => ?_)
      · skip
        have f27 : ((V19 6 9)).toInt ≠ 129 := b_neq rfl (by decide) c26
        refine lv_aload_n hx hb dX1_readType_74 rfl (lv_at hl 1 rfl) ?_
        refine lv_bipush (v := 59) hx hb dX1_readType_75 (by decide) ?_
        have r28 : Int32.toInt 59 = 59 := by decide
        refine gA_int (gA_runV (As := [.int 59]) (rest := []) (ci := 1) (q0 := 1) hx hb hml hown hg hP hD hK hS hA hnw hgk (x_take l D ks H.size ad kk V24 L20 Z 59 hMV24 ) w893 w895 w10 w162 w896 rfl xgReader hdV_yX1_take ⟨Nat.le_of_ble_eq_true rfl, Nat.le_of_ble_eq_true rfl⟩ rfl hl.1 rfl (Nat.le_of_ble_eq_true rfl) dX1_readType_77 ⟨Nat.le_of_ble_eq_true rfl, Nat.le_of_ble_eq_true rfl⟩) hP hD hK hS hA (fun z29 u30 H locs w31 hP hD hK hS => ?_)
        obtain ⟨V33, L34⟩ := u30
        obtain ⟨hMV33, ajV33, axL34, rgz29, t32⟩ := w31
        have alL34 : agL [1, 6, 44] L L34 := agL.tr alL20 axL34 (by decide)
        have hP : va_P D vwCl (xw ad kk V33 L34 Z) H := hP
        have hD : va_D A (xw ad kk V33 L34 Z) := hD
        have hMV33 : rgd bX V33 := hMV33
        have ajV33 : agr [(1, 3), (6, 8), (6, 9), (6, 10)] [] V24 V33 := ajV33
        have agV33 : agr [(1, 3), (1, 6), (1, 7), (6, 8), (6, 9), (6, 10)] [43, 44, 45] V V33 := agV24.tr ajV33 (by decide) (by decide)
        have fwV33 : frX (xR b) V V33 := frX.tr fwV24 (frX.ag ajV33 (by decide) (by decide))
        have rgz29 : 0 ≤ z29.toInt ∧ z29.toInt ≤ 1 := rgz29
        have t32 : Imp (z29.toInt = 0) (1 ≤ (V33 1 3).toInt) := t32
        refine lv_if_ne (tgt := 85) hx hb dX1_readType_80 (by decide) (fun c35 => ?_) (fun c35 => ?_)
        · skip
          have f36 : z29.toInt ≠ 0 := b_neq rfl (by decide) c35
          refine lv_aload_n hx hb dX1_readType_85 rfl (lv_at hl 1 rfl) ?_
          refine va_get (D := D) (ci := 1) (v := rfN ad 38 (V33 1 1)) (fs := (xfReader ad V33 L34 Z)) (C := RX1) (T := TX1) (N := 9) hx hb hg inX1 hown hK hP 1 xgReader rfl 1 (by decide) (hg _ w305) (fun _ h9 => h9) rfl dX1_readType_86 ?_
          have pq37 : (V33 1 1).toInt = ((V 1 1)).toInt := congrArg Int32.toInt ((ajV33 1 1 rfl).trans ((up2_k hV24 (by decide)).trans ((ajV19 1 1 rfl).trans (ajV12 1 1 rfl))))
          refine g_topv (v := .ref (ad (38 + b))) (rfN_r (by first | omega | ((try (have i_t6 := Imp.go t6 (f8))); omega) | ((try (have i_t32 := Imp.go t32 (by omega))); (try (have i_t18 := Imp.go t18 (by omega))); (try (have i_t6 := Imp.go t6 (by omega))); (try (have i_tx := Imp.go tx (by omega))); first | omega | ((try (have i_cd := Imp.go cd (by omega))); (try (have i_cd := Imp.go cd (by omega))); (try (have i_tx := Imp.go tx (by omega))); (try (have i_t6 := Imp.go t6 (by omega))); (try (have i_t18 := Imp.go t18 (by omega))); (try (have i_t32 := Imp.go t32 (by omega))); omega)))) ?_
          refine va_getN (D := D) (ci := 0) (v := .ref (ad (40 + (5 * b + 0)))) (fs := (xfBook ad V33 b)) (C := RX0) (T := TX0) (N := 13) hx hb hg inX0 hown hK hP (38 + b) (xgBook hb2) rfl 0 (by decide) (hnw.use 594 n594 rfl) (fun _ h9 => h9) rfl dX1_readType_89 ?_
          refine lv_lload_n hx hb dX1_readType_92 rfl (lv_at hl 0 rfl) ?_
          refine gA_int (gA_runV (As := [.long w23]) (rest := []) (ci := 6) (q0 := (40 + (5 * b + 0))) hx hb hml hown hg hP hD hK hS hA hnw hgk (x_add l D ks H.size ad kk V33 L34 Z w23 ((5 * b + 0)) hMV33 (show (5 * b + 0) < 10 from by first | exact om_99c4753a5d76 hb2 | first | omega | ((try (have i_t6 := Imp.go t6 (f8))); omega) | ((try (have i_t32 := Imp.go t32 (by omega))); (try (have i_t18 := Imp.go t18 (by omega))); (try (have i_t6 := Imp.go t6 (by omega))); (try (have i_tx := Imp.go tx (by omega))); first | omega | ((try (have i_cd := Imp.go cd (by omega))); (try (have i_cd := Imp.go cd (by omega))); (try (have i_tx := Imp.go tx (by omega))); (try (have i_t6 := Imp.go t6 (by omega))); (try (have i_t18 := Imp.go t18 (by omega))); (try (have i_t32 := Imp.go t32 (by omega))); omega)))) w897 w898 w899 w168 w900 rfl (xgNames il2) hdV_yX6_add ⟨Nat.le_of_ble_eq_true rfl, Nat.le_of_ble_eq_true rfl⟩ rfl hl.1 rfl (Nat.le_of_ble_eq_true rfl) dX1_readType_93 ⟨Nat.le_of_ble_eq_true rfl, Nat.le_of_ble_eq_true rfl⟩) hP hD hK hS hA (fun z38 u39 H locs w40 hP hD hK hS => ?_)
          obtain ⟨V44, L45⟩ := u39
          obtain ⟨hMV44, ajV44, axL45, fyV44, rgz38, t41, t42, t43⟩ := w40
          have alL45 : agL [1, 6, 44] L L45 := agL.tr alL34 axL45 (by decide)
          have hP : va_P D vwCl (xw ad kk V44 L45 Z) H := hP
          have hD : va_D A (xw ad kk V44 L45 Z) := hD
          have hMV44 : rgd bX V44 := hMV44
          have ajV44 : agr [] [43, 44] V33 V44 := ajV44
          have agV44 : agr [(1, 3), (1, 6), (1, 7), (6, 8), (6, 9), (6, 10)] [43, 44, 45] V V44 := agV33.tr ajV44 (by decide) (by decide)
          have fwV44 : frX (xR b) V V44 := frX.tr fwV33 (frX_NB fyV44 (by first | omega | ((try (have i_t6 := Imp.go t6 (f8))); omega) | ((try (have i_t32 := Imp.go t32 (by omega))); (try (have i_t18 := Imp.go t18 (by omega))); (try (have i_t6 := Imp.go t6 (by omega))); (try (have i_tx := Imp.go tx (by omega))); first | omega | ((try (have i_cd := Imp.go cd (by omega))); (try (have i_cd := Imp.go cd (by omega))); (try (have i_tx := Imp.go tx (by omega))); (try (have i_t6 := Imp.go t6 (by omega))); (try (have i_t18 := Imp.go t18 (by omega))); (try (have i_t32 := Imp.go t32 (by omega))); omega))) (by first | omega | ((try (have i_t6 := Imp.go t6 (f8))); omega) | ((try (have i_t32 := Imp.go t32 (by omega))); (try (have i_t18 := Imp.go t18 (by omega))); (try (have i_t6 := Imp.go t6 (by omega))); (try (have i_tx := Imp.go tx (by omega))); first | omega | ((try (have i_cd := Imp.go cd (by omega))); (try (have i_cd := Imp.go cd (by omega))); (try (have i_tx := Imp.go tx (by omega))); (try (have i_t6 := Imp.go t6 (by omega))); (try (have i_t18 := Imp.go t18 (by omega))); (try (have i_t32 := Imp.go t32 (by omega))); omega))))
          have rgz38 : (-1) ≤ z38.toInt ∧ z38.toInt ≤ 23 := rgz38
          have t41 : z38.toInt < (V44 43 (5 * b + 0)).toInt := t41
          have t42 : Imp ((V33 43 (5 * b + 0)).toInt < ((xcap (5 * b + 0) : Nat) : Int)) (z38.toInt = (V33 43 (5 * b + 0)).toInt ∧ (V44 43 (5 * b + 0)).toInt = (V33 43 (5 * b + 0)).toInt + 1) := t42
          have t43 : (∀ n : Nat, ¬ n = (5 * b + 0) → V44 43 n = V33 43 n) := t43
          refine lv_istore_n (lv' := [(3, .int z38), (1, .long w23), (0, .ref (ad 1))]) hx hb dX1_readType_96 rfl hl (by decide) rfl (fun ls hl => ?_)
          refine lv_iload_n hx hb dX1_readType_97 rfl (lv_at hl 0 rfl) ?_
          refine lv_iconst (v := (-1)) hx hb dX1_readType_98 (by decide) ?_
          refine lv_icmp_eq (tgt := 119) hx hb dX1_readType_99 (by decide) (fun c46 => ?_) (fun c46 => ?_)
          · skip
            have f47 : z38.toInt = (-1) := b_eq rfl (by decide) c46
            refine lv_iconst (v := 1) hx hb dX1_readType_119 (by decide) ?_
            have pq48 : (V44 1 3).toInt = ((V33 1 3)).toInt := congrArg Int32.toInt (ajV44 1 3 rfl)
            have px49 : px V V33 b := px.tr (px.rf : px V V b) (px.ag (show agr [(1, 3), (1, 7), (6, 8), (6, 9), (6, 10)] [] V V33 from (agr.tr (agr.up (agr.tr (agr.tr agr.rf ajV12 (by decide) (by decide)) ajV19 (by decide) (by decide)) hV24 rfl) ajV33 (by decide) (by decide))) (fun _ => rfl) (fun _ => rfl) (fun _ => rfl))
            have px50 : px V V44 b := px.tr px49 ⟨p0x.ag ajV44 (fun _ => rfl) (fun _ => rfl), t43 _ (by omega)⟩
            have tx51 : TX V44 b := TX.ag tx (show agr [(1, 3), (1, 7), (6, 8), (6, 9), (6, 10)] [43, 44] V V44 from (agr.tr (agr.tr (agr.up (agr.tr (agr.tr agr.rf ajV12 (by decide) (by decide)) ajV19 (by decide) (by decide)) hV24 rfl) ajV33 (by decide) (by decide)) ajV44 (by decide) (by decide))) px50 (fun _ => rfl) (fun _ => rfl) (fun _ => rfl) (fun _ => rfl) (fun _ => rfl) (fun _ => rfl)
            have cd52 : CD V44 b := ⟨CB.ag cd.1 (show agr [(1, 3), (1, 7), (6, 8), (6, 9), (6, 10)] [43, 44] V V44 from (agr.tr (agr.tr (agr.up (agr.tr (agr.tr agr.rf ajV12 (by decide) (by decide)) ajV19 (by decide) (by decide)) hV24 rfl) ajV33 (by decide) (by decide)) ajV44 (by decide) (by decide))) (fun _ => rfl) (fun _ => rfl), CO.ag cd.2 (show agr [(1, 3), (1, 7), (6, 8), (6, 9), (6, 10)] [43, 44] V V44 from (agr.tr (agr.tr (agr.up (agr.tr (agr.tr agr.rf ajV12 (by decide) (by decide)) ajV19 (by decide) (by decide)) hV24 rfl) ajV33 (by decide) (by decide)) ajV44 (by decide) (by decide))) (fun _ => rfl) (fun _ => rfl)⟩
            have px53 : px V V33 b := px.tr (px.rf : px V V b) (px.ag (show agr [(1, 3), (1, 7), (6, 8), (6, 9), (6, 10)] [] V V33 from (agr.tr (agr.up (agr.tr (agr.tr agr.rf ajV12 (by decide) (by decide)) ajV19 (by decide) (by decide)) hV24 rfl) ajV33 (by decide) (by decide))) (fun _ => rfl) (fun _ => rfl) (fun _ => rfl))
            have px54 : px V V44 b := px.tr px53 ⟨p0x.ag ajV44 (fun _ => rfl) (fun _ => rfl), t43 _ (by omega)⟩
            exact W.zret (v := 1) hx hb hr rfl (fun t ht hW => ⟨⟨1, (V44, L45), rfl, ⟨hMV44, agV44, alL45, fwV44, (by decide), tx51, cd52, px54, (Imp.mk (fun hp => absurd hp (by decide)))⟩, by rw [ht]; exact hP, va_K.moved hW.alike hK, hD⟩, hS.F ht⟩) hS.2.2 dX1_readType_120
          · skip
            have f55 : z38.toInt ≠ (-1) := b_neq rfl (by decide) c46
            refine lv_aload_n hx hb dX1_readType_102 rfl (lv_at hl 2 rfl) ?_
            refine va_get (D := D) (ci := 1) (v := rfN ad 38 (V44 1 1)) (fs := (xfReader ad V44 L45 Z)) (C := RX1) (T := TX1) (N := 9) hx hb hg inX1 hown hK hP 1 xgReader rfl 1 (by decide) (hg _ w305) (fun _ h9 => h9) rfl dX1_readType_103 ?_
            have pq56 : (V44 1 1).toInt = ((V 1 1)).toInt := congrArg Int32.toInt ((ajV44 1 1 rfl).trans ((ajV33 1 1 rfl).trans ((up2_k hV24 (by decide)).trans ((ajV19 1 1 rfl).trans (ajV12 1 1 rfl)))))
            refine g_topv (v := .ref (ad (38 + b))) (rfN_r (by first | omega | ((try (have i_t6 := Imp.go t6 (f8))); omega) | ((try (have i_t42 := Imp.go t42 (by omega))); (try (have i_t32 := Imp.go t32 (by omega))); (try (have i_t18 := Imp.go t18 (by omega))); (try (have i_t6 := Imp.go t6 (by omega))); first | omega | ((try (have i_tx := Imp.go tx (by omega))); (try (have i_cd := Imp.go cd (by omega))); (try (have i_cd := Imp.go cd (by omega))); (try (have i_tx := Imp.go tx (by omega))); first | omega | ((try (have i_t6 := Imp.go t6 (by omega))); (try (have i_t18 := Imp.go t18 (by omega))); (try (have i_t32 := Imp.go t32 (by omega))); (try (have i_t42 := Imp.go t42 (by omega))); omega))))) ?_
            refine va_getN (D := D) (ci := 0) (v := .ref (ad (60 + b))) (fs := (xfBook ad V44 b)) (C := RX0) (T := TX0) (N := 13) hx hb hg inX0 hown hK hP (38 + b) (xgBook hb2) rfl 5 (by decide) (hnw.use 609 n609 rfl) (fun _ h9 => h9) rfl dX1_readType_106 ?_
            refine lv_iload_n hx hb dX1_readType_109 rfl (lv_at hl 0 rfl) ?_
            refine lv_aload_n hx hb dX1_readType_110 rfl (lv_at hl 2 rfl) ?_
            refine va_get (D := D) (ci := 1) (v := .int (V44 1 7)) (fs := (xfReader ad V44 L45 Z)) (C := RX1) (T := TX1) (N := 9) hx hb hg inX1 hown hK hP 1 xgReader rfl 7 (by decide) (hg _ w311) (fun _ h9 => h9) rfl dX1_readType_111 ?_
            refine g_top (v := 0) ((ajV44 1 7 rfl).trans ((ajV33 1 7 rfl).trans (up2_s hV24))) ?_
            refine lv_iconst (v := 1) hx hb dX1_readType_114 (by decide) ?_
            refine lv_iload_n hx hb dX1_readType_115 rfl (lv_at hl 0 rfl) ?_
            refine lv_ishl hx hb dX1_readType_116 ?_
            refine lv_topi (fun z57 ez57 => ?_)
            refine lv_ior hx hb dX1_readType_117 ?_
            refine lv_topi (fun z58 ez58 => ?_)
            have il59 : b < 2 := by first | exact om_f940a4667dd6 hb2 | first | omega | ((try (have i_t6 := Imp.go t6 (f8))); omega) | ((try (have i_t42 := Imp.go t42 (by omega))); (try (have i_t32 := Imp.go t32 (by omega))); (try (have i_t18 := Imp.go t18 (by omega))); (try (have i_t6 := Imp.go t6 (by omega))); first | omega | ((try (have i_tx := Imp.go tx (by omega))); (try (have i_cd := Imp.go cd (by omega))); (try (have i_cd := Imp.go cd (by omega))); (try (have i_tx := Imp.go tx (by omega))); first | omega | ((try (have i_t6 := Imp.go t6 (by omega))); (try (have i_t18 := Imp.go t18 (by omega))); (try (have i_t32 := Imp.go t32 (by omega))); (try (have i_t42 := Imp.go t42 (by omega))); omega)))
            refine va_iast (D := D) (i := z38) (x := z58) hx hb hK hP hD hS (60 + b) (53 + b) (xgtypeUnder il59) (xttypeUnder il59) (i_in (a := z38.toInt) rfl (by first | exact om_d6faf715ef82 rgz38.1 rgz38.2 f55 | first | omega | ((try (have i_t6 := Imp.go t6 (f8))); omega) | ((try (have i_t42 := Imp.go t42 (by omega))); (try (have i_t32 := Imp.go t32 (by omega))); (try (have i_t18 := Imp.go t18 (by omega))); (try (have i_t6 := Imp.go t6 (by omega))); first | omega | ((try (have i_tx := Imp.go tx (by omega))); (try (have i_cd := Imp.go cd (by omega))); (try (have i_cd := Imp.go cd (by omega))); (try (have i_tx := Imp.go tx (by omega))); first | omega | ((try (have i_t6 := Imp.go t6 (by omega))); (try (have i_t18 := Imp.go t18 (by omega))); (try (have i_t32 := Imp.go t32 (by omega))); (try (have i_t42 := Imp.go t42 (by omega))); omega))))) dX1_readType_118 (fun H locs hP hD hS => ?_)
            have kc60 := i_clamp (x := z38) rfl (by first | exact om_e3b1d6ac9ce8 rgz38.1 f55 | first | omega | ((try (have i_t6 := Imp.go t6 (f8))); omega) | ((try (have i_t42 := Imp.go t42 (by omega))); (try (have i_t32 := Imp.go t32 (by omega))); (try (have i_t18 := Imp.go t18 (by omega))); (try (have i_t6 := Imp.go t6 (by omega))); first | omega | ((try (have i_tx := Imp.go tx (by omega))); (try (have i_cd := Imp.go cd (by omega))); (try (have i_cd := Imp.go cd (by omega))); (try (have i_tx := Imp.go tx (by omega))); first | omega | ((try (have i_t6 := Imp.go t6 (by omega))); (try (have i_t18 := Imp.go t18 (by omega))); (try (have i_t32 := Imp.go t32 (by omega))); (try (have i_t42 := Imp.go t42 (by omega))); omega))))
            have kl61 : (Int32.toNatClampNeg z38) < 24 := by first | exact om_c7c513f8a5c3 rgz38.2 kc60 | first | omega | ((try (have i_t6 := Imp.go t6 (f8))); omega) | ((try (have i_t42 := Imp.go t42 (by omega))); (try (have i_t32 := Imp.go t32 (by omega))); (try (have i_t18 := Imp.go t18 (by omega))); (try (have i_t6 := Imp.go t6 (by omega))); first | omega | ((try (have i_tx := Imp.go tx (by omega))); (try (have i_cd := Imp.go cd (by omega))); (try (have i_cd := Imp.go cd (by omega))); (try (have i_tx := Imp.go tx (by omega))); first | omega | ((try (have i_t6 := Imp.go t6 (by omega))); (try (have i_t18 := Imp.go t18 (by omega))); (try (have i_t32 := Imp.go t32 (by omega))); (try (have i_t42 := Imp.go t42 (by omega))); omega)))
            obtain ⟨V62, hV62⟩ : ∃ z, z = up2 V44 45 (24 * b + (Int32.toNatClampNeg z38)) z58 := ⟨_, rfl⟩
            have ew63 : (xw ad kk V44 L45 Z).set (60 + b) ((ad (60 + b)), .inl ((kk (60 + b)), 24, .inl (upd (fun q => if q < 24 then V44 45 (24 * b + q) else 0) (Int32.toNatClampNeg z38) z58))) = xw ad kk V62 L45 Z := by rw [hV62]; exact xptypeUnder il59 kl61
            have hP : va_P D vwCl (xw ad kk V62 L45 Z) H := by rw [← ew63]; exact hP
            have hD : va_D A (xw ad kk V62 L45 Z) := by rw [← ew63]; exact hD
            have hMV62 : rgd bX V62 := hMV44.put hV62 (i_full _)
            have agV62 : agr [(1, 3), (1, 6), (1, 7), (6, 8), (6, 9), (6, 10)] [43, 44, 45] V V62 := agV44.up hV62 rfl
            have fwV62 : frX (xR b) V V62 := frX.up fwV44 hV62 (Or.inr ⟨(by show 24 * b ≤ (24 * b + (Int32.toNatClampNeg z38)); first | exact om_9f0c33578b85 rgz38.1 f55 kc60 | first | omega | ((try (have i_t6 := Imp.go t6 (f8))); omega) | ((try (have i_t42 := Imp.go t42 (by omega))); (try (have i_t32 := Imp.go t32 (by omega))); (try (have i_t18 := Imp.go t18 (by omega))); (try (have i_t6 := Imp.go t6 (by omega))); first | omega | ((try (have i_tx := Imp.go tx (by omega))); (try (have i_cd := Imp.go cd (by omega))); (try (have i_cd := Imp.go cd (by omega))); (try (have i_tx := Imp.go tx (by omega))); first | omega | ((try (have i_t6 := Imp.go t6 (by omega))); (try (have i_t18 := Imp.go t18 (by omega))); (try (have i_t32 := Imp.go t32 (by omega))); (try (have i_t42 := Imp.go t42 (by omega))); omega)))), (by show (24 * b + (Int32.toNatClampNeg z38)) < 24 * b + 24; first | exact om_ef8fe39b3557 rgz38.2 kc60 | first | omega | ((try (have i_t6 := Imp.go t6 (f8))); omega) | ((try (have i_t42 := Imp.go t42 (by omega))); (try (have i_t32 := Imp.go t32 (by omega))); (try (have i_t18 := Imp.go t18 (by omega))); (try (have i_t6 := Imp.go t6 (by omega))); first | omega | ((try (have i_tx := Imp.go tx (by omega))); (try (have i_cd := Imp.go cd (by omega))); (try (have i_cd := Imp.go cd (by omega))); (try (have i_tx := Imp.go tx (by omega))); first | omega | ((try (have i_t6 := Imp.go t6 (by omega))); (try (have i_t18 := Imp.go t18 (by omega))); (try (have i_t32 := Imp.go t32 (by omega))); (try (have i_t42 := Imp.go t42 (by omega))); omega))))⟩)
            refine lv_iconst (v := 1) hx hb dX1_readType_119 (by decide) ?_
            have pq64 : (V62 1 3).toInt = ((V33 1 3)).toInt := congrArg Int32.toInt ((up2_o hV62 (by decide)).trans (ajV44 1 3 rfl))
            have px65 : px V V33 b := px.tr (px.rf : px V V b) (px.ag (show agr [(1, 3), (1, 7), (6, 8), (6, 9), (6, 10)] [] V V33 from (agr.tr (agr.up (agr.tr (agr.tr agr.rf ajV12 (by decide) (by decide)) ajV19 (by decide) (by decide)) hV24 rfl) ajV33 (by decide) (by decide))) (fun _ => rfl) (fun _ => rfl) (fun _ => rfl))
            have px66 : px V V44 b := px.tr px65 ⟨p0x.ag ajV44 (fun _ => rfl) (fun _ => rfl), t43 _ (by omega)⟩
            have px67 : px V V62 b := px.tr px66 (px.ag (show agr [] [45] V44 V62 from (agr.up agr.rf hV62 rfl)) (fun _ => rfl) (fun _ => rfl) (fun _ => rfl))
            have tx68 : TX V62 b := TX.ag tx (show agr [(1, 3), (1, 7), (6, 8), (6, 9), (6, 10)] [43, 44, 45] V V62 from (agr.up (agr.tr (agr.tr (agr.up (agr.tr (agr.tr agr.rf ajV12 (by decide) (by decide)) ajV19 (by decide) (by decide)) hV24 rfl) ajV33 (by decide) (by decide)) ajV44 (by decide) (by decide)) hV62 rfl)) px67 (fun _ => rfl) (fun _ => rfl) (fun _ => rfl) (fun _ => rfl) (fun _ => rfl) (fun _ => rfl)
            have cd69 : CD V62 b := ⟨CB.ag cd.1 (show agr [(1, 3), (1, 7), (6, 8), (6, 9), (6, 10)] [43, 44, 45] V V62 from (agr.up (agr.tr (agr.tr (agr.up (agr.tr (agr.tr agr.rf ajV12 (by decide) (by decide)) ajV19 (by decide) (by decide)) hV24 rfl) ajV33 (by decide) (by decide)) ajV44 (by decide) (by decide)) hV62 rfl)) (fun _ => rfl) (fun _ => rfl), CO.ag cd.2 (show agr [(1, 3), (1, 7), (6, 8), (6, 9), (6, 10)] [43, 44, 45] V V62 from (agr.up (agr.tr (agr.tr (agr.up (agr.tr (agr.tr agr.rf ajV12 (by decide) (by decide)) ajV19 (by decide) (by decide)) hV24 rfl) ajV33 (by decide) (by decide)) ajV44 (by decide) (by decide)) hV62 rfl)) (fun _ => rfl) (fun _ => rfl)⟩
            have px70 : px V V33 b := px.tr (px.rf : px V V b) (px.ag (show agr [(1, 3), (1, 7), (6, 8), (6, 9), (6, 10)] [] V V33 from (agr.tr (agr.up (agr.tr (agr.tr agr.rf ajV12 (by decide) (by decide)) ajV19 (by decide) (by decide)) hV24 rfl) ajV33 (by decide) (by decide))) (fun _ => rfl) (fun _ => rfl) (fun _ => rfl))
            have px71 : px V V44 b := px.tr px70 ⟨p0x.ag ajV44 (fun _ => rfl) (fun _ => rfl), t43 _ (by omega)⟩
            have px72 : px V V62 b := px.tr px71 (px.ag (show agr [] [45] V44 V62 from (agr.up agr.rf hV62 rfl)) (fun _ => rfl) (fun _ => rfl) (fun _ => rfl))
            exact W.zret (v := 1) hx hb hr rfl (fun t ht hW => ⟨⟨1, (V62, L45), rfl, ⟨hMV62, agV62, alL45, fwV62, (by decide), tx68, cd69, px72, (Imp.mk (fun hp => absurd hp (by decide)))⟩, by rw [ht]; exact hP, va_K.moved hW.alike hK, hD⟩, hS.F ht⟩) hS.2.2 dX1_readType_120
        · skip
          have f73 : z29.toInt = 0 := b_eq rfl (by decide) c35
          refine lv_iconst (v := 0) hx hb dX1_readType_83 (by decide) ?_
          have px74 : px V V33 b := px.tr (px.rf : px V V b) (px.ag (show agr [(1, 3), (1, 7), (6, 8), (6, 9), (6, 10)] [] V V33 from (agr.tr (agr.up (agr.tr (agr.tr agr.rf ajV12 (by decide) (by decide)) ajV19 (by decide) (by decide)) hV24 rfl) ajV33 (by decide) (by decide))) (fun _ => rfl) (fun _ => rfl) (fun _ => rfl))
          have tx75 : TX V33 b := TX.ag tx (show agr [(1, 3), (1, 7), (6, 8), (6, 9), (6, 10)] [] V V33 from (agr.tr (agr.up (agr.tr (agr.tr agr.rf ajV12 (by decide) (by decide)) ajV19 (by decide) (by decide)) hV24 rfl) ajV33 (by decide) (by decide))) px74 (fun _ => rfl) (fun _ => rfl) (fun _ => rfl) (fun _ => rfl) (fun _ => rfl) (fun _ => rfl)
          have cd76 : CD V33 b := ⟨CB.ag cd.1 (show agr [(1, 3), (1, 7), (6, 8), (6, 9), (6, 10)] [] V V33 from (agr.tr (agr.up (agr.tr (agr.tr agr.rf ajV12 (by decide) (by decide)) ajV19 (by decide) (by decide)) hV24 rfl) ajV33 (by decide) (by decide))) (fun _ => rfl) (fun _ => rfl), CO.ag cd.2 (show agr [(1, 3), (1, 7), (6, 8), (6, 9), (6, 10)] [] V V33 from (agr.tr (agr.up (agr.tr (agr.tr agr.rf ajV12 (by decide) (by decide)) ajV19 (by decide) (by decide)) hV24 rfl) ajV33 (by decide) (by decide))) (fun _ => rfl) (fun _ => rfl)⟩
          have px77 : px V V33 b := px.tr (px.rf : px V V b) (px.ag (show agr [(1, 3), (1, 7), (6, 8), (6, 9), (6, 10)] [] V V33 from (agr.tr (agr.up (agr.tr (agr.tr agr.rf ajV12 (by decide) (by decide)) ajV19 (by decide) (by decide)) hV24 rfl) ajV33 (by decide) (by decide))) (fun _ => rfl) (fun _ => rfl) (fun _ => rfl))
          exact W.zret (v := 0) hx hb hr rfl (fun t ht hW => ⟨⟨0, (V33, L34), rfl, ⟨hMV33, agV33, alL34, fwV33, (by decide), tx75, cd76, px77, (Imp.mk (fun _ => (show 1 ≤ (V33 1 3).toInt from by first | exact om_f8d8213eda45 ((Imp.go t32 (f73))) | first | omega | ((try (have i_t32 := Imp.go t32 (f73))); (try (have i_t6 := Imp.go t6 (f8))); omega) | ((try (have i_t32 := Imp.go t32 (by omega))); (try (have i_t18 := Imp.go t18 (by omega))); (try (have i_t6 := Imp.go t6 (by omega))); (try (have i_tx := Imp.go tx (by omega))); first | omega | ((try (have i_cd := Imp.go cd (by omega))); (try (have i_cd := Imp.go cd (by omega))); (try (have i_tx := Imp.go tx (by omega))); (try (have i_t6 := Imp.go t6 (by omega))); (try (have i_t18 := Imp.go t18 (by omega))); (try (have i_t32 := Imp.go t32 (by omega))); omega)))))⟩, by rw [ht]; exact hP, va_K.moved hW.alike hK, hD⟩, hS.F ht⟩) hS.2.2 dX1_readType_84
      · skip
        have f78 : ((V19 6 9)).toInt = 129 := b_eq rfl (by decide) c26
        refine lv_aload_n hx hb dX1_readType_58 rfl (lv_at hl 1 rfl) ?_
        refine va_get (D := D) (ci := 1) (v := .ref (ad 6)) (fs := (xfReader ad V24 L20 Z)) (C := RX1) (T := TX1) (N := 9) hx hb hg inX1 hown hK hP 1 xgReader rfl 0 (by decide) (hg _ w304) (fun _ h9 => h9) rfl dX1_readType_59 ?_
        refine gA_void (gA_runV (As := []) (rest := []) (ci := 9) (q0 := 6) hx hb hml hown hg hP hD hK hS hA hnw hgk (x_next l D ks H.size ad kk V24 L20 Z  hMV24 ) w871 w852 w853 w157 w854 rfl xgTape hdV_yX9_next ⟨Nat.le_of_ble_eq_true rfl, Nat.le_of_ble_eq_true rfl⟩ rfl hl.1 rfl (Nat.le_of_ble_eq_true rfl) dX1_readType_62 ⟨Nat.le_of_ble_eq_true rfl, Nat.le_of_ble_eq_true rfl⟩) hP hD hK hS hA (fun u80 H locs w81 hP hD hK hS => ?_)
        obtain ⟨V82, L83⟩ := u80
        obtain ⟨hMV82, ajV82, axL83⟩ := w81
        have alL83 : agL [1, 6, 44] L L83 := agL.tr alL20 axL83 (by decide)
        have hP : va_P D vwCl (xw ad kk V82 L83 Z) H := hP
        have hD : va_D A (xw ad kk V82 L83 Z) := hD
        have hMV82 : rgd bX V82 := hMV82
        have ajV82 : agr [(6, 8), (6, 9), (6, 10)] [] V24 V82 := ajV82
        have agV82 : agr [(1, 3), (1, 6), (1, 7), (6, 8), (6, 9), (6, 10)] [43, 44, 45] V V82 := agV24.tr ajV82 (by decide) (by decide)
        have fwV82 : frX (xR b) V V82 := frX.tr fwV24 (frX.ag ajV82 (by decide) (by decide))
        refine lv_aload_n hx hb dX1_readType_65 rfl (lv_at hl 1 rfl) ?_
        have pq84 : (V82 1 1).toInt = ((V 1 1)).toInt := congrArg Int32.toInt ((ajV82 1 1 rfl).trans ((up2_k hV24 (by decide)).trans ((ajV19 1 1 rfl).trans (ajV12 1 1 rfl))))
        refine gA_int (gA_runV (As := []) (rest := []) (ci := 1) (q0 := 1) hx hb hml hown hg hP hD hK hS hA hnw hgk (x_takeTypes l D ks H.size ad kk V82 L83 Z (b) hMV82 (show b < 2 from by first | exact om_f940a4667dd6 hb2 | first | omega | ((try (have i_t6 := Imp.go t6 (f8))); omega) | ((try (have i_t18 := Imp.go t18 (by omega))); (try (have i_t6 := Imp.go t6 (by omega))); (try (have i_tx := Imp.go tx (by omega))); (try (have i_cd := Imp.go cd (by omega))); first | omega | ((try (have i_cd := Imp.go cd (by omega))); (try (have i_tx := Imp.go tx (by omega))); (try (have i_t6 := Imp.go t6 (by omega))); (try (have i_t18 := Imp.go t18 (by omega))); omega))) (show (V82 1 1).toInt = (b : Int) from by first | exact om_adf531c77a0d rbk pq84 | first | omega | ((try (have i_t6 := Imp.go t6 (f8))); omega) | ((try (have i_t18 := Imp.go t18 (by omega))); (try (have i_t6 := Imp.go t6 (by omega))); (try (have i_tx := Imp.go tx (by omega))); (try (have i_cd := Imp.go cd (by omega))); first | omega | ((try (have i_cd := Imp.go cd (by omega))); (try (have i_tx := Imp.go tx (by omega))); (try (have i_t6 := Imp.go t6 (by omega))); (try (have i_t18 := Imp.go t18 (by omega))); omega)))) w884 w886 w8 w162 w887 rfl xgReader hdV_yX1_takeTypes ⟨Nat.le_of_ble_eq_true rfl, Nat.le_of_ble_eq_true rfl⟩ rfl hl.1 rfl (Nat.le_of_ble_eq_true rfl) dX1_readType_66 ⟨Nat.le_of_ble_eq_true rfl, Nat.le_of_ble_eq_true rfl⟩) hP hD hK hS hA (fun z85 u86 H locs w87 hP hD hK hS => ?_)
        obtain ⟨V89, L90⟩ := u86
        obtain ⟨hMV89, ajV89, axL90, rgz85, t88⟩ := w87
        have alL90 : agL [1, 6, 44] L L90 := agL.tr alL83 axL90 (by decide)
        have hP : va_P D vwCl (xw ad kk V89 L90 Z) H := hP
        have hD : va_D A (xw ad kk V89 L90 Z) := hD
        have hMV89 : rgd bX V89 := hMV89
        have ajV89 : agr [(1, 3), (1, 6), (1, 7), (6, 8), (6, 9), (6, 10)] [] V82 V89 := ajV89
        have agV89 : agr [(1, 3), (1, 6), (1, 7), (6, 8), (6, 9), (6, 10)] [43, 44, 45] V V89 := agV82.tr ajV89 (by decide) (by decide)
        have fwV89 : frX (xR b) V V89 := frX.tr fwV82 (frX.ag ajV89 (by decide) (by decide))
        have rgz85 : 0 ≤ z85.toInt ∧ z85.toInt ≤ 1 := rgz85
        have t88 : Imp (z85.toInt = 0) (1 ≤ (V89 1 3).toInt) := t88
        refine lv_if_ne (tgt := 74) hx hb dX1_readType_69 (by decide) (fun c91 => ?_) (fun c91 => ?_)
        · skip
          have f92 : z85.toInt ≠ 0 := b_neq rfl (by decide) c91
          refine lv_aload_n hx hb dX1_readType_74 rfl (lv_at hl 1 rfl) ?_
          refine lv_bipush (v := 59) hx hb dX1_readType_75 (by decide) ?_
          have r93 : Int32.toInt 59 = 59 := by decide
          refine gA_int (gA_runV (As := [.int 59]) (rest := []) (ci := 1) (q0 := 1) hx hb hml hown hg hP hD hK hS hA hnw hgk (x_take l D ks H.size ad kk V89 L90 Z 59 hMV89 ) w893 w895 w10 w162 w896 rfl xgReader hdV_yX1_take ⟨Nat.le_of_ble_eq_true rfl, Nat.le_of_ble_eq_true rfl⟩ rfl hl.1 rfl (Nat.le_of_ble_eq_true rfl) dX1_readType_77 ⟨Nat.le_of_ble_eq_true rfl, Nat.le_of_ble_eq_true rfl⟩) hP hD hK hS hA (fun z94 u95 H locs w96 hP hD hK hS => ?_)
          obtain ⟨V98, L99⟩ := u95
          obtain ⟨hMV98, ajV98, axL99, rgz94, t97⟩ := w96
          have alL99 : agL [1, 6, 44] L L99 := agL.tr alL90 axL99 (by decide)
          have hP : va_P D vwCl (xw ad kk V98 L99 Z) H := hP
          have hD : va_D A (xw ad kk V98 L99 Z) := hD
          have hMV98 : rgd bX V98 := hMV98
          have ajV98 : agr [(1, 3), (6, 8), (6, 9), (6, 10)] [] V89 V98 := ajV98
          have agV98 : agr [(1, 3), (1, 6), (1, 7), (6, 8), (6, 9), (6, 10)] [43, 44, 45] V V98 := agV89.tr ajV98 (by decide) (by decide)
          have fwV98 : frX (xR b) V V98 := frX.tr fwV89 (frX.ag ajV98 (by decide) (by decide))
          have rgz94 : 0 ≤ z94.toInt ∧ z94.toInt ≤ 1 := rgz94
          have t97 : Imp (z94.toInt = 0) (1 ≤ (V98 1 3).toInt) := t97
          refine lv_if_ne (tgt := 85) hx hb dX1_readType_80 (by decide) (fun c100 => ?_) (fun c100 => ?_)
          · skip
            have f101 : z94.toInt ≠ 0 := b_neq rfl (by decide) c100
            refine lv_aload_n hx hb dX1_readType_85 rfl (lv_at hl 1 rfl) ?_
            refine va_get (D := D) (ci := 1) (v := rfN ad 38 (V98 1 1)) (fs := (xfReader ad V98 L99 Z)) (C := RX1) (T := TX1) (N := 9) hx hb hg inX1 hown hK hP 1 xgReader rfl 1 (by decide) (hg _ w305) (fun _ h9 => h9) rfl dX1_readType_86 ?_
            have pq102 : (V98 1 1).toInt = ((V 1 1)).toInt := congrArg Int32.toInt ((ajV98 1 1 rfl).trans ((ajV89 1 1 rfl).trans ((ajV82 1 1 rfl).trans ((up2_k hV24 (by decide)).trans ((ajV19 1 1 rfl).trans (ajV12 1 1 rfl))))))
            refine g_topv (v := .ref (ad (38 + b))) (rfN_r (by first | omega | ((try (have i_t6 := Imp.go t6 (f8))); omega) | ((try (have i_t97 := Imp.go t97 (by omega))); (try (have i_t88 := Imp.go t88 (by omega))); (try (have i_t18 := Imp.go t18 (by omega))); (try (have i_t6 := Imp.go t6 (by omega))); first | omega | ((try (have i_tx := Imp.go tx (by omega))); (try (have i_cd := Imp.go cd (by omega))); (try (have i_cd := Imp.go cd (by omega))); (try (have i_tx := Imp.go tx (by omega))); first | omega | ((try (have i_t6 := Imp.go t6 (by omega))); (try (have i_t18 := Imp.go t18 (by omega))); (try (have i_t88 := Imp.go t88 (by omega))); (try (have i_t97 := Imp.go t97 (by omega))); omega))))) ?_
            refine va_getN (D := D) (ci := 0) (v := .ref (ad (40 + (5 * b + 0)))) (fs := (xfBook ad V98 b)) (C := RX0) (T := TX0) (N := 13) hx hb hg inX0 hown hK hP (38 + b) (xgBook hb2) rfl 0 (by decide) (hnw.use 594 n594 rfl) (fun _ h9 => h9) rfl dX1_readType_89 ?_
            refine lv_lload_n hx hb dX1_readType_92 rfl (lv_at hl 0 rfl) ?_
            refine gA_int (gA_runV (As := [.long w23]) (rest := []) (ci := 6) (q0 := (40 + (5 * b + 0))) hx hb hml hown hg hP hD hK hS hA hnw hgk (x_add l D ks H.size ad kk V98 L99 Z w23 ((5 * b + 0)) hMV98 (show (5 * b + 0) < 10 from by first | exact om_99c4753a5d76 hb2 | first | omega | ((try (have i_t6 := Imp.go t6 (f8))); omega) | ((try (have i_t97 := Imp.go t97 (by omega))); (try (have i_t88 := Imp.go t88 (by omega))); (try (have i_t18 := Imp.go t18 (by omega))); (try (have i_t6 := Imp.go t6 (by omega))); first | omega | ((try (have i_tx := Imp.go tx (by omega))); (try (have i_cd := Imp.go cd (by omega))); (try (have i_cd := Imp.go cd (by omega))); (try (have i_tx := Imp.go tx (by omega))); first | omega | ((try (have i_t6 := Imp.go t6 (by omega))); (try (have i_t18 := Imp.go t18 (by omega))); (try (have i_t88 := Imp.go t88 (by omega))); (try (have i_t97 := Imp.go t97 (by omega))); omega))))) w897 w898 w899 w168 w900 rfl (xgNames il2) hdV_yX6_add ⟨Nat.le_of_ble_eq_true rfl, Nat.le_of_ble_eq_true rfl⟩ rfl hl.1 rfl (Nat.le_of_ble_eq_true rfl) dX1_readType_93 ⟨Nat.le_of_ble_eq_true rfl, Nat.le_of_ble_eq_true rfl⟩) hP hD hK hS hA (fun z103 u104 H locs w105 hP hD hK hS => ?_)
            obtain ⟨V109, L110⟩ := u104
            obtain ⟨hMV109, ajV109, axL110, fyV109, rgz103, t106, t107, t108⟩ := w105
            have alL110 : agL [1, 6, 44] L L110 := agL.tr alL99 axL110 (by decide)
            have hP : va_P D vwCl (xw ad kk V109 L110 Z) H := hP
            have hD : va_D A (xw ad kk V109 L110 Z) := hD
            have hMV109 : rgd bX V109 := hMV109
            have ajV109 : agr [] [43, 44] V98 V109 := ajV109
            have agV109 : agr [(1, 3), (1, 6), (1, 7), (6, 8), (6, 9), (6, 10)] [43, 44, 45] V V109 := agV98.tr ajV109 (by decide) (by decide)
            have fwV109 : frX (xR b) V V109 := frX.tr fwV98 (frX_NB fyV109 (by first | omega | ((try (have i_t6 := Imp.go t6 (f8))); omega) | ((try (have i_t97 := Imp.go t97 (by omega))); (try (have i_t88 := Imp.go t88 (by omega))); (try (have i_t18 := Imp.go t18 (by omega))); (try (have i_t6 := Imp.go t6 (by omega))); first | omega | ((try (have i_tx := Imp.go tx (by omega))); (try (have i_cd := Imp.go cd (by omega))); (try (have i_cd := Imp.go cd (by omega))); (try (have i_tx := Imp.go tx (by omega))); first | omega | ((try (have i_t6 := Imp.go t6 (by omega))); (try (have i_t18 := Imp.go t18 (by omega))); (try (have i_t88 := Imp.go t88 (by omega))); (try (have i_t97 := Imp.go t97 (by omega))); omega)))) (by first | omega | ((try (have i_t6 := Imp.go t6 (f8))); omega) | ((try (have i_t97 := Imp.go t97 (by omega))); (try (have i_t88 := Imp.go t88 (by omega))); (try (have i_t18 := Imp.go t18 (by omega))); (try (have i_t6 := Imp.go t6 (by omega))); first | omega | ((try (have i_tx := Imp.go tx (by omega))); (try (have i_cd := Imp.go cd (by omega))); (try (have i_cd := Imp.go cd (by omega))); (try (have i_tx := Imp.go tx (by omega))); first | omega | ((try (have i_t6 := Imp.go t6 (by omega))); (try (have i_t18 := Imp.go t18 (by omega))); (try (have i_t88 := Imp.go t88 (by omega))); (try (have i_t97 := Imp.go t97 (by omega))); omega)))))
            have rgz103 : (-1) ≤ z103.toInt ∧ z103.toInt ≤ 23 := rgz103
            have t106 : z103.toInt < (V109 43 (5 * b + 0)).toInt := t106
            have t107 : Imp ((V98 43 (5 * b + 0)).toInt < ((xcap (5 * b + 0) : Nat) : Int)) (z103.toInt = (V98 43 (5 * b + 0)).toInt ∧ (V109 43 (5 * b + 0)).toInt = (V98 43 (5 * b + 0)).toInt + 1) := t107
            have t108 : (∀ n : Nat, ¬ n = (5 * b + 0) → V109 43 n = V98 43 n) := t108
            refine lv_istore_n (lv' := [(3, .int z103), (1, .long w23), (0, .ref (ad 1))]) hx hb dX1_readType_96 rfl hl (by decide) rfl (fun ls hl => ?_)
            refine lv_iload_n hx hb dX1_readType_97 rfl (lv_at hl 0 rfl) ?_
            refine lv_iconst (v := (-1)) hx hb dX1_readType_98 (by decide) ?_
            refine lv_icmp_eq (tgt := 119) hx hb dX1_readType_99 (by decide) (fun c111 => ?_) (fun c111 => ?_)
            · skip
              have f112 : z103.toInt = (-1) := b_eq rfl (by decide) c111
              refine lv_iconst (v := 1) hx hb dX1_readType_119 (by decide) ?_
              have pq113 : (V109 1 3).toInt = ((V98 1 3)).toInt := congrArg Int32.toInt (ajV109 1 3 rfl)
              have px114 : px V V98 b := px.tr (px.rf : px V V b) (px.ag (show agr [(1, 3), (1, 6), (1, 7), (6, 8), (6, 9), (6, 10)] [] V V98 from (agr.tr (agr.tr (agr.tr (agr.up (agr.tr (agr.tr agr.rf ajV12 (by decide) (by decide)) ajV19 (by decide) (by decide)) hV24 rfl) ajV82 (by decide) (by decide)) ajV89 (by decide) (by decide)) ajV98 (by decide) (by decide))) (fun _ => rfl) (fun _ => rfl) (fun _ => rfl))
              have px115 : px V V109 b := px.tr px114 ⟨p0x.ag ajV109 (fun _ => rfl) (fun _ => rfl), t108 _ (by omega)⟩
              have tx116 : TX V109 b := TX.ag tx (show agr [(1, 3), (1, 6), (1, 7), (6, 8), (6, 9), (6, 10)] [43, 44] V V109 from (agr.tr (agr.tr (agr.tr (agr.tr (agr.up (agr.tr (agr.tr agr.rf ajV12 (by decide) (by decide)) ajV19 (by decide) (by decide)) hV24 rfl) ajV82 (by decide) (by decide)) ajV89 (by decide) (by decide)) ajV98 (by decide) (by decide)) ajV109 (by decide) (by decide))) px115 (fun _ => rfl) (fun _ => rfl) (fun _ => rfl) (fun _ => rfl) (fun _ => rfl) (fun _ => rfl)
              have cd117 : CD V109 b := ⟨CB.ag cd.1 (show agr [(1, 3), (1, 6), (1, 7), (6, 8), (6, 9), (6, 10)] [43, 44] V V109 from (agr.tr (agr.tr (agr.tr (agr.tr (agr.up (agr.tr (agr.tr agr.rf ajV12 (by decide) (by decide)) ajV19 (by decide) (by decide)) hV24 rfl) ajV82 (by decide) (by decide)) ajV89 (by decide) (by decide)) ajV98 (by decide) (by decide)) ajV109 (by decide) (by decide))) (fun _ => rfl) (fun _ => rfl), CO.ag cd.2 (show agr [(1, 3), (1, 6), (1, 7), (6, 8), (6, 9), (6, 10)] [43, 44] V V109 from (agr.tr (agr.tr (agr.tr (agr.tr (agr.up (agr.tr (agr.tr agr.rf ajV12 (by decide) (by decide)) ajV19 (by decide) (by decide)) hV24 rfl) ajV82 (by decide) (by decide)) ajV89 (by decide) (by decide)) ajV98 (by decide) (by decide)) ajV109 (by decide) (by decide))) (fun _ => rfl) (fun _ => rfl)⟩
              have px118 : px V V98 b := px.tr (px.rf : px V V b) (px.ag (show agr [(1, 3), (1, 6), (1, 7), (6, 8), (6, 9), (6, 10)] [] V V98 from (agr.tr (agr.tr (agr.tr (agr.up (agr.tr (agr.tr agr.rf ajV12 (by decide) (by decide)) ajV19 (by decide) (by decide)) hV24 rfl) ajV82 (by decide) (by decide)) ajV89 (by decide) (by decide)) ajV98 (by decide) (by decide))) (fun _ => rfl) (fun _ => rfl) (fun _ => rfl))
              have px119 : px V V109 b := px.tr px118 ⟨p0x.ag ajV109 (fun _ => rfl) (fun _ => rfl), t108 _ (by omega)⟩
              exact W.zret (v := 1) hx hb hr rfl (fun t ht hW => ⟨⟨1, (V109, L110), rfl, ⟨hMV109, agV109, alL110, fwV109, (by decide), tx116, cd117, px119, (Imp.mk (fun hp => absurd hp (by decide)))⟩, by rw [ht]; exact hP, va_K.moved hW.alike hK, hD⟩, hS.F ht⟩) hS.2.2 dX1_readType_120
            · skip
              have f120 : z103.toInt ≠ (-1) := b_neq rfl (by decide) c111
              refine lv_aload_n hx hb dX1_readType_102 rfl (lv_at hl 2 rfl) ?_
              refine va_get (D := D) (ci := 1) (v := rfN ad 38 (V109 1 1)) (fs := (xfReader ad V109 L110 Z)) (C := RX1) (T := TX1) (N := 9) hx hb hg inX1 hown hK hP 1 xgReader rfl 1 (by decide) (hg _ w305) (fun _ h9 => h9) rfl dX1_readType_103 ?_
              have pq121 : (V109 1 1).toInt = ((V 1 1)).toInt := congrArg Int32.toInt ((ajV109 1 1 rfl).trans ((ajV98 1 1 rfl).trans ((ajV89 1 1 rfl).trans ((ajV82 1 1 rfl).trans ((up2_k hV24 (by decide)).trans ((ajV19 1 1 rfl).trans (ajV12 1 1 rfl)))))))
              refine g_topv (v := .ref (ad (38 + b))) (rfN_r (by first | omega | ((try (have i_t6 := Imp.go t6 (f8))); omega) | ((try (have i_t107 := Imp.go t107 (by omega))); (try (have i_t97 := Imp.go t97 (by omega))); (try (have i_t88 := Imp.go t88 (by omega))); (try (have i_t18 := Imp.go t18 (by omega))); first | omega | ((try (have i_t6 := Imp.go t6 (by omega))); (try (have i_tx := Imp.go tx (by omega))); (try (have i_cd := Imp.go cd (by omega))); (try (have i_cd := Imp.go cd (by omega))); first | omega | ((try (have i_tx := Imp.go tx (by omega))); (try (have i_t6 := Imp.go t6 (by omega))); (try (have i_t18 := Imp.go t18 (by omega))); (try (have i_t88 := Imp.go t88 (by omega))); (try (have i_t97 := Imp.go t97 (by omega))); (try (have i_t107 := Imp.go t107 (by omega))); omega))))) ?_
              refine va_getN (D := D) (ci := 0) (v := .ref (ad (60 + b))) (fs := (xfBook ad V109 b)) (C := RX0) (T := TX0) (N := 13) hx hb hg inX0 hown hK hP (38 + b) (xgBook hb2) rfl 5 (by decide) (hnw.use 609 n609 rfl) (fun _ h9 => h9) rfl dX1_readType_106 ?_
              refine lv_iload_n hx hb dX1_readType_109 rfl (lv_at hl 0 rfl) ?_
              refine lv_aload_n hx hb dX1_readType_110 rfl (lv_at hl 2 rfl) ?_
              refine va_get (D := D) (ci := 1) (v := .int (V109 1 7)) (fs := (xfReader ad V109 L110 Z)) (C := RX1) (T := TX1) (N := 9) hx hb hg inX1 hown hK hP 1 xgReader rfl 7 (by decide) (hg _ w311) (fun _ h9 => h9) rfl dX1_readType_111 ?_
              refine g_top (v := (V89 1 7)) ((ajV109 1 7 rfl).trans (ajV98 1 7 rfl)) ?_
              refine lv_iconst (v := 1) hx hb dX1_readType_114 (by decide) ?_
              refine lv_iload_n hx hb dX1_readType_115 rfl (lv_at hl 0 rfl) ?_
              refine lv_ishl hx hb dX1_readType_116 ?_
              refine lv_topi (fun z122 ez122 => ?_)
              refine lv_ior hx hb dX1_readType_117 ?_
              refine lv_topi (fun z123 ez123 => ?_)
              have il124 : b < 2 := by first | exact om_f940a4667dd6 hb2 | first | omega | ((try (have i_t6 := Imp.go t6 (f8))); omega) | ((try (have i_t107 := Imp.go t107 (by omega))); (try (have i_t97 := Imp.go t97 (by omega))); (try (have i_t88 := Imp.go t88 (by omega))); (try (have i_t18 := Imp.go t18 (by omega))); first | omega | ((try (have i_t6 := Imp.go t6 (by omega))); (try (have i_tx := Imp.go tx (by omega))); (try (have i_cd := Imp.go cd (by omega))); (try (have i_cd := Imp.go cd (by omega))); first | omega | ((try (have i_tx := Imp.go tx (by omega))); (try (have i_t6 := Imp.go t6 (by omega))); (try (have i_t18 := Imp.go t18 (by omega))); (try (have i_t88 := Imp.go t88 (by omega))); (try (have i_t97 := Imp.go t97 (by omega))); (try (have i_t107 := Imp.go t107 (by omega))); omega)))
              refine va_iast (D := D) (i := z103) (x := z123) hx hb hK hP hD hS (60 + b) (53 + b) (xgtypeUnder il124) (xttypeUnder il124) (i_in (a := z103.toInt) rfl (by first | exact om_d6faf715ef82 rgz103.1 rgz103.2 f120 | first | omega | ((try (have i_t6 := Imp.go t6 (f8))); omega) | ((try (have i_t107 := Imp.go t107 (by omega))); (try (have i_t97 := Imp.go t97 (by omega))); (try (have i_t88 := Imp.go t88 (by omega))); (try (have i_t18 := Imp.go t18 (by omega))); first | omega | ((try (have i_t6 := Imp.go t6 (by omega))); (try (have i_tx := Imp.go tx (by omega))); (try (have i_cd := Imp.go cd (by omega))); (try (have i_cd := Imp.go cd (by omega))); first | omega | ((try (have i_tx := Imp.go tx (by omega))); (try (have i_t6 := Imp.go t6 (by omega))); (try (have i_t18 := Imp.go t18 (by omega))); (try (have i_t88 := Imp.go t88 (by omega))); (try (have i_t97 := Imp.go t97 (by omega))); (try (have i_t107 := Imp.go t107 (by omega))); omega))))) dX1_readType_118 (fun H locs hP hD hS => ?_)
              have kc125 := i_clamp (x := z103) rfl (by first | exact om_e3b1d6ac9ce8 rgz103.1 f120 | first | omega | ((try (have i_t6 := Imp.go t6 (f8))); omega) | ((try (have i_t107 := Imp.go t107 (by omega))); (try (have i_t97 := Imp.go t97 (by omega))); (try (have i_t88 := Imp.go t88 (by omega))); (try (have i_t18 := Imp.go t18 (by omega))); first | omega | ((try (have i_t6 := Imp.go t6 (by omega))); (try (have i_tx := Imp.go tx (by omega))); (try (have i_cd := Imp.go cd (by omega))); (try (have i_cd := Imp.go cd (by omega))); first | omega | ((try (have i_tx := Imp.go tx (by omega))); (try (have i_t6 := Imp.go t6 (by omega))); (try (have i_t18 := Imp.go t18 (by omega))); (try (have i_t88 := Imp.go t88 (by omega))); (try (have i_t97 := Imp.go t97 (by omega))); (try (have i_t107 := Imp.go t107 (by omega))); omega))))
              have kl126 : (Int32.toNatClampNeg z103) < 24 := by first | exact om_c7c513f8a5c3 rgz103.2 kc125 | first | omega | ((try (have i_t6 := Imp.go t6 (f8))); omega) | ((try (have i_t107 := Imp.go t107 (by omega))); (try (have i_t97 := Imp.go t97 (by omega))); (try (have i_t88 := Imp.go t88 (by omega))); (try (have i_t18 := Imp.go t18 (by omega))); first | omega | ((try (have i_t6 := Imp.go t6 (by omega))); (try (have i_tx := Imp.go tx (by omega))); (try (have i_cd := Imp.go cd (by omega))); (try (have i_cd := Imp.go cd (by omega))); first | omega | ((try (have i_tx := Imp.go tx (by omega))); (try (have i_t6 := Imp.go t6 (by omega))); (try (have i_t18 := Imp.go t18 (by omega))); (try (have i_t88 := Imp.go t88 (by omega))); (try (have i_t97 := Imp.go t97 (by omega))); (try (have i_t107 := Imp.go t107 (by omega))); omega)))
              obtain ⟨V127, hV127⟩ : ∃ z, z = up2 V109 45 (24 * b + (Int32.toNatClampNeg z103)) z123 := ⟨_, rfl⟩
              have ew128 : (xw ad kk V109 L110 Z).set (60 + b) ((ad (60 + b)), .inl ((kk (60 + b)), 24, .inl (upd (fun q => if q < 24 then V109 45 (24 * b + q) else 0) (Int32.toNatClampNeg z103) z123))) = xw ad kk V127 L110 Z := by rw [hV127]; exact xptypeUnder il124 kl126
              have hP : va_P D vwCl (xw ad kk V127 L110 Z) H := by rw [← ew128]; exact hP
              have hD : va_D A (xw ad kk V127 L110 Z) := by rw [← ew128]; exact hD
              have hMV127 : rgd bX V127 := hMV109.put hV127 (i_full _)
              have agV127 : agr [(1, 3), (1, 6), (1, 7), (6, 8), (6, 9), (6, 10)] [43, 44, 45] V V127 := agV109.up hV127 rfl
              have fwV127 : frX (xR b) V V127 := frX.up fwV109 hV127 (Or.inr ⟨(by show 24 * b ≤ (24 * b + (Int32.toNatClampNeg z103)); first | exact om_9f0c33578b85 rgz103.1 f120 kc125 | first | omega | ((try (have i_t6 := Imp.go t6 (f8))); omega) | ((try (have i_t107 := Imp.go t107 (by omega))); (try (have i_t97 := Imp.go t97 (by omega))); (try (have i_t88 := Imp.go t88 (by omega))); (try (have i_t18 := Imp.go t18 (by omega))); first | omega | ((try (have i_t6 := Imp.go t6 (by omega))); (try (have i_tx := Imp.go tx (by omega))); (try (have i_cd := Imp.go cd (by omega))); (try (have i_cd := Imp.go cd (by omega))); first | omega | ((try (have i_tx := Imp.go tx (by omega))); (try (have i_t6 := Imp.go t6 (by omega))); (try (have i_t18 := Imp.go t18 (by omega))); (try (have i_t88 := Imp.go t88 (by omega))); (try (have i_t97 := Imp.go t97 (by omega))); (try (have i_t107 := Imp.go t107 (by omega))); omega)))), (by show (24 * b + (Int32.toNatClampNeg z103)) < 24 * b + 24; first | exact om_ef8fe39b3557 rgz103.2 kc125 | first | omega | ((try (have i_t6 := Imp.go t6 (f8))); omega) | ((try (have i_t107 := Imp.go t107 (by omega))); (try (have i_t97 := Imp.go t97 (by omega))); (try (have i_t88 := Imp.go t88 (by omega))); (try (have i_t18 := Imp.go t18 (by omega))); first | omega | ((try (have i_t6 := Imp.go t6 (by omega))); (try (have i_tx := Imp.go tx (by omega))); (try (have i_cd := Imp.go cd (by omega))); (try (have i_cd := Imp.go cd (by omega))); first | omega | ((try (have i_tx := Imp.go tx (by omega))); (try (have i_t6 := Imp.go t6 (by omega))); (try (have i_t18 := Imp.go t18 (by omega))); (try (have i_t88 := Imp.go t88 (by omega))); (try (have i_t97 := Imp.go t97 (by omega))); (try (have i_t107 := Imp.go t107 (by omega))); omega))))⟩)
              refine lv_iconst (v := 1) hx hb dX1_readType_119 (by decide) ?_
              have pq129 : (V127 1 3).toInt = ((V98 1 3)).toInt := congrArg Int32.toInt ((up2_o hV127 (by decide)).trans (ajV109 1 3 rfl))
              have px130 : px V V98 b := px.tr (px.rf : px V V b) (px.ag (show agr [(1, 3), (1, 6), (1, 7), (6, 8), (6, 9), (6, 10)] [] V V98 from (agr.tr (agr.tr (agr.tr (agr.up (agr.tr (agr.tr agr.rf ajV12 (by decide) (by decide)) ajV19 (by decide) (by decide)) hV24 rfl) ajV82 (by decide) (by decide)) ajV89 (by decide) (by decide)) ajV98 (by decide) (by decide))) (fun _ => rfl) (fun _ => rfl) (fun _ => rfl))
              have px131 : px V V109 b := px.tr px130 ⟨p0x.ag ajV109 (fun _ => rfl) (fun _ => rfl), t108 _ (by omega)⟩
              have px132 : px V V127 b := px.tr px131 (px.ag (show agr [] [45] V109 V127 from (agr.up agr.rf hV127 rfl)) (fun _ => rfl) (fun _ => rfl) (fun _ => rfl))
              have tx133 : TX V127 b := TX.ag tx (show agr [(1, 3), (1, 6), (1, 7), (6, 8), (6, 9), (6, 10)] [43, 44, 45] V V127 from (agr.up (agr.tr (agr.tr (agr.tr (agr.tr (agr.up (agr.tr (agr.tr agr.rf ajV12 (by decide) (by decide)) ajV19 (by decide) (by decide)) hV24 rfl) ajV82 (by decide) (by decide)) ajV89 (by decide) (by decide)) ajV98 (by decide) (by decide)) ajV109 (by decide) (by decide)) hV127 rfl)) px132 (fun _ => rfl) (fun _ => rfl) (fun _ => rfl) (fun _ => rfl) (fun _ => rfl) (fun _ => rfl)
              have cd134 : CD V127 b := ⟨CB.ag cd.1 (show agr [(1, 3), (1, 6), (1, 7), (6, 8), (6, 9), (6, 10)] [43, 44, 45] V V127 from (agr.up (agr.tr (agr.tr (agr.tr (agr.tr (agr.up (agr.tr (agr.tr agr.rf ajV12 (by decide) (by decide)) ajV19 (by decide) (by decide)) hV24 rfl) ajV82 (by decide) (by decide)) ajV89 (by decide) (by decide)) ajV98 (by decide) (by decide)) ajV109 (by decide) (by decide)) hV127 rfl)) (fun _ => rfl) (fun _ => rfl), CO.ag cd.2 (show agr [(1, 3), (1, 6), (1, 7), (6, 8), (6, 9), (6, 10)] [43, 44, 45] V V127 from (agr.up (agr.tr (agr.tr (agr.tr (agr.tr (agr.up (agr.tr (agr.tr agr.rf ajV12 (by decide) (by decide)) ajV19 (by decide) (by decide)) hV24 rfl) ajV82 (by decide) (by decide)) ajV89 (by decide) (by decide)) ajV98 (by decide) (by decide)) ajV109 (by decide) (by decide)) hV127 rfl)) (fun _ => rfl) (fun _ => rfl)⟩
              have px135 : px V V98 b := px.tr (px.rf : px V V b) (px.ag (show agr [(1, 3), (1, 6), (1, 7), (6, 8), (6, 9), (6, 10)] [] V V98 from (agr.tr (agr.tr (agr.tr (agr.up (agr.tr (agr.tr agr.rf ajV12 (by decide) (by decide)) ajV19 (by decide) (by decide)) hV24 rfl) ajV82 (by decide) (by decide)) ajV89 (by decide) (by decide)) ajV98 (by decide) (by decide))) (fun _ => rfl) (fun _ => rfl) (fun _ => rfl))
              have px136 : px V V109 b := px.tr px135 ⟨p0x.ag ajV109 (fun _ => rfl) (fun _ => rfl), t108 _ (by omega)⟩
              have px137 : px V V127 b := px.tr px136 (px.ag (show agr [] [45] V109 V127 from (agr.up agr.rf hV127 rfl)) (fun _ => rfl) (fun _ => rfl) (fun _ => rfl))
              exact W.zret (v := 1) hx hb hr rfl (fun t ht hW => ⟨⟨1, (V127, L110), rfl, ⟨hMV127, agV127, alL110, fwV127, (by decide), tx133, cd134, px137, (Imp.mk (fun hp => absurd hp (by decide)))⟩, by rw [ht]; exact hP, va_K.moved hW.alike hK, hD⟩, hS.F ht⟩) hS.2.2 dX1_readType_120
          · skip
            have f138 : z94.toInt = 0 := b_eq rfl (by decide) c100
            refine lv_iconst (v := 0) hx hb dX1_readType_83 (by decide) ?_
            have px139 : px V V98 b := px.tr (px.rf : px V V b) (px.ag (show agr [(1, 3), (1, 6), (1, 7), (6, 8), (6, 9), (6, 10)] [] V V98 from (agr.tr (agr.tr (agr.tr (agr.up (agr.tr (agr.tr agr.rf ajV12 (by decide) (by decide)) ajV19 (by decide) (by decide)) hV24 rfl) ajV82 (by decide) (by decide)) ajV89 (by decide) (by decide)) ajV98 (by decide) (by decide))) (fun _ => rfl) (fun _ => rfl) (fun _ => rfl))
            have tx140 : TX V98 b := TX.ag tx (show agr [(1, 3), (1, 6), (1, 7), (6, 8), (6, 9), (6, 10)] [] V V98 from (agr.tr (agr.tr (agr.tr (agr.up (agr.tr (agr.tr agr.rf ajV12 (by decide) (by decide)) ajV19 (by decide) (by decide)) hV24 rfl) ajV82 (by decide) (by decide)) ajV89 (by decide) (by decide)) ajV98 (by decide) (by decide))) px139 (fun _ => rfl) (fun _ => rfl) (fun _ => rfl) (fun _ => rfl) (fun _ => rfl) (fun _ => rfl)
            have cd141 : CD V98 b := ⟨CB.ag cd.1 (show agr [(1, 3), (1, 6), (1, 7), (6, 8), (6, 9), (6, 10)] [] V V98 from (agr.tr (agr.tr (agr.tr (agr.up (agr.tr (agr.tr agr.rf ajV12 (by decide) (by decide)) ajV19 (by decide) (by decide)) hV24 rfl) ajV82 (by decide) (by decide)) ajV89 (by decide) (by decide)) ajV98 (by decide) (by decide))) (fun _ => rfl) (fun _ => rfl), CO.ag cd.2 (show agr [(1, 3), (1, 6), (1, 7), (6, 8), (6, 9), (6, 10)] [] V V98 from (agr.tr (agr.tr (agr.tr (agr.up (agr.tr (agr.tr agr.rf ajV12 (by decide) (by decide)) ajV19 (by decide) (by decide)) hV24 rfl) ajV82 (by decide) (by decide)) ajV89 (by decide) (by decide)) ajV98 (by decide) (by decide))) (fun _ => rfl) (fun _ => rfl)⟩
            have px142 : px V V98 b := px.tr (px.rf : px V V b) (px.ag (show agr [(1, 3), (1, 6), (1, 7), (6, 8), (6, 9), (6, 10)] [] V V98 from (agr.tr (agr.tr (agr.tr (agr.up (agr.tr (agr.tr agr.rf ajV12 (by decide) (by decide)) ajV19 (by decide) (by decide)) hV24 rfl) ajV82 (by decide) (by decide)) ajV89 (by decide) (by decide)) ajV98 (by decide) (by decide))) (fun _ => rfl) (fun _ => rfl) (fun _ => rfl))
            exact W.zret (v := 0) hx hb hr rfl (fun t ht hW => ⟨⟨0, (V98, L99), rfl, ⟨hMV98, agV98, alL99, fwV98, (by decide), tx140, cd141, px142, (Imp.mk (fun _ => (show 1 ≤ (V98 1 3).toInt from by first | exact om_f8d8213eda45 ((Imp.go t97 (f138))) | first | omega | ((try (have i_t97 := Imp.go t97 (f138))); (try (have i_t6 := Imp.go t6 (f8))); omega) | ((try (have i_t97 := Imp.go t97 (by omega))); (try (have i_t88 := Imp.go t88 (by omega))); (try (have i_t18 := Imp.go t18 (by omega))); (try (have i_t6 := Imp.go t6 (by omega))); first | omega | ((try (have i_tx := Imp.go tx (by omega))); (try (have i_cd := Imp.go cd (by omega))); (try (have i_cd := Imp.go cd (by omega))); (try (have i_tx := Imp.go tx (by omega))); first | omega | ((try (have i_t6 := Imp.go t6 (by omega))); (try (have i_t18 := Imp.go t18 (by omega))); (try (have i_t88 := Imp.go t88 (by omega))); (try (have i_t97 := Imp.go t97 (by omega))); omega))))))⟩, by rw [ht]; exact hP, va_K.moved hW.alike hK, hD⟩, hS.F ht⟩) hS.2.2 dX1_readType_84
        · skip
          have f143 : z85.toInt = 0 := b_eq rfl (by decide) c91
          refine lv_iconst (v := 0) hx hb dX1_readType_72 (by decide) ?_
          have px144 : px V V89 b := px.tr (px.rf : px V V b) (px.ag (show agr [(1, 3), (1, 6), (1, 7), (6, 8), (6, 9), (6, 10)] [] V V89 from (agr.tr (agr.tr (agr.up (agr.tr (agr.tr agr.rf ajV12 (by decide) (by decide)) ajV19 (by decide) (by decide)) hV24 rfl) ajV82 (by decide) (by decide)) ajV89 (by decide) (by decide))) (fun _ => rfl) (fun _ => rfl) (fun _ => rfl))
          have tx145 : TX V89 b := TX.ag tx (show agr [(1, 3), (1, 6), (1, 7), (6, 8), (6, 9), (6, 10)] [] V V89 from (agr.tr (agr.tr (agr.up (agr.tr (agr.tr agr.rf ajV12 (by decide) (by decide)) ajV19 (by decide) (by decide)) hV24 rfl) ajV82 (by decide) (by decide)) ajV89 (by decide) (by decide))) px144 (fun _ => rfl) (fun _ => rfl) (fun _ => rfl) (fun _ => rfl) (fun _ => rfl) (fun _ => rfl)
          have cd146 : CD V89 b := ⟨CB.ag cd.1 (show agr [(1, 3), (1, 6), (1, 7), (6, 8), (6, 9), (6, 10)] [] V V89 from (agr.tr (agr.tr (agr.up (agr.tr (agr.tr agr.rf ajV12 (by decide) (by decide)) ajV19 (by decide) (by decide)) hV24 rfl) ajV82 (by decide) (by decide)) ajV89 (by decide) (by decide))) (fun _ => rfl) (fun _ => rfl), CO.ag cd.2 (show agr [(1, 3), (1, 6), (1, 7), (6, 8), (6, 9), (6, 10)] [] V V89 from (agr.tr (agr.tr (agr.up (agr.tr (agr.tr agr.rf ajV12 (by decide) (by decide)) ajV19 (by decide) (by decide)) hV24 rfl) ajV82 (by decide) (by decide)) ajV89 (by decide) (by decide))) (fun _ => rfl) (fun _ => rfl)⟩
          have px147 : px V V89 b := px.tr (px.rf : px V V b) (px.ag (show agr [(1, 3), (1, 6), (1, 7), (6, 8), (6, 9), (6, 10)] [] V V89 from (agr.tr (agr.tr (agr.up (agr.tr (agr.tr agr.rf ajV12 (by decide) (by decide)) ajV19 (by decide) (by decide)) hV24 rfl) ajV82 (by decide) (by decide)) ajV89 (by decide) (by decide))) (fun _ => rfl) (fun _ => rfl) (fun _ => rfl))
          exact W.zret (v := 0) hx hb hr rfl (fun t ht hW => ⟨⟨0, (V89, L90), rfl, ⟨hMV89, agV89, alL90, fwV89, (by decide), tx145, cd146, px147, (Imp.mk (fun _ => (show 1 ≤ (V89 1 3).toInt from by first | exact om_f8d8213eda45 ((Imp.go t88 (f143))) | first | omega | ((try (have i_t88 := Imp.go t88 (f143))); (try (have i_t6 := Imp.go t6 (f8))); omega) | ((try (have i_t88 := Imp.go t88 (by omega))); (try (have i_t18 := Imp.go t18 (by omega))); (try (have i_t6 := Imp.go t6 (by omega))); (try (have i_tx := Imp.go tx (by omega))); first | omega | ((try (have i_cd := Imp.go cd (by omega))); (try (have i_cd := Imp.go cd (by omega))); (try (have i_tx := Imp.go tx (by omega))); (try (have i_t6 := Imp.go t6 (by omega))); (try (have i_t18 := Imp.go t18 (by omega))); (try (have i_t88 := Imp.go t88 (by omega))); omega)))))⟩, by rw [ht]; exact hP, va_K.moved hW.alike hK, hD⟩, hS.F ht⟩) hS.2.2 dX1_readType_73
    · skip
      have f148 : z15.toInt = 0 := b_eq rfl (by decide) c21
      refine lv_iconst (v := 0) hx hb dX1_readType_33 (by decide) ?_
      have px149 : px V V19 b := px.tr (px.rf : px V V b) (px.ag (show agr [(1, 3), (6, 8), (6, 9), (6, 10)] [] V V19 from (agr.tr (agr.tr agr.rf ajV12 (by decide) (by decide)) ajV19 (by decide) (by decide))) (fun _ => rfl) (fun _ => rfl) (fun _ => rfl))
      have tx150 : TX V19 b := TX.ag tx (show agr [(1, 3), (6, 8), (6, 9), (6, 10)] [] V V19 from (agr.tr (agr.tr agr.rf ajV12 (by decide) (by decide)) ajV19 (by decide) (by decide))) px149 (fun _ => rfl) (fun _ => rfl) (fun _ => rfl) (fun _ => rfl) (fun _ => rfl) (fun _ => rfl)
      have cd151 : CD V19 b := ⟨CB.ag cd.1 (show agr [(1, 3), (6, 8), (6, 9), (6, 10)] [] V V19 from (agr.tr (agr.tr agr.rf ajV12 (by decide) (by decide)) ajV19 (by decide) (by decide))) (fun _ => rfl) (fun _ => rfl), CO.ag cd.2 (show agr [(1, 3), (6, 8), (6, 9), (6, 10)] [] V V19 from (agr.tr (agr.tr agr.rf ajV12 (by decide) (by decide)) ajV19 (by decide) (by decide))) (fun _ => rfl) (fun _ => rfl)⟩
      have px152 : px V V19 b := px.tr (px.rf : px V V b) (px.ag (show agr [(1, 3), (6, 8), (6, 9), (6, 10)] [] V V19 from (agr.tr (agr.tr agr.rf ajV12 (by decide) (by decide)) ajV19 (by decide) (by decide))) (fun _ => rfl) (fun _ => rfl) (fun _ => rfl))
      exact W.zret (v := 0) hx hb hr rfl (fun t ht hW => ⟨⟨0, (V19, L20), rfl, ⟨hMV19, agV19, alL20, fwV19, (by decide), tx150, cd151, px152, (Imp.mk (fun _ => (show 1 ≤ (V19 1 3).toInt from by first | exact om_f8d8213eda45 ((Imp.go t18 (f148))) | first | omega | ((try (have i_t18 := Imp.go t18 (f148))); (try (have i_t6 := Imp.go t6 (f8))); omega) | ((try (have i_t18 := Imp.go t18 (by omega))); (try (have i_t6 := Imp.go t6 (by omega))); (try (have i_tx := Imp.go tx (by omega))); (try (have i_cd := Imp.go cd (by omega))); first | omega | ((try (have i_cd := Imp.go cd (by omega))); (try (have i_tx := Imp.go tx (by omega))); (try (have i_t6 := Imp.go t6 (by omega))); (try (have i_t18 := Imp.go t18 (by omega))); omega)))))⟩, by rw [ht]; exact hP, va_K.moved hW.alike hK, hD⟩, hS.F ht⟩) hS.2.2 dX1_readType_34
  · skip
    have f153 : z3.toInt ≠ 0 := b_neq rfl (by decide) c7
    refine lv_aload_n hx hb dX1_readType_13 rfl (lv_at hl 0 rfl) ?_
    refine lv_iconst (v := 5) hx hb dX1_readType_14 (by decide) ?_
    have r154 : Int32.toInt 5 = 5 := by decide
    refine gA_int (gA_runV (As := [.int 5]) (rest := []) (ci := 1) (q0 := 1) hx hb hml hown hg hP hD hK hS hA hnw hgk (x_wrong l D ks H.size ad kk V L Z 5 hMV (by decide)) w867 w869 w6 w162 w870 rfl xgReader hdV_yX1_wrong ⟨Nat.le_of_ble_eq_true rfl, Nat.le_of_ble_eq_true rfl⟩ rfl hl.1 rfl (Nat.le_of_ble_eq_true rfl) dX1_readType_15 ⟨Nat.le_of_ble_eq_true rfl, Nat.le_of_ble_eq_true rfl⟩) hP hD hK hS hA (fun z155 u156 H locs w157 hP hD hK hS => ?_)
    obtain ⟨V159, L160⟩ := u156
    obtain ⟨hMV159, ajV159, axL160, rgz155, t158⟩ := w157
    have axL160 : L = L160 := Eq.symm axL160
    subst axL160
    have hP : va_P D vwCl (xw ad kk V159 L Z) H := hP
    have hD : va_D A (xw ad kk V159 L Z) := hD
    have hMV159 : rgd bX V159 := hMV159
    have ajV159 : agr [(1, 3)] [] V V159 := ajV159
    have agV159 : agr [(1, 3), (1, 6), (1, 7), (6, 8), (6, 9), (6, 10)] [43, 44, 45] V V159 := agV.tr ajV159 (by decide) (by decide)
    have fwV159 : frX (xR b) V V159 := frX.tr fwV (frX.ag ajV159 (by decide) (by decide))
    have rgz155 : 0 ≤ z155.toInt ∧ z155.toInt ≤ 0 := rgz155
    have t158 : 1 ≤ (V159 1 3).toInt := t158
    have px161 : px V V159 b := px.tr (px.rf : px V V b) (px.ag (show agr [(1, 3)] [] V V159 from (agr.tr agr.rf ajV159 (by decide) (by decide))) (fun _ => rfl) (fun _ => rfl) (fun _ => rfl))
    have tx162 : TX V159 b := TX.ag tx (show agr [(1, 3)] [] V V159 from (agr.tr agr.rf ajV159 (by decide) (by decide))) px161 (fun _ => rfl) (fun _ => rfl) (fun _ => rfl) (fun _ => rfl) (fun _ => rfl) (fun _ => rfl)
    have cd163 : CD V159 b := ⟨CB.ag cd.1 (show agr [(1, 3)] [] V V159 from (agr.tr agr.rf ajV159 (by decide) (by decide))) (fun _ => rfl) (fun _ => rfl), CO.ag cd.2 (show agr [(1, 3)] [] V V159 from (agr.tr agr.rf ajV159 (by decide) (by decide))) (fun _ => rfl) (fun _ => rfl)⟩
    have px164 : px V V159 b := px.tr (px.rf : px V V b) (px.ag (show agr [(1, 3)] [] V V159 from (agr.tr agr.rf ajV159 (by decide) (by decide))) (fun _ => rfl) (fun _ => rfl) (fun _ => rfl))
    exact W.zret (v := z155) hx hb hr (nb_ok (by omega)) (fun t ht hW => ⟨⟨z155, (V159, L), rfl, ⟨hMV159, agV159, alL, fwV159, (show 0 ≤ z155.toInt ∧ z155.toInt ≤ 1 from by first | exact om_641b3f05f166 rgz155.1 rgz155.2 | first | omega | ((try (have i_t6 := Imp.go t6 (by omega))); (try (have i_tx := Imp.go tx (by omega))); (try (have i_cd := Imp.go cd (by omega))); (try (have i_cd := Imp.go cd (by omega))); (try (have i_tx := Imp.go tx (by omega))); (try (have i_t6 := Imp.go t6 (by omega))); omega)), tx162, cd163, px164, (Imp.mk (fun hp => have hp : z155.toInt = 0 := hp; (show 1 ≤ (V159 1 3).toInt from by first | exact om_f8d8213eda45 t158 | first | omega | ((try (have i_t6 := Imp.go t6 (by omega))); (try (have i_tx := Imp.go tx (by omega))); (try (have i_cd := Imp.go cd (by omega))); (try (have i_cd := Imp.go cd (by omega))); (try (have i_tx := Imp.go tx (by omega))); (try (have i_t6 := Imp.go t6 (by omega))); omega))))⟩, by rw [ht]; exact hP, va_K.moved hW.alike hK, hD⟩, hS.F ht⟩) hS.2.2 dX1_readType_18
