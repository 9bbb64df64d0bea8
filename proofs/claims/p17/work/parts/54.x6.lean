theorem w900 : Cond.code yX6_add cX6_add 3 (some .int) ∈ GW := gw_k tk9_4 25 (rfl) rfl
theorem w897 : Cond.methodLink RX1 91 yX6_add ∈ GW := gw_k tk9_4 22 (by decide +kernel) rfl
theorem w898 : Cond.instanceMethod yX6_add ∈ GW := gw_k tk9_4 23 (by decide +kernel) rfl
theorem w899 : Cond.selects RX6 yX6_add yX6_add ∈ GW := gw_k tk9_4 24 (by decide +kernel) rfl
theorem hdV_yX6_add : yX6_add.cls = RX6 ∧ yX6_add.cls ≠ "java/lang/invoke/MethodHandle" ∧ yX6_add.cls ≠ "java/lang/invoke/VarHandle" ∧ (parseMethodDescriptor yX6_add.desc).map (fun d => d.parameters.length) = some 1 := by decide +kernel
theorem n605 : lw_tbl[605]? = some (Cond.fieldLinkNest RX1 251 "WiringHouse$Book" "methods" "LWiringHouse$Names;" "WiringHouse") := la9 (n := 155) (i := 450) lz9 (la9 (n := 240) (i := 210) ln9_1 (lb9 (i := 210) (by decide +kernel)))
theorem w930 : Cond.code yX1_takeNumbered cX1_takeNumbered 3 (some .boolean) ∈ GW := gw_k tk9_4 55 (rfl) rfl
theorem w927 : Cond.methodLink RX1 254 yX1_takeNumbered ∈ GW := gw_k tk9_4 52 (by decide +kernel) rfl
theorem w929 : Cond.instanceMethod yX1_takeNumbered ∈ GW := gw_k tk9_4 54 (by decide +kernel) rfl
theorem w16 : Cond.selects RX1 yX1_takeNumbered yX1_takeNumbered ∈ GW := gw_mem 16 (by decide +kernel) rfl
theorem hdV_yX1_takeNumbered : yX1_takeNumbered.cls = RX1 ∧ yX1_takeNumbered.cls ≠ "java/lang/invoke/MethodHandle" ∧ yX1_takeNumbered.cls ≠ "java/lang/invoke/VarHandle" ∧ (parseMethodDescriptor yX1_takeNumbered.desc).map (fun d => d.parameters.length) = some 2 := by decide +kernel
theorem n508 : lw_tbl[508]? = some (Cond.fieldLinkNest RX1 197 "WiringHouse$Component" "methodStarts" "[I" "WiringHouse") := la9 (n := 155) (i := 353) lz9 (la9 (n := 240) (i := 113) ln9_1 (lb9 (i := 113) (by decide +kernel)))
theorem n607 : lw_tbl[607]? = some (Cond.fieldLinkNest RX1 258 "WiringHouse$Book" "words" "LWiringHouse$Names;" "WiringHouse") := la9 (n := 155) (i := 452) lz9 (la9 (n := 240) (i := 212) ln9_1 (lb9 (i := 212) (by decide +kernel)))
theorem w311 : Cond.fieldLink RX1 82 "WiringHouse$BookReader" "under" "I" ∈ GW := gw_k tk9_1 156 (by decide +kernel) rfl
theorem w891 : Cond.code yX1_isToldType cX1_isToldType 1 (some .boolean) ∈ GW := gw_k tk9_4 16 (rfl) rfl
theorem w888 : Cond.methodLink RX1 158 yX1_isToldType ∈ GW := gw_k tk9_4 13 (by decide +kernel) rfl
theorem w890 : Cond.instanceMethod yX1_isToldType ∈ GW := gw_k tk9_4 15 (by decide +kernel) rfl
theorem w9 : Cond.selects RX1 yX1_isToldType yX1_isToldType ∈ GW := gw_mem 9 (by decide +kernel) rfl
theorem hdV_yX1_isToldType : yX1_isToldType.cls = RX1 ∧ yX1_isToldType.cls ≠ "java/lang/invoke/MethodHandle" ∧ yX1_isToldType.cls ≠ "java/lang/invoke/VarHandle" ∧ (parseMethodDescriptor yX1_isToldType.desc).map (fun d => d.parameters.length) = some 0 := by decide +kernel
theorem n609 : lw_tbl[609]? = some (Cond.fieldLinkNest RX1 95 "WiringHouse$Book" "typeUnder" "[I" "WiringHouse") := la9 (n := 155) (i := 454) lz9 (la9 (n := 240) (i := 214) ln9_1 (lb9 (i := 214) (by decide +kernel)))
theorem w308 : Cond.fieldLink RX1 200 "WiringHouse$BookReader" "where" "I" ∈ GW := gw_k tk9_1 153 (by decide +kernel) rfl
theorem w974 : Cond.code yX0_emit cX0_emit 2 none ∈ GW := gw_k tk9_4 99 (rfl) rfl
theorem w971 : Cond.methodLink RX1 206 yX0_emit ∈ GW := gw_k tk9_4 96 (by decide +kernel) rfl
theorem w972 : Cond.instanceMethod yX0_emit ∈ GW := gw_k tk9_4 97 (by decide +kernel) rfl
theorem w973 : Cond.selects RX0 yX0_emit yX0_emit ∈ GW := gw_k tk9_4 98 (by decide +kernel) rfl
theorem hdV_yX0_emit : yX0_emit.cls = RX0 ∧ yX0_emit.cls ≠ "java/lang/invoke/MethodHandle" ∧ yX0_emit.cls ≠ "java/lang/invoke/VarHandle" ∧ (parseMethodDescriptor yX0_emit.desc).map (fun d => d.parameters.length) = some 1 := by decide +kernel
theorem dk9_dX1_takeNumbered_0_0 : dOk cX1_takeNumbered [(0, .aload_n 0, 1), (1, .iload_n 2, 1), (2, .iconst (-1), 1), (3, .if_icmp .eq 7, 3), (10, .aload_n 1, 1), (11, .aload_n 0, 1), (12, .getfield 9, 3), (15, .getfield 222, 3), (18, .invokevirtual 91, 3), (21, .putfield 137, 3), (24, .aload_n 0, 1), (25, .getfield 137, 3), (28, .iconst (-1), 1), (29, .if_icmp .ne 9, 3), (38, .aload_n 0, 1), (39, .getfield 9, 3), (42, .invokevirtual 72, 3), (45, .iconst 1, 1), (46, .ireturn, 1), (32, .aload_n 0, 1), (33, .iconst 5, 1), (34, .invokevirtual 47, 3), (37, .ireturn, 1), (6, .iload_n 2, 1)] = true ∧ dOk cX1_takeNumbered [(7, .goto 14, 3)] = true := by decide +kernel
theorem dX1_takeNumbered_0 : decode cX1_takeNumbered 0 = .ok (.aload_n 0, 1) := dr9 dk9_dX1_takeNumbered_0_0.1 0 (0, .aload_n 0, 1) rfl
theorem dX1_takeNumbered_1 : decode cX1_takeNumbered 1 = .ok (.iload_n 2, 1) := dr9 dk9_dX1_takeNumbered_0_0.1 1 (1, .iload_n 2, 1) rfl
theorem dX1_takeNumbered_2 : decode cX1_takeNumbered 2 = .ok (.iconst (-1), 1) := dr9 dk9_dX1_takeNumbered_0_0.1 2 (2, .iconst (-1), 1) rfl
theorem dX1_takeNumbered_3 : decode cX1_takeNumbered 3 = .ok (.if_icmp .eq 7, 3) := dr9 dk9_dX1_takeNumbered_0_0.1 3 (3, .if_icmp .eq 7, 3) rfl
theorem dX1_takeNumbered_10 : decode cX1_takeNumbered 10 = .ok (.aload_n 1, 1) := dr9 dk9_dX1_takeNumbered_0_0.1 4 (10, .aload_n 1, 1) rfl
theorem dX1_takeNumbered_11 : decode cX1_takeNumbered 11 = .ok (.aload_n 0, 1) := dr9 dk9_dX1_takeNumbered_0_0.1 5 (11, .aload_n 0, 1) rfl
theorem dX1_takeNumbered_12 : decode cX1_takeNumbered 12 = .ok (.getfield 9, 3) := dr9 dk9_dX1_takeNumbered_0_0.1 6 (12, .getfield 9, 3) rfl
theorem dX1_takeNumbered_15 : decode cX1_takeNumbered 15 = .ok (.getfield 222, 3) := dr9 dk9_dX1_takeNumbered_0_0.1 7 (15, .getfield 222, 3) rfl
theorem dX1_takeNumbered_18 : decode cX1_takeNumbered 18 = .ok (.invokevirtual 91, 3) := dr9 dk9_dX1_takeNumbered_0_0.1 8 (18, .invokevirtual 91, 3) rfl
theorem dX1_takeNumbered_21 : decode cX1_takeNumbered 21 = .ok (.putfield 137, 3) := dr9 dk9_dX1_takeNumbered_0_0.1 9 (21, .putfield 137, 3) rfl
theorem dX1_takeNumbered_24 : decode cX1_takeNumbered 24 = .ok (.aload_n 0, 1) := dr9 dk9_dX1_takeNumbered_0_0.1 10 (24, .aload_n 0, 1) rfl
theorem dX1_takeNumbered_25 : decode cX1_takeNumbered 25 = .ok (.getfield 137, 3) := dr9 dk9_dX1_takeNumbered_0_0.1 11 (25, .getfield 137, 3) rfl
theorem dX1_takeNumbered_28 : decode cX1_takeNumbered 28 = .ok (.iconst (-1), 1) := dr9 dk9_dX1_takeNumbered_0_0.1 12 (28, .iconst (-1), 1) rfl
theorem dX1_takeNumbered_29 : decode cX1_takeNumbered 29 = .ok (.if_icmp .ne 9, 3) := dr9 dk9_dX1_takeNumbered_0_0.1 13 (29, .if_icmp .ne 9, 3) rfl
theorem dX1_takeNumbered_38 : decode cX1_takeNumbered 38 = .ok (.aload_n 0, 1) := dr9 dk9_dX1_takeNumbered_0_0.1 14 (38, .aload_n 0, 1) rfl
theorem dX1_takeNumbered_39 : decode cX1_takeNumbered 39 = .ok (.getfield 9, 3) := dr9 dk9_dX1_takeNumbered_0_0.1 15 (39, .getfield 9, 3) rfl
theorem dX1_takeNumbered_42 : decode cX1_takeNumbered 42 = .ok (.invokevirtual 72, 3) := dr9 dk9_dX1_takeNumbered_0_0.1 16 (42, .invokevirtual 72, 3) rfl
theorem dX1_takeNumbered_45 : decode cX1_takeNumbered 45 = .ok (.iconst 1, 1) := dr9 dk9_dX1_takeNumbered_0_0.1 17 (45, .iconst 1, 1) rfl
theorem dX1_takeNumbered_46 : decode cX1_takeNumbered 46 = .ok (.ireturn, 1) := dr9 dk9_dX1_takeNumbered_0_0.1 18 (46, .ireturn, 1) rfl
theorem dX1_takeNumbered_32 : decode cX1_takeNumbered 32 = .ok (.aload_n 0, 1) := dr9 dk9_dX1_takeNumbered_0_0.1 19 (32, .aload_n 0, 1) rfl
theorem dX1_takeNumbered_33 : decode cX1_takeNumbered 33 = .ok (.iconst 5, 1) := dr9 dk9_dX1_takeNumbered_0_0.1 20 (33, .iconst 5, 1) rfl
theorem dX1_takeNumbered_34 : decode cX1_takeNumbered 34 = .ok (.invokevirtual 47, 3) := dr9 dk9_dX1_takeNumbered_0_0.1 21 (34, .invokevirtual 47, 3) rfl
theorem dX1_takeNumbered_37 : decode cX1_takeNumbered 37 = .ok (.ireturn, 1) := dr9 dk9_dX1_takeNumbered_0_0.1 22 (37, .ireturn, 1) rfl
theorem dX1_takeNumbered_6 : decode cX1_takeNumbered 6 = .ok (.iload_n 2, 1) := dr9 dk9_dX1_takeNumbered_0_0.1 23 (6, .iload_n 2, 1) rfl
theorem dX1_takeNumbered_7 : decode cX1_takeNumbered 7 = .ok (.goto 14, 3) := dr9 dk9_dX1_takeNumbered_0_0.2 0 (7, .goto 14, 3) rfl
theorem dk9_dX1_takeMethod_0_0 : dOk cX1_takeMethod [(0, .aload_n 0, 1), (1, .getfield 9, 3), (4, .getfield 37, 3), (7, .iconst 3, 1), (8, .if_icmp .eq 9, 3), (17, .aload_n 0, 1), (18, .getfield 15, 3), (21, .getfield 251, 3), (24, .aload_n 0, 1), (25, .getfield 9, 3), (28, .getfield 222, 3), (31, .invokevirtual 248, 3), (34, .istore_n 2, 1), (35, .iload_n 2, 1), (36, .iconst (-1), 1), (37, .if_icmp .eq 23, 3), (60, .aload_n 0, 1), (61, .aload_n 0, 1), (62, .getfield 15, 3), (65, .getfield 251, 3), (68, .iload_n 2, 1), (69, .invokevirtual 254, 3), (72, .ireturn, 1), (40, .aload_n 1, 1)] = true ∧ dOk cX1_takeMethod [(41, .ifnull 19, 3), (11, .aload_n 0, 1), (12, .iconst 1, 1), (13, .invokevirtual 47, 3), (16, .ireturn, 1), (44, .aload_n 1, 1), (45, .getfield 197, 3), (48, .iload_n 2, 1), (49, .iaload, 1), (50, .iconst (-1), 1), (51, .if_icmp .eq 9, 3), (54, .aload_n 0, 1), (55, .iconst 3, 1), (56, .invokevirtual 47, 3), (59, .ireturn, 1)] = true := by decide +kernel
theorem dX1_takeMethod_0 : decode cX1_takeMethod 0 = .ok (.aload_n 0, 1) := dr9 dk9_dX1_takeMethod_0_0.1 0 (0, .aload_n 0, 1) rfl
theorem dX1_takeMethod_1 : decode cX1_takeMethod 1 = .ok (.getfield 9, 3) := dr9 dk9_dX1_takeMethod_0_0.1 1 (1, .getfield 9, 3) rfl
theorem dX1_takeMethod_4 : decode cX1_takeMethod 4 = .ok (.getfield 37, 3) := dr9 dk9_dX1_takeMethod_0_0.1 2 (4, .getfield 37, 3) rfl
theorem dX1_takeMethod_7 : decode cX1_takeMethod 7 = .ok (.iconst 3, 1) := dr9 dk9_dX1_takeMethod_0_0.1 3 (7, .iconst 3, 1) rfl
theorem dX1_takeMethod_8 : decode cX1_takeMethod 8 = .ok (.if_icmp .eq 9, 3) := dr9 dk9_dX1_takeMethod_0_0.1 4 (8, .if_icmp .eq 9, 3) rfl
theorem dX1_takeMethod_17 : decode cX1_takeMethod 17 = .ok (.aload_n 0, 1) := dr9 dk9_dX1_takeMethod_0_0.1 5 (17, .aload_n 0, 1) rfl
theorem dX1_takeMethod_18 : decode cX1_takeMethod 18 = .ok (.getfield 15, 3) := dr9 dk9_dX1_takeMethod_0_0.1 6 (18, .getfield 15, 3) rfl
theorem dX1_takeMethod_21 : decode cX1_takeMethod 21 = .ok (.getfield 251, 3) := dr9 dk9_dX1_takeMethod_0_0.1 7 (21, .getfield 251, 3) rfl
theorem dX1_takeMethod_24 : decode cX1_takeMethod 24 = .ok (.aload_n 0, 1) := dr9 dk9_dX1_takeMethod_0_0.1 8 (24, .aload_n 0, 1) rfl
theorem dX1_takeMethod_25 : decode cX1_takeMethod 25 = .ok (.getfield 9, 3) := dr9 dk9_dX1_takeMethod_0_0.1 9 (25, .getfield 9, 3) rfl
theorem dX1_takeMethod_28 : decode cX1_takeMethod 28 = .ok (.getfield 222, 3) := dr9 dk9_dX1_takeMethod_0_0.1 10 (28, .getfield 222, 3) rfl
theorem dX1_takeMethod_31 : decode cX1_takeMethod 31 = .ok (.invokevirtual 248, 3) := dr9 dk9_dX1_takeMethod_0_0.1 11 (31, .invokevirtual 248, 3) rfl
theorem dX1_takeMethod_34 : decode cX1_takeMethod 34 = .ok (.istore_n 2, 1) := dr9 dk9_dX1_takeMethod_0_0.1 12 (34, .istore_n 2, 1) rfl
theorem dX1_takeMethod_35 : decode cX1_takeMethod 35 = .ok (.iload_n 2, 1) := dr9 dk9_dX1_takeMethod_0_0.1 13 (35, .iload_n 2, 1) rfl
theorem dX1_takeMethod_36 : decode cX1_takeMethod 36 = .ok (.iconst (-1), 1) := dr9 dk9_dX1_takeMethod_0_0.1 14 (36, .iconst (-1), 1) rfl
theorem dX1_takeMethod_37 : decode cX1_takeMethod 37 = .ok (.if_icmp .eq 23, 3) := dr9 dk9_dX1_takeMethod_0_0.1 15 (37, .if_icmp .eq 23, 3) rfl
theorem dX1_takeMethod_60 : decode cX1_takeMethod 60 = .ok (.aload_n 0, 1) := dr9 dk9_dX1_takeMethod_0_0.1 16 (60, .aload_n 0, 1) rfl
theorem dX1_takeMethod_61 : decode cX1_takeMethod 61 = .ok (.aload_n 0, 1) := dr9 dk9_dX1_takeMethod_0_0.1 17 (61, .aload_n 0, 1) rfl
theorem dX1_takeMethod_62 : decode cX1_takeMethod 62 = .ok (.getfield 15, 3) := dr9 dk9_dX1_takeMethod_0_0.1 18 (62, .getfield 15, 3) rfl
theorem dX1_takeMethod_65 : decode cX1_takeMethod 65 = .ok (.getfield 251, 3) := dr9 dk9_dX1_takeMethod_0_0.1 19 (65, .getfield 251, 3) rfl
theorem dX1_takeMethod_68 : decode cX1_takeMethod 68 = .ok (.iload_n 2, 1) := dr9 dk9_dX1_takeMethod_0_0.1 20 (68, .iload_n 2, 1) rfl
theorem dX1_takeMethod_69 : decode cX1_takeMethod 69 = .ok (.invokevirtual 254, 3) := dr9 dk9_dX1_takeMethod_0_0.1 21 (69, .invokevirtual 254, 3) rfl
theorem dX1_takeMethod_72 : decode cX1_takeMethod 72 = .ok (.ireturn, 1) := dr9 dk9_dX1_takeMethod_0_0.1 22 (72, .ireturn, 1) rfl
theorem dX1_takeMethod_40 : decode cX1_takeMethod 40 = .ok (.aload_n 1, 1) := dr9 dk9_dX1_takeMethod_0_0.1 23 (40, .aload_n 1, 1) rfl
theorem dX1_takeMethod_41 : decode cX1_takeMethod 41 = .ok (.ifnull 19, 3) := dr9 dk9_dX1_takeMethod_0_0.2 0 (41, .ifnull 19, 3) rfl
theorem dX1_takeMethod_11 : decode cX1_takeMethod 11 = .ok (.aload_n 0, 1) := dr9 dk9_dX1_takeMethod_0_0.2 1 (11, .aload_n 0, 1) rfl
theorem dX1_takeMethod_12 : decode cX1_takeMethod 12 = .ok (.iconst 1, 1) := dr9 dk9_dX1_takeMethod_0_0.2 2 (12, .iconst 1, 1) rfl
theorem dX1_takeMethod_13 : decode cX1_takeMethod 13 = .ok (.invokevirtual 47, 3) := dr9 dk9_dX1_takeMethod_0_0.2 3 (13, .invokevirtual 47, 3) rfl
theorem dX1_takeMethod_16 : decode cX1_takeMethod 16 = .ok (.ireturn, 1) := dr9 dk9_dX1_takeMethod_0_0.2 4 (16, .ireturn, 1) rfl
theorem dX1_takeMethod_44 : decode cX1_takeMethod 44 = .ok (.aload_n 1, 1) := dr9 dk9_dX1_takeMethod_0_0.2 5 (44, .aload_n 1, 1) rfl
theorem dX1_takeMethod_45 : decode cX1_takeMethod 45 = .ok (.getfield 197, 3) := dr9 dk9_dX1_takeMethod_0_0.2 6 (45, .getfield 197, 3) rfl
theorem dX1_takeMethod_48 : decode cX1_takeMethod 48 = .ok (.iload_n 2, 1) := dr9 dk9_dX1_takeMethod_0_0.2 7 (48, .iload_n 2, 1) rfl
theorem dX1_takeMethod_49 : decode cX1_takeMethod 49 = .ok (.iaload, 1) := dr9 dk9_dX1_takeMethod_0_0.2 8 (49, .iaload, 1) rfl
theorem dX1_takeMethod_50 : decode cX1_takeMethod 50 = .ok (.iconst (-1), 1) := dr9 dk9_dX1_takeMethod_0_0.2 9 (50, .iconst (-1), 1) rfl
theorem dX1_takeMethod_51 : decode cX1_takeMethod 51 = .ok (.if_icmp .eq 9, 3) := dr9 dk9_dX1_takeMethod_0_0.2 10 (51, .if_icmp .eq 9, 3) rfl
theorem dX1_takeMethod_54 : decode cX1_takeMethod 54 = .ok (.aload_n 0, 1) := dr9 dk9_dX1_takeMethod_0_0.2 11 (54, .aload_n 0, 1) rfl
theorem dX1_takeMethod_55 : decode cX1_takeMethod 55 = .ok (.iconst 3, 1) := dr9 dk9_dX1_takeMethod_0_0.2 12 (55, .iconst 3, 1) rfl
theorem dX1_takeMethod_56 : decode cX1_takeMethod 56 = .ok (.invokevirtual 47, 3) := dr9 dk9_dX1_takeMethod_0_0.2 13 (56, .invokevirtual 47, 3) rfl
theorem dX1_takeMethod_59 : decode cX1_takeMethod 59 = .ok (.ireturn, 1) := dr9 dk9_dX1_takeMethod_0_0.2 14 (59, .ireturn, 1) rfl
theorem dk9_dX1_takeCalled_0_0 : dOk cX1_takeCalled [(0, .aload_n 0, 1), (1, .getfield 9, 3), (4, .invokevirtual 72, 3), (7, .aload_n 0, 1), (8, .getfield 9, 3), (11, .getfield 37, 3), (14, .iconst 3, 1), (15, .if_icmp .eq 9, 3), (24, .aload_n 0, 1), (25, .aload_n 0, 1), (26, .getfield 15, 3), (29, .getfield 258, 3), (32, .aload_n 0, 1), (33, .getfield 15, 3), (36, .getfield 258, 3), (39, .aload_n 0, 1), (40, .getfield 9, 3), (43, .getfield 222, 3), (46, .invokevirtual 248, 3), (49, .invokevirtual 254, 3), (52, .ireturn, 1), (18, .aload_n 0, 1), (19, .iconst 1, 1), (20, .invokevirtual 47, 3)] = true ∧ dOk cX1_takeCalled [(23, .ireturn, 1)] = true := by decide +kernel
theorem dX1_takeCalled_0 : decode cX1_takeCalled 0 = .ok (.aload_n 0, 1) := dr9 dk9_dX1_takeCalled_0_0.1 0 (0, .aload_n 0, 1) rfl
theorem dX1_takeCalled_1 : decode cX1_takeCalled 1 = .ok (.getfield 9, 3) := dr9 dk9_dX1_takeCalled_0_0.1 1 (1, .getfield 9, 3) rfl
theorem dX1_takeCalled_4 : decode cX1_takeCalled 4 = .ok (.invokevirtual 72, 3) := dr9 dk9_dX1_takeCalled_0_0.1 2 (4, .invokevirtual 72, 3) rfl
theorem dX1_takeCalled_7 : decode cX1_takeCalled 7 = .ok (.aload_n 0, 1) := dr9 dk9_dX1_takeCalled_0_0.1 3 (7, .aload_n 0, 1) rfl
theorem dX1_takeCalled_8 : decode cX1_takeCalled 8 = .ok (.getfield 9, 3) := dr9 dk9_dX1_takeCalled_0_0.1 4 (8, .getfield 9, 3) rfl
theorem dX1_takeCalled_11 : decode cX1_takeCalled 11 = .ok (.getfield 37, 3) := dr9 dk9_dX1_takeCalled_0_0.1 5 (11, .getfield 37, 3) rfl
theorem dX1_takeCalled_14 : decode cX1_takeCalled 14 = .ok (.iconst 3, 1) := dr9 dk9_dX1_takeCalled_0_0.1 6 (14, .iconst 3, 1) rfl
theorem dX1_takeCalled_15 : decode cX1_takeCalled 15 = .ok (.if_icmp .eq 9, 3) := dr9 dk9_dX1_takeCalled_0_0.1 7 (15, .if_icmp .eq 9, 3) rfl
theorem dX1_takeCalled_24 : decode cX1_takeCalled 24 = .ok (.aload_n 0, 1) := dr9 dk9_dX1_takeCalled_0_0.1 8 (24, .aload_n 0, 1) rfl
theorem dX1_takeCalled_25 : decode cX1_takeCalled 25 = .ok (.aload_n 0, 1) := dr9 dk9_dX1_takeCalled_0_0.1 9 (25, .aload_n 0, 1) rfl
theorem dX1_takeCalled_26 : decode cX1_takeCalled 26 = .ok (.getfield 15, 3) := dr9 dk9_dX1_takeCalled_0_0.1 10 (26, .getfield 15, 3) rfl
theorem dX1_takeCalled_29 : decode cX1_takeCalled 29 = .ok (.getfield 258, 3) := dr9 dk9_dX1_takeCalled_0_0.1 11 (29, .getfield 258, 3) rfl
theorem dX1_takeCalled_32 : decode cX1_takeCalled 32 = .ok (.aload_n 0, 1) := dr9 dk9_dX1_takeCalled_0_0.1 12 (32, .aload_n 0, 1) rfl
theorem dX1_takeCalled_33 : decode cX1_takeCalled 33 = .ok (.getfield 15, 3) := dr9 dk9_dX1_takeCalled_0_0.1 13 (33, .getfield 15, 3) rfl
theorem dX1_takeCalled_36 : decode cX1_takeCalled 36 = .ok (.getfield 258, 3) := dr9 dk9_dX1_takeCalled_0_0.1 14 (36, .getfield 258, 3) rfl
theorem dX1_takeCalled_39 : decode cX1_takeCalled 39 = .ok (.aload_n 0, 1) := dr9 dk9_dX1_takeCalled_0_0.1 15 (39, .aload_n 0, 1) rfl
theorem dX1_takeCalled_40 : decode cX1_takeCalled 40 = .ok (.getfield 9, 3) := dr9 dk9_dX1_takeCalled_0_0.1 16 (40, .getfield 9, 3) rfl
theorem dX1_takeCalled_43 : decode cX1_takeCalled 43 = .ok (.getfield 222, 3) := dr9 dk9_dX1_takeCalled_0_0.1 17 (43, .getfield 222, 3) rfl
theorem dX1_takeCalled_46 : decode cX1_takeCalled 46 = .ok (.invokevirtual 248, 3) := dr9 dk9_dX1_takeCalled_0_0.1 18 (46, .invokevirtual 248, 3) rfl
theorem dX1_takeCalled_49 : decode cX1_takeCalled 49 = .ok (.invokevirtual 254, 3) := dr9 dk9_dX1_takeCalled_0_0.1 19 (49, .invokevirtual 254, 3) rfl
theorem dX1_takeCalled_52 : decode cX1_takeCalled 52 = .ok (.ireturn, 1) := dr9 dk9_dX1_takeCalled_0_0.1 20 (52, .ireturn, 1) rfl
theorem dX1_takeCalled_18 : decode cX1_takeCalled 18 = .ok (.aload_n 0, 1) := dr9 dk9_dX1_takeCalled_0_0.1 21 (18, .aload_n 0, 1) rfl
theorem dX1_takeCalled_19 : decode cX1_takeCalled 19 = .ok (.iconst 1, 1) := dr9 dk9_dX1_takeCalled_0_0.1 22 (19, .iconst 1, 1) rfl
theorem dX1_takeCalled_20 : decode cX1_takeCalled 20 = .ok (.invokevirtual 47, 3) := dr9 dk9_dX1_takeCalled_0_0.1 23 (20, .invokevirtual 47, 3) rfl
theorem dX1_takeCalled_23 : decode cX1_takeCalled 23 = .ok (.ireturn, 1) := dr9 dk9_dX1_takeCalled_0_0.2 0 (23, .ireturn, 1) rfl
theorem dk9_dX1_takeTypes_0_0 : dOk cX1_takeTypes [(0, .iconst 0, 1), (1, .istore_n 1, 1), (2, .aload_n 0, 1), (3, .iconst 0, 1), (4, .putfield 82, 3), (7, .iconst 0, 1), (8, .istore_n 2, 1), (9, .iload_n 2, 1), (10, .bipush 6, 2), (12, .if_icmp .gt 105, 3), (15, .aload_n 0, 1), (16, .invokevirtual 158, 3), (19, .ifCond .ne 5, 3), (24, .iload_n 1, 1), (25, .aload_n 0, 1), (26, .getfield 137, 3), (29, .ishr, 1), (30, .iconst 1, 1), (31, .iand, 1), (32, .ifCond .eq 9, 3), (41, .iload_n 2, 1), (42, .bipush 6, 2), (44, .if_icmp .ne 9, 3), (53, .iload_n 1, 1)] = true ∧ dOk cX1_takeTypes [(54, .iconst 1, 1), (55, .aload_n 0, 1), (56, .getfield 137, 3), (59, .ishl, 1), (60, .ior, 1), (61, .istore_n 1, 1), (62, .aload_n 0, 1), (63, .dup, 1), (64, .getfield 82, 3), (67, .aload_n 0, 1), (68, .getfield 15, 3), (71, .getfield 95, 3), (74, .aload_n 0, 1), (75, .getfield 137, 3), (78, .iaload, 1), (79, .ior, 1), (80, .putfield 82, 3), (83, .aload_n 0, 1), (84, .getfield 9, 3), (87, .invokevirtual 72, 3), (90, .aload_n 0, 1), (91, .getfield 9, 3), (94, .getfield 37, 3), (97, .bipush 44, 2)] = true ∧ dOk cX1_takeTypes [(99, .if_icmp .eq 5, 3), (104, .aload_n 0, 1), (105, .getfield 9, 3), (108, .invokevirtual 72, 3), (111, .iinc 2 1, 3), (114, .goto (-105), 3), (102, .iconst 1, 1), (103, .ireturn, 1), (47, .aload_n 0, 1), (48, .iconst 5, 1), (49, .invokevirtual 47, 3), (52, .ireturn, 1), (35, .aload_n 0, 1), (36, .iconst 3, 1), (37, .invokevirtual 47, 3), (40, .ireturn, 1), (22, .iconst 0, 1), (23, .ireturn, 1)] = true := by decide +kernel
theorem dX1_takeTypes_0 : decode cX1_takeTypes 0 = .ok (.iconst 0, 1) := dr9 dk9_dX1_takeTypes_0_0.1 0 (0, .iconst 0, 1) rfl
theorem dX1_takeTypes_1 : decode cX1_takeTypes 1 = .ok (.istore_n 1, 1) := dr9 dk9_dX1_takeTypes_0_0.1 1 (1, .istore_n 1, 1) rfl
theorem dX1_takeTypes_2 : decode cX1_takeTypes 2 = .ok (.aload_n 0, 1) := dr9 dk9_dX1_takeTypes_0_0.1 2 (2, .aload_n 0, 1) rfl
theorem dX1_takeTypes_3 : decode cX1_takeTypes 3 = .ok (.iconst 0, 1) := dr9 dk9_dX1_takeTypes_0_0.1 3 (3, .iconst 0, 1) rfl
theorem dX1_takeTypes_4 : decode cX1_takeTypes 4 = .ok (.putfield 82, 3) := dr9 dk9_dX1_takeTypes_0_0.1 4 (4, .putfield 82, 3) rfl
theorem dX1_takeTypes_7 : decode cX1_takeTypes 7 = .ok (.iconst 0, 1) := dr9 dk9_dX1_takeTypes_0_0.1 5 (7, .iconst 0, 1) rfl
theorem dX1_takeTypes_8 : decode cX1_takeTypes 8 = .ok (.istore_n 2, 1) := dr9 dk9_dX1_takeTypes_0_0.1 6 (8, .istore_n 2, 1) rfl
theorem dX1_takeTypes_9 : decode cX1_takeTypes 9 = .ok (.iload_n 2, 1) := dr9 dk9_dX1_takeTypes_0_0.1 7 (9, .iload_n 2, 1) rfl
theorem dX1_takeTypes_10 : decode cX1_takeTypes 10 = .ok (.bipush 6, 2) := dr9 dk9_dX1_takeTypes_0_0.1 8 (10, .bipush 6, 2) rfl
theorem dX1_takeTypes_12 : decode cX1_takeTypes 12 = .ok (.if_icmp .gt 105, 3) := dr9 dk9_dX1_takeTypes_0_0.1 9 (12, .if_icmp .gt 105, 3) rfl
theorem dX1_takeTypes_15 : decode cX1_takeTypes 15 = .ok (.aload_n 0, 1) := dr9 dk9_dX1_takeTypes_0_0.1 10 (15, .aload_n 0, 1) rfl
theorem dX1_takeTypes_16 : decode cX1_takeTypes 16 = .ok (.invokevirtual 158, 3) := dr9 dk9_dX1_takeTypes_0_0.1 11 (16, .invokevirtual 158, 3) rfl
theorem dX1_takeTypes_19 : decode cX1_takeTypes 19 = .ok (.ifCond .ne 5, 3) := dr9 dk9_dX1_takeTypes_0_0.1 12 (19, .ifCond .ne 5, 3) rfl
theorem dX1_takeTypes_24 : decode cX1_takeTypes 24 = .ok (.iload_n 1, 1) := dr9 dk9_dX1_takeTypes_0_0.1 13 (24, .iload_n 1, 1) rfl
theorem dX1_takeTypes_25 : decode cX1_takeTypes 25 = .ok (.aload_n 0, 1) := dr9 dk9_dX1_takeTypes_0_0.1 14 (25, .aload_n 0, 1) rfl
theorem dX1_takeTypes_26 : decode cX1_takeTypes 26 = .ok (.getfield 137, 3) := dr9 dk9_dX1_takeTypes_0_0.1 15 (26, .getfield 137, 3) rfl
theorem dX1_takeTypes_29 : decode cX1_takeTypes 29 = .ok (.ishr, 1) := dr9 dk9_dX1_takeTypes_0_0.1 16 (29, .ishr, 1) rfl
theorem dX1_takeTypes_30 : decode cX1_takeTypes 30 = .ok (.iconst 1, 1) := dr9 dk9_dX1_takeTypes_0_0.1 17 (30, .iconst 1, 1) rfl
theorem dX1_takeTypes_31 : decode cX1_takeTypes 31 = .ok (.iand, 1) := dr9 dk9_dX1_takeTypes_0_0.1 18 (31, .iand, 1) rfl
theorem dX1_takeTypes_32 : decode cX1_takeTypes 32 = .ok (.ifCond .eq 9, 3) := dr9 dk9_dX1_takeTypes_0_0.1 19 (32, .ifCond .eq 9, 3) rfl
theorem dX1_takeTypes_41 : decode cX1_takeTypes 41 = .ok (.iload_n 2, 1) := dr9 dk9_dX1_takeTypes_0_0.1 20 (41, .iload_n 2, 1) rfl
theorem dX1_takeTypes_42 : decode cX1_takeTypes 42 = .ok (.bipush 6, 2) := dr9 dk9_dX1_takeTypes_0_0.1 21 (42, .bipush 6, 2) rfl
theorem dX1_takeTypes_44 : decode cX1_takeTypes 44 = .ok (.if_icmp .ne 9, 3) := dr9 dk9_dX1_takeTypes_0_0.1 22 (44, .if_icmp .ne 9, 3) rfl
theorem dX1_takeTypes_53 : decode cX1_takeTypes 53 = .ok (.iload_n 1, 1) := dr9 dk9_dX1_takeTypes_0_0.1 23 (53, .iload_n 1, 1) rfl
theorem dX1_takeTypes_54 : decode cX1_takeTypes 54 = .ok (.iconst 1, 1) := dr9 dk9_dX1_takeTypes_0_0.2.1 0 (54, .iconst 1, 1) rfl
theorem dX1_takeTypes_55 : decode cX1_takeTypes 55 = .ok (.aload_n 0, 1) := dr9 dk9_dX1_takeTypes_0_0.2.1 1 (55, .aload_n 0, 1) rfl
theorem dX1_takeTypes_56 : decode cX1_takeTypes 56 = .ok (.getfield 137, 3) := dr9 dk9_dX1_takeTypes_0_0.2.1 2 (56, .getfield 137, 3) rfl
theorem dX1_takeTypes_59 : decode cX1_takeTypes 59 = .ok (.ishl, 1) := dr9 dk9_dX1_takeTypes_0_0.2.1 3 (59, .ishl, 1) rfl
theorem dX1_takeTypes_60 : decode cX1_takeTypes 60 = .ok (.ior, 1) := dr9 dk9_dX1_takeTypes_0_0.2.1 4 (60, .ior, 1) rfl
theorem dX1_takeTypes_61 : decode cX1_takeTypes 61 = .ok (.istore_n 1, 1) := dr9 dk9_dX1_takeTypes_0_0.2.1 5 (61, .istore_n 1, 1) rfl
theorem dX1_takeTypes_62 : decode cX1_takeTypes 62 = .ok (.aload_n 0, 1) := dr9 dk9_dX1_takeTypes_0_0.2.1 6 (62, .aload_n 0, 1) rfl
theorem dX1_takeTypes_63 : decode cX1_takeTypes 63 = .ok (.dup, 1) := dr9 dk9_dX1_takeTypes_0_0.2.1 7 (63, .dup, 1) rfl
theorem dX1_takeTypes_64 : decode cX1_takeTypes 64 = .ok (.getfield 82, 3) := dr9 dk9_dX1_takeTypes_0_0.2.1 8 (64, .getfield 82, 3) rfl
theorem dX1_takeTypes_67 : decode cX1_takeTypes 67 = .ok (.aload_n 0, 1) := dr9 dk9_dX1_takeTypes_0_0.2.1 9 (67, .aload_n 0, 1) rfl
theorem dX1_takeTypes_68 : decode cX1_takeTypes 68 = .ok (.getfield 15, 3) := dr9 dk9_dX1_takeTypes_0_0.2.1 10 (68, .getfield 15, 3) rfl
theorem dX1_takeTypes_71 : decode cX1_takeTypes 71 = .ok (.getfield 95, 3) := dr9 dk9_dX1_takeTypes_0_0.2.1 11 (71, .getfield 95, 3) rfl
theorem dX1_takeTypes_74 : decode cX1_takeTypes 74 = .ok (.aload_n 0, 1) := dr9 dk9_dX1_takeTypes_0_0.2.1 12 (74, .aload_n 0, 1) rfl
theorem dX1_takeTypes_75 : decode cX1_takeTypes 75 = .ok (.getfield 137, 3) := dr9 dk9_dX1_takeTypes_0_0.2.1 13 (75, .getfield 137, 3) rfl
theorem dX1_takeTypes_78 : decode cX1_takeTypes 78 = .ok (.iaload, 1) := dr9 dk9_dX1_takeTypes_0_0.2.1 14 (78, .iaload, 1) rfl
theorem dX1_takeTypes_79 : decode cX1_takeTypes 79 = .ok (.ior, 1) := dr9 dk9_dX1_takeTypes_0_0.2.1 15 (79, .ior, 1) rfl
theorem dX1_takeTypes_80 : decode cX1_takeTypes 80 = .ok (.putfield 82, 3) := dr9 dk9_dX1_takeTypes_0_0.2.1 16 (80, .putfield 82, 3) rfl
theorem dX1_takeTypes_83 : decode cX1_takeTypes 83 = .ok (.aload_n 0, 1) := dr9 dk9_dX1_takeTypes_0_0.2.1 17 (83, .aload_n 0, 1) rfl
theorem dX1_takeTypes_84 : decode cX1_takeTypes 84 = .ok (.getfield 9, 3) := dr9 dk9_dX1_takeTypes_0_0.2.1 18 (84, .getfield 9, 3) rfl
theorem dX1_takeTypes_87 : decode cX1_takeTypes 87 = .ok (.invokevirtual 72, 3) := dr9 dk9_dX1_takeTypes_0_0.2.1 19 (87, .invokevirtual 72, 3) rfl
theorem dX1_takeTypes_90 : decode cX1_takeTypes 90 = .ok (.aload_n 0, 1) := dr9 dk9_dX1_takeTypes_0_0.2.1 20 (90, .aload_n 0, 1) rfl
theorem dX1_takeTypes_91 : decode cX1_takeTypes 91 = .ok (.getfield 9, 3) := dr9 dk9_dX1_takeTypes_0_0.2.1 21 (91, .getfield 9, 3) rfl
theorem dX1_takeTypes_94 : decode cX1_takeTypes 94 = .ok (.getfield 37, 3) := dr9 dk9_dX1_takeTypes_0_0.2.1 22 (94, .getfield 37, 3) rfl
theorem dX1_takeTypes_97 : decode cX1_takeTypes 97 = .ok (.bipush 44, 2) := dr9 dk9_dX1_takeTypes_0_0.2.1 23 (97, .bipush 44, 2) rfl
theorem dX1_takeTypes_99 : decode cX1_takeTypes 99 = .ok (.if_icmp .eq 5, 3) := dr9 dk9_dX1_takeTypes_0_0.2.2 0 (99, .if_icmp .eq 5, 3) rfl
theorem dX1_takeTypes_104 : decode cX1_takeTypes 104 = .ok (.aload_n 0, 1) := dr9 dk9_dX1_takeTypes_0_0.2.2 1 (104, .aload_n 0, 1) rfl
theorem dX1_takeTypes_105 : decode cX1_takeTypes 105 = .ok (.getfield 9, 3) := dr9 dk9_dX1_takeTypes_0_0.2.2 2 (105, .getfield 9, 3) rfl
theorem dX1_takeTypes_108 : decode cX1_takeTypes 108 = .ok (.invokevirtual 72, 3) := dr9 dk9_dX1_takeTypes_0_0.2.2 3 (108, .invokevirtual 72, 3) rfl
theorem dX1_takeTypes_111 : decode cX1_takeTypes 111 = .ok (.iinc 2 1, 3) := dr9 dk9_dX1_takeTypes_0_0.2.2 4 (111, .iinc 2 1, 3) rfl
theorem dX1_takeTypes_114 : decode cX1_takeTypes 114 = .ok (.goto (-105), 3) := dr9 dk9_dX1_takeTypes_0_0.2.2 5 (114, .goto (-105), 3) rfl
theorem dX1_takeTypes_102 : decode cX1_takeTypes 102 = .ok (.iconst 1, 1) := dr9 dk9_dX1_takeTypes_0_0.2.2 6 (102, .iconst 1, 1) rfl
theorem dX1_takeTypes_103 : decode cX1_takeTypes 103 = .ok (.ireturn, 1) := dr9 dk9_dX1_takeTypes_0_0.2.2 7 (103, .ireturn, 1) rfl
theorem dX1_takeTypes_47 : decode cX1_takeTypes 47 = .ok (.aload_n 0, 1) := dr9 dk9_dX1_takeTypes_0_0.2.2 8 (47, .aload_n 0, 1) rfl
theorem dX1_takeTypes_48 : decode cX1_takeTypes 48 = .ok (.iconst 5, 1) := dr9 dk9_dX1_takeTypes_0_0.2.2 9 (48, .iconst 5, 1) rfl
theorem dX1_takeTypes_49 : decode cX1_takeTypes 49 = .ok (.invokevirtual 47, 3) := dr9 dk9_dX1_takeTypes_0_0.2.2 10 (49, .invokevirtual 47, 3) rfl
theorem dX1_takeTypes_52 : decode cX1_takeTypes 52 = .ok (.ireturn, 1) := dr9 dk9_dX1_takeTypes_0_0.2.2 11 (52, .ireturn, 1) rfl
theorem dX1_takeTypes_35 : decode cX1_takeTypes 35 = .ok (.aload_n 0, 1) := dr9 dk9_dX1_takeTypes_0_0.2.2 12 (35, .aload_n 0, 1) rfl
theorem dX1_takeTypes_36 : decode cX1_takeTypes 36 = .ok (.iconst 3, 1) := dr9 dk9_dX1_takeTypes_0_0.2.2 13 (36, .iconst 3, 1) rfl
theorem dX1_takeTypes_37 : decode cX1_takeTypes 37 = .ok (.invokevirtual 47, 3) := dr9 dk9_dX1_takeTypes_0_0.2.2 14 (37, .invokevirtual 47, 3) rfl
theorem dX1_takeTypes_40 : decode cX1_takeTypes 40 = .ok (.ireturn, 1) := dr9 dk9_dX1_takeTypes_0_0.2.2 15 (40, .ireturn, 1) rfl
theorem dX1_takeTypes_22 : decode cX1_takeTypes 22 = .ok (.iconst 0, 1) := dr9 dk9_dX1_takeTypes_0_0.2.2 16 (22, .iconst 0, 1) rfl
theorem dX1_takeTypes_23 : decode cX1_takeTypes 23 = .ok (.ireturn, 1) := dr9 dk9_dX1_takeTypes_0_0.2.2 17 (23, .ireturn, 1) rfl
theorem dk9_dX1_beginsPart_0_0 : dOk cX1_beginsPart [(0, .aload_n 0, 1), (1, .getfield 9, 3), (4, .getfield 37, 3), (7, .lookupswitch 110 #[(2, 81), (40, 81), (45, 81), (130, 81), (143, 81), (144, 81), (145, 81), (146, 83), (147, 96)], 81), (88, .iconst 1, 1), (89, .ireturn, 1), (90, .aload_n 0, 1), (91, .getfield 200, 3), (94, .ifCond .ne 7, 3), (101, .iconst 0, 1), (102, .ireturn, 1), (97, .iconst 1, 1), (98, .goto 4, 3), (103, .aload_n 0, 1), (104, .getfield 200, 3), (107, .iconst 2, 1), (108, .if_icmp .ne 7, 3), (115, .iconst 0, 1), (116, .ireturn, 1), (111, .iconst 1, 1), (112, .goto 4, 3), (117, .iconst 0, 1), (118, .ireturn, 1)] = true := by decide +kernel
theorem dX1_beginsPart_0 : decode cX1_beginsPart 0 = .ok (.aload_n 0, 1) := dr9 dk9_dX1_beginsPart_0_0 0 (0, .aload_n 0, 1) rfl
theorem dX1_beginsPart_1 : decode cX1_beginsPart 1 = .ok (.getfield 9, 3) := dr9 dk9_dX1_beginsPart_0_0 1 (1, .getfield 9, 3) rfl
theorem dX1_beginsPart_4 : decode cX1_beginsPart 4 = .ok (.getfield 37, 3) := dr9 dk9_dX1_beginsPart_0_0 2 (4, .getfield 37, 3) rfl
theorem dX1_beginsPart_7 : decode cX1_beginsPart 7 = .ok (.lookupswitch 110 #[(2, 81), (40, 81), (45, 81), (130, 81), (143, 81), (144, 81), (145, 81), (146, 83), (147, 96)], 81) := dr9 dk9_dX1_beginsPart_0_0 3 (7, .lookupswitch 110 #[(2, 81), (40, 81), (45, 81), (130, 81), (143, 81), (144, 81), (145, 81), (146, 83), (147, 96)], 81) rfl
theorem dX1_beginsPart_88 : decode cX1_beginsPart 88 = .ok (.iconst 1, 1) := dr9 dk9_dX1_beginsPart_0_0 4 (88, .iconst 1, 1) rfl
theorem dX1_beginsPart_89 : decode cX1_beginsPart 89 = .ok (.ireturn, 1) := dr9 dk9_dX1_beginsPart_0_0 5 (89, .ireturn, 1) rfl
theorem dX1_beginsPart_90 : decode cX1_beginsPart 90 = .ok (.aload_n 0, 1) := dr9 dk9_dX1_beginsPart_0_0 6 (90, .aload_n 0, 1) rfl
theorem dX1_beginsPart_91 : decode cX1_beginsPart 91 = .ok (.getfield 200, 3) := dr9 dk9_dX1_beginsPart_0_0 7 (91, .getfield 200, 3) rfl
theorem dX1_beginsPart_94 : decode cX1_beginsPart 94 = .ok (.ifCond .ne 7, 3) := dr9 dk9_dX1_beginsPart_0_0 8 (94, .ifCond .ne 7, 3) rfl
theorem dX1_beginsPart_101 : decode cX1_beginsPart 101 = .ok (.iconst 0, 1) := dr9 dk9_dX1_beginsPart_0_0 9 (101, .iconst 0, 1) rfl
theorem dX1_beginsPart_102 : decode cX1_beginsPart 102 = .ok (.ireturn, 1) := dr9 dk9_dX1_beginsPart_0_0 10 (102, .ireturn, 1) rfl
theorem dX1_beginsPart_97 : decode cX1_beginsPart 97 = .ok (.iconst 1, 1) := dr9 dk9_dX1_beginsPart_0_0 11 (97, .iconst 1, 1) rfl
theorem dX1_beginsPart_98 : decode cX1_beginsPart 98 = .ok (.goto 4, 3) := dr9 dk9_dX1_beginsPart_0_0 12 (98, .goto 4, 3) rfl
theorem dX1_beginsPart_103 : decode cX1_beginsPart 103 = .ok (.aload_n 0, 1) := dr9 dk9_dX1_beginsPart_0_0 13 (103, .aload_n 0, 1) rfl
theorem dX1_beginsPart_104 : decode cX1_beginsPart 104 = .ok (.getfield 200, 3) := dr9 dk9_dX1_beginsPart_0_0 14 (104, .getfield 200, 3) rfl
theorem dX1_beginsPart_107 : decode cX1_beginsPart 107 = .ok (.iconst 2, 1) := dr9 dk9_dX1_beginsPart_0_0 15 (107, .iconst 2, 1) rfl
theorem dX1_beginsPart_108 : decode cX1_beginsPart 108 = .ok (.if_icmp .ne 7, 3) := dr9 dk9_dX1_beginsPart_0_0 16 (108, .if_icmp .ne 7, 3) rfl
theorem dX1_beginsPart_115 : decode cX1_beginsPart 115 = .ok (.iconst 0, 1) := dr9 dk9_dX1_beginsPart_0_0 17 (115, .iconst 0, 1) rfl
theorem dX1_beginsPart_116 : decode cX1_beginsPart 116 = .ok (.ireturn, 1) := dr9 dk9_dX1_beginsPart_0_0 18 (116, .ireturn, 1) rfl
theorem dX1_beginsPart_111 : decode cX1_beginsPart 111 = .ok (.iconst 1, 1) := dr9 dk9_dX1_beginsPart_0_0 19 (111, .iconst 1, 1) rfl
theorem dX1_beginsPart_112 : decode cX1_beginsPart 112 = .ok (.goto 4, 3) := dr9 dk9_dX1_beginsPart_0_0 20 (112, .goto 4, 3) rfl
theorem dX1_beginsPart_117 : decode cX1_beginsPart 117 = .ok (.iconst 0, 1) := dr9 dk9_dX1_beginsPart_0_0 21 (117, .iconst 0, 1) rfl
theorem dX1_beginsPart_118 : decode cX1_beginsPart 118 = .ok (.ireturn, 1) := dr9 dk9_dX1_beginsPart_0_0 22 (118, .ireturn, 1) rfl
theorem dk9_dX1_putAlone_0_0 : dOk cX1_putAlone [(0, .aload_n 0, 1), (1, .getfield 15, 3), (4, .iload_n 1, 1), (5, .invokevirtual 206, 3), (8, .iconst 1, 1), (9, .ireturn, 1)] = true := by decide +kernel
theorem dX1_putAlone_0 : decode cX1_putAlone 0 = .ok (.aload_n 0, 1) := dr9 dk9_dX1_putAlone_0_0 0 (0, .aload_n 0, 1) rfl
theorem dX1_putAlone_1 : decode cX1_putAlone 1 = .ok (.getfield 15, 3) := dr9 dk9_dX1_putAlone_0_0 1 (1, .getfield 15, 3) rfl
theorem dX1_putAlone_4 : decode cX1_putAlone 4 = .ok (.iload_n 1, 1) := dr9 dk9_dX1_putAlone_0_0 2 (4, .iload_n 1, 1) rfl
theorem dX1_putAlone_5 : decode cX1_putAlone 5 = .ok (.invokevirtual 206, 3) := dr9 dk9_dX1_putAlone_0_0 3 (5, .invokevirtual 206, 3) rfl
theorem dX1_putAlone_8 : decode cX1_putAlone 8 = .ok (.iconst 1, 1) := dr9 dk9_dX1_putAlone_0_0 4 (8, .iconst 1, 1) rfl
theorem dX1_putAlone_9 : decode cX1_putAlone 9 = .ok (.ireturn, 1) := dr9 dk9_dX1_putAlone_0_0 5 (9, .ireturn, 1) rfl
theorem dk9_dX1_put_0_0 : dOk cX1_put [(0, .aload_n 0, 1), (1, .getfield 15, 3), (4, .iload_n 1, 1), (5, .invokevirtual 206, 3), (8, .aload_n 0, 1), (9, .getfield 15, 3), (12, .iload_n 2, 1), (13, .invokevirtual 206, 3), (16, .iconst 1, 1), (17, .ireturn, 1)] = true := by decide +kernel
theorem dX1_put_0 : decode cX1_put 0 = .ok (.aload_n 0, 1) := dr9 dk9_dX1_put_0_0 0 (0, .aload_n 0, 1) rfl
theorem dX1_put_1 : decode cX1_put 1 = .ok (.getfield 15, 3) := dr9 dk9_dX1_put_0_0 1 (1, .getfield 15, 3) rfl
theorem dX1_put_4 : decode cX1_put 4 = .ok (.iload_n 1, 1) := dr9 dk9_dX1_put_0_0 2 (4, .iload_n 1, 1) rfl
theorem dX1_put_5 : decode cX1_put 5 = .ok (.invokevirtual 206, 3) := dr9 dk9_dX1_put_0_0 3 (5, .invokevirtual 206, 3) rfl
theorem dX1_put_8 : decode cX1_put 8 = .ok (.aload_n 0, 1) := dr9 dk9_dX1_put_0_0 4 (8, .aload_n 0, 1) rfl
theorem dX1_put_9 : decode cX1_put 9 = .ok (.getfield 15, 3) := dr9 dk9_dX1_put_0_0 5 (9, .getfield 15, 3) rfl
theorem dX1_put_12 : decode cX1_put 12 = .ok (.iload_n 2, 1) := dr9 dk9_dX1_put_0_0 6 (12, .iload_n 2, 1) rfl
theorem dX1_put_13 : decode cX1_put 13 = .ok (.invokevirtual 206, 3) := dr9 dk9_dX1_put_0_0 7 (13, .invokevirtual 206, 3) rfl
theorem dX1_put_16 : decode cX1_put 16 = .ok (.iconst 1, 1) := dr9 dk9_dX1_put_0_0 8 (16, .iconst 1, 1) rfl
theorem dX1_put_17 : decode cX1_put 17 = .ok (.ireturn, 1) := dr9 dk9_dX1_put_0_0 9 (17, .ireturn, 1) rfl
abbrev r_x_takeNumbered : Room := { frames := 1, cells := 0, slots := 0, locals := 22 }
abbrev q_x_takeNumbered (D : va_G) (ks : KS) (ad : Nat → Nat) (kk : Nat → ClassId) (V : Vf) (L : Lf) (Z : XZ) (p1 : Int32) (gn : Nat) (A : Nat → Prop) : Array Value → State → Outcome → State → Prop := va_Qi (fun (r : Int32) (u : Vf × Lf) => rgd bX u.1 ∧ agr [(1, 3), (1, 6), (6, 8), (6, 9), (6, 10)] [43, 44] V u.1 ∧ agL [6, 44] L u.2 ∧ frX (xN gn) V u.1 ∧ (0 ≤ r.toInt ∧ r.toInt ≤ 1) ∧ (Imp (r.toInt = 1) (0 ≤ (u.1 1 6).toInt ∧ (u.1 1 6).toInt < ((xcap gn : Nat) : Int))) ∧ ((∀ n : Nat, ¬ n = gn → u.1 43 n = V 43 n)) ∧ (Imp (r.toInt = 0) (1 ≤ (u.1 1 3).toInt))) (fun u t => gq D A (xw ad kk u.1 u.2 Z) (xty kk Z) t) A
set_option maxHeartbeats 4000000 in
set_option maxRecDepth 100000 in
theorem x_takeNumbered (l : Launch) (D : va_G) (ks : KS) (sz : Nat) (ad : Nat → Nat) (kk : Nat → ClassId) (V : Vf) (L : Lf) (Z : XZ) (p1 : Int32) (gn : Nat) (hMV : rgd bX V) (rg_p1 : (-1) ≤ p1.toInt ∧ p1.toInt ≤ 23) (hgn : gn < 10) (y1 : p1.toInt < (V 43 gn).toInt)  : Met l yX1_takeNumbered (Cond.code yX1_takeNumbered cX1_takeNumbered 3 (some .boolean) :: GW) r_x_takeNumbered (va_Pc [.ref (ad 1), .ref (ad (40 + gn)), .int p1] (gp D ks (xw ad kk V L Z) (xty kk Z) sz)) (q_x_takeNumbered D ks ad kk V L Z p1 gn (va_A (xw ad kk V L Z) sz)) 0 0 (va_A (xw ad kk V L Z) sz) := by
  refine g_met (q_x_takeNumbered D ks ad kk V L Z p1 gn) (by decide) (Nat.le_of_ble_eq_true rfl) ?_
  intro p e s m below meth c A ls H locs hx hb hr hml hown hg hlocks hin hnw hgk hP hK hD hS hA hl
  have hown : s.vm.findClass RX1 = some m.cls := hown
  have hl : lv_has ls 3 [(0, .ref (ad 1)), (1, .ref (ad (40 + gn))), (2, .int p1)] := hl
  have hP : va_P D vwCl (xw ad kk V L Z) H := hP
  have hD : va_D A (xw ad kk V L Z) := hD
  have hK : va_K D vwCl (xty kk Z) s := hK
  have agV : agr [(1, 3), (1, 6), (6, 8), (6, 9), (6, 10)] [43, 44] V V := agr.rf
  have alL : agL [6, 44] L L := agL.rf
  have fwV : frX (xN gn) V V := frX.rf
  have r1 : 0 ≤ ((V 43 gn)).toInt ∧ ((V 43 gn)).toInt ≤ ((xcap gn : Nat) : Int) := hMV 43 gn
  have r2 := xcap_le gn
  have sz0 : (V 43 gn).toInt ≤ ((xcap gn : Nat) : Int) := (hMV 43 gn).2
  refine lv_aload_n hx hb dX1_takeNumbered_0 rfl (lv_at hl 0 rfl) ?_
  refine lv_iload_n hx hb dX1_takeNumbered_1 rfl (lv_at hl 2 rfl) ?_
  refine lv_iconst (v := (-1)) hx hb dX1_takeNumbered_2 (by decide) ?_
  refine lv_icmp_eq (tgt := 10) hx hb dX1_takeNumbered_3 (by decide) (fun c3 => ?_) (fun c3 => ?_)
  · skip
    have f4 : p1.toInt = (-1) := b_eq rfl (by decide) c3
    refine lv_aload_n hx hb dX1_takeNumbered_10 rfl (lv_at hl 1 rfl) ?_
    refine lv_aload_n hx hb dX1_takeNumbered_11 rfl (lv_at hl 0 rfl) ?_
    refine va_get (D := D) (ci := 1) (v := .ref (ad 6)) (fs := (xfReader ad V L Z)) (C := RX1) (T := TX1) (N := 9) hx hb hg inX1 hown hK hP 1 xgReader rfl 0 (by decide) (hg _ w304) (fun _ h9 => h9) rfl dX1_takeNumbered_12 ?_
    refine va_getN (D := D) (ci := 9) (v := .long (L 6 11)) (fs := (xfTape ad V L Z)) (C := RX9) (T := TX9) (N := 12) hx hb hg inX9 hown hK hP 6 xgTape rfl 11 (by decide) (hnw.use 269 n269 rfl) (fun _ h9 => h9) rfl dX1_takeNumbered_15 ?_
    refine lv_topl (fun w5 ew5 => ?_)
    refine gA_int (gA_runV (As := [.long w5]) (rest := [.ref (ad 1)]) (ci := 6) (q0 := (40 + gn)) hx hb hml hown hg hP hD hK hS hA hnw hgk (x_add l D ks H.size ad kk V L Z w5 (gn) hMV (show gn < 10 from by (first | exact om_b899e50cee0d hgn | omega))) w897 w898 w899 w168 w900 rfl (xgNames hgn) hdV_yX6_add ⟨Nat.le_of_ble_eq_true rfl, Nat.le_of_ble_eq_true rfl⟩ rfl hl.1 rfl (Nat.le_of_ble_eq_true rfl) dX1_takeNumbered_18 ⟨Nat.le_of_ble_eq_true rfl, Nat.le_of_ble_eq_true rfl⟩) hP hD hK hS hA (fun z6 u7 H locs w8 hP hD hK hS => ?_)
    obtain ⟨V12, L13⟩ := u7
    obtain ⟨hMV12, ajV12, axL13, fyV12, rgz6, t9, t10, t11⟩ := w8
    have alL13 : agL [6, 44] L L13 := agL.tr alL axL13 (by decide)
    have hP : va_P D vwCl (xw ad kk V12 L13 Z) H := hP
    have hD : va_D A (xw ad kk V12 L13 Z) := hD
    have hMV12 : rgd bX V12 := hMV12
    have ajV12 : agr [] [43, 44] V V12 := ajV12
    have agV12 : agr [(1, 3), (1, 6), (6, 8), (6, 9), (6, 10)] [43, 44] V V12 := agV.tr ajV12 (by decide) (by decide)
    have fwV12 : frX (xN gn) V V12 := frX.tr fwV (fyV12)
    have rgz6 : (-1) ≤ z6.toInt ∧ z6.toInt ≤ 23 := rgz6
    have t9 : z6.toInt < (V12 43 gn).toInt := t9
    have t10 : Imp ((V 43 gn).toInt < ((xcap gn : Nat) : Int)) (z6.toInt = (V 43 gn).toInt ∧ (V12 43 gn).toInt = (V 43 gn).toInt + 1) := t10
    have t11 : (∀ n : Nat, ¬ n = gn → V12 43 n = V 43 n) := t11
    have sz1 : (V12 43 gn).toInt ≤ ((xcap gn : Nat) : Int) := (hMV12 43 gn).2
    refine va_put (D := D) (ci := 1) (v := .int z6) (ty := tyX1 6) (fs := (xfReader ad V12 L13 Z)) (C := RX1) (T := TX1) (N := 9) hx hb hg inX1 tyX1 tyX1_ok nmX1 hown hK hP hD hS 1 xgReader rfl 6 (by decide) (hg _ w310) (fun _ h9 => h9) rfl (tyX1_ok 6 (by decide)) rfl rfl (Nat.le_of_ble_eq_true rfl) dX1_takeNumbered_21 (fun H locs hP hD hS => ?_)
    obtain ⟨V14, hV14⟩ : ∃ z, z = up2 V12 1 6 z6 := ⟨_, rfl⟩
    have ew15 : (xw ad kk V12 L13 Z).set 1 ((ad 1), .inr (1, (xfReader ad V12 L13 Z).set 6 (.int z6))) = xw ad kk V14 L13 Z := by rw [hV14]; exact xw_ss (by decide) rfl (xb_si (by decide))
    have hP : va_P D vwCl (xw ad kk V14 L13 Z) H := by rw [← ew15]; exact hP
    have hD : va_D A (xw ad kk V14 L13 Z) := by rw [← ew15]; exact hD
    have hMV14 : rgd bX V14 := hMV12.put hV14 (show (-1) ≤ z6.toInt ∧ z6.toInt ≤ 23 from by first | exact om_b5ea211f5a81 rgz6.1 rgz6.2 | first | omega | ((try (have i_t10 := Imp.go t10 (by omega))); omega))
    have agV14 : agr [(1, 3), (1, 6), (6, 8), (6, 9), (6, 10)] [43, 44] V V14 := agV12.up hV14 rfl
    have fwV14 : frX (xN gn) V V14 := frX.up fwV12 hV14 (Or.inl (by decide))
    refine lv_aload_n hx hb dX1_takeNumbered_24 rfl (lv_at hl 0 rfl) ?_
    refine va_get (D := D) (ci := 1) (v := .int (V14 1 6)) (fs := (xfReader ad V14 L13 Z)) (C := RX1) (T := TX1) (N := 9) hx hb hg inX1 hown hK hP 1 xgReader rfl 6 (by decide) (hg _ w310) (fun _ h9 => h9) rfl dX1_takeNumbered_25 ?_
    refine g_top (v := z6) (up2_s hV14) ?_
    refine lv_iconst (v := (-1)) hx hb dX1_takeNumbered_28 (by decide) ?_
    refine lv_icmp_ne (tgt := 38) hx hb dX1_takeNumbered_29 (by decide) (fun c16 => ?_) (fun c16 => ?_)
    · skip
      have f17 : z6.toInt ≠ (-1) := b_neq rfl (by decide) c16
      refine lv_aload_n hx hb dX1_takeNumbered_38 rfl (lv_at hl 0 rfl) ?_
      refine va_get (D := D) (ci := 1) (v := .ref (ad 6)) (fs := (xfReader ad V14 L13 Z)) (C := RX1) (T := TX1) (N := 9) hx hb hg inX1 hown hK hP 1 xgReader rfl 0 (by decide) (hg _ w304) (fun _ h9 => h9) rfl dX1_takeNumbered_39 ?_
      refine gA_void (gA_runV (As := []) (rest := []) (ci := 9) (q0 := 6) hx hb hml hown hg hP hD hK hS hA hnw hgk (x_next l D ks H.size ad kk V14 L13 Z  hMV14 ) w871 w852 w853 w157 w854 rfl xgTape hdV_yX9_next ⟨Nat.le_of_ble_eq_true rfl, Nat.le_of_ble_eq_true rfl⟩ rfl hl.1 rfl (Nat.le_of_ble_eq_true rfl) dX1_takeNumbered_42 ⟨Nat.le_of_ble_eq_true rfl, Nat.le_of_ble_eq_true rfl⟩) hP hD hK hS hA (fun u19 H locs w20 hP hD hK hS => ?_)
      obtain ⟨V21, L22⟩ := u19
      obtain ⟨hMV21, ajV21, axL22⟩ := w20
      have alL22 : agL [6, 44] L L22 := agL.tr alL13 axL22 (by decide)
      have hP : va_P D vwCl (xw ad kk V21 L22 Z) H := hP
      have hD : va_D A (xw ad kk V21 L22 Z) := hD
      have hMV21 : rgd bX V21 := hMV21
      have ajV21 : agr [(6, 8), (6, 9), (6, 10)] [] V14 V21 := ajV21
      have agV21 : agr [(1, 3), (1, 6), (6, 8), (6, 9), (6, 10)] [43, 44] V V21 := agV14.tr ajV21 (by decide) (by decide)
      have fwV21 : frX (xN gn) V V21 := frX.tr fwV14 (frX.ag ajV21 (by decide) (by decide))
      refine lv_iconst (v := 1) hx hb dX1_takeNumbered_45 (by decide) ?_
      have pq23 : (V21 1 6).toInt = z6.toInt := congrArg Int32.toInt ((ajV21 1 6 rfl).trans (up2_s hV14))
      have pq24 : (V21 1 3).toInt = ((V 1 3)).toInt := congrArg Int32.toInt ((ajV21 1 3 rfl).trans ((up2_k hV14 (by decide)).trans (ajV12 1 3 rfl)))
      have rp25 : ∀ n : Nat, ¬ n = gn → V21 43 n = V 43 n := fun n hn => ((ajV21 43 n rfl).trans ((up2_o hV14 (by decide)).trans ((t11 n hn).trans rfl)))
      exact W.zret (v := 1) hx hb hr rfl (fun t ht hW => ⟨⟨1, (V21, L22), rfl, ⟨hMV21, agV21, alL22, fwV21, (by decide), (Imp.mk (fun _ => (show 0 ≤ (V21 1 6).toInt ∧ (V21 1 6).toInt < ((xcap gn : Nat) : Int) from by first | exact om_78cee17fc076 rgz6.1 t9 sz1 f17 pq23 | first | omega | ((try (have i_t10 := Imp.go t10 (by omega))); omega)))), rp25, (Imp.mk (fun hp => absurd hp (by decide)))⟩, by rw [ht]; exact hP, va_K.moved hW.alike hK, hD⟩, hS.F ht⟩) hS.2.2 dX1_takeNumbered_46
    · skip
      have f26 : z6.toInt = (-1) := b_eq rfl (by decide) c16
      refine lv_aload_n hx hb dX1_takeNumbered_32 rfl (lv_at hl 0 rfl) ?_
      refine lv_iconst (v := 5) hx hb dX1_takeNumbered_33 (by decide) ?_
      have r27 : Int32.toInt 5 = 5 := by decide
      refine gA_int (gA_runV (As := [.int 5]) (rest := []) (ci := 1) (q0 := 1) hx hb hml hown hg hP hD hK hS hA hnw hgk (x_wrong l D ks H.size ad kk V14 L13 Z 5 hMV14 (by decide)) w867 w869 w6 w162 w870 rfl xgReader hdV_yX1_wrong ⟨Nat.le_of_ble_eq_true rfl, Nat.le_of_ble_eq_true rfl⟩ rfl hl.1 rfl (Nat.le_of_ble_eq_true rfl) dX1_takeNumbered_34 ⟨Nat.le_of_ble_eq_true rfl, Nat.le_of_ble_eq_true rfl⟩) hP hD hK hS hA (fun z28 u29 H locs w30 hP hD hK hS => ?_)
      obtain ⟨V32, L33⟩ := u29
      obtain ⟨hMV32, ajV32, axL33, rgz28, t31⟩ := w30
      have axL33 : L13 = L33 := Eq.symm axL33
      subst axL33
      have hP : va_P D vwCl (xw ad kk V32 L13 Z) H := hP
      have hD : va_D A (xw ad kk V32 L13 Z) := hD
      have hMV32 : rgd bX V32 := hMV32
      have ajV32 : agr [(1, 3)] [] V14 V32 := ajV32
      have agV32 : agr [(1, 3), (1, 6), (6, 8), (6, 9), (6, 10)] [43, 44] V V32 := agV14.tr ajV32 (by decide) (by decide)
      have fwV32 : frX (xN gn) V V32 := frX.tr fwV14 (frX.ag ajV32 (by decide) (by decide))
      have rgz28 : 0 ≤ z28.toInt ∧ z28.toInt ≤ 0 := rgz28
      have t31 : 1 ≤ (V32 1 3).toInt := t31
      have pq34 : (V32 1 6).toInt = z6.toInt := congrArg Int32.toInt ((ajV32 1 6 rfl).trans (up2_s hV14))
      have rp35 : ∀ n : Nat, ¬ n = gn → V32 43 n = V 43 n := fun n hn => ((ajV32 43 n rfl).trans ((up2_o hV14 (by decide)).trans ((t11 n hn).trans rfl)))
      exact W.zret (v := z28) hx hb hr (nb_ok (by omega)) (fun t ht hW => ⟨⟨z28, (V32, L13), rfl, ⟨hMV32, agV32, alL13, fwV32, (show 0 ≤ z28.toInt ∧ z28.toInt ≤ 1 from by first | exact om_641b3f05f166 rgz28.1 rgz28.2 | first | omega | ((try (have i_t10 := Imp.go t10 (by omega))); omega)), (Imp.mk (fun hp => have hp : z28.toInt = 1 := hp; (show 0 ≤ (V32 1 6).toInt ∧ (V32 1 6).toInt < ((xcap gn : Nat) : Int) from by first | omega | ((try (have i_t10 := Imp.go t10 (by omega))); omega)))), rp35, (Imp.mk (fun hp => have hp : z28.toInt = 0 := hp; (show 1 ≤ (V32 1 3).toInt from by first | exact om_f8d8213eda45 t31 | first | omega | ((try (have i_t10 := Imp.go t10 (by omega))); omega))))⟩, by rw [ht]; exact hP, va_K.moved hW.alike hK, hD⟩, hS.F ht⟩) hS.2.2 dX1_takeNumbered_37
  · skip
    have f36 : p1.toInt ≠ (-1) := b_neq rfl (by decide) c3
    refine lv_iload_n hx hb dX1_takeNumbered_6 rfl (lv_at hl 2 rfl) ?_
    refine lv_goto (tgt := 21) hx hb dX1_takeNumbered_7 (by decide) ?_
    have sz1 : (V 43 gn).toInt ≤ ((xcap gn : Nat) : Int) := (hMV 43 gn).2
    refine va_put (D := D) (ci := 1) (v := .int p1) (ty := tyX1 6) (fs := (xfReader ad V L Z)) (C := RX1) (T := TX1) (N := 9) hx hb hg inX1 tyX1 tyX1_ok nmX1 hown hK hP hD hS 1 xgReader rfl 6 (by decide) (hg _ w310) (fun _ h9 => h9) rfl (tyX1_ok 6 (by decide)) rfl rfl (Nat.le_of_ble_eq_true rfl) dX1_takeNumbered_21 (fun H locs hP hD hS => ?_)
    obtain ⟨V37, hV37⟩ : ∃ z, z = up2 V 1 6 p1 := ⟨_, rfl⟩
    have ew38 : (xw ad kk V L Z).set 1 ((ad 1), .inr (1, (xfReader ad V L Z).set 6 (.int p1))) = xw ad kk V37 L Z := by rw [hV37]; exact xw_ss (by decide) rfl (xb_si (by decide))
    have hP : va_P D vwCl (xw ad kk V37 L Z) H := by rw [← ew38]; exact hP
    have hD : va_D A (xw ad kk V37 L Z) := by rw [← ew38]; exact hD
    have hMV37 : rgd bX V37 := hMV.put hV37 (show (-1) ≤ p1.toInt ∧ p1.toInt ≤ 23 from by (first | exact om_c82aee070780 rg_p1.1 rg_p1.2 f36 | omega))
    have agV37 : agr [(1, 3), (1, 6), (6, 8), (6, 9), (6, 10)] [43, 44] V V37 := agV.up hV37 rfl
    have fwV37 : frX (xN gn) V V37 := frX.up fwV hV37 (Or.inl (by decide))
    refine lv_aload_n hx hb dX1_takeNumbered_24 rfl (lv_at hl 0 rfl) ?_
    refine va_get (D := D) (ci := 1) (v := .int (V37 1 6)) (fs := (xfReader ad V37 L Z)) (C := RX1) (T := TX1) (N := 9) hx hb hg inX1 hown hK hP 1 xgReader rfl 6 (by decide) (hg _ w310) (fun _ h9 => h9) rfl dX1_takeNumbered_25 ?_
    refine g_top (v := p1) (up2_s hV37) ?_
    refine lv_iconst (v := (-1)) hx hb dX1_takeNumbered_28 (by decide) ?_
    refine lv_icmp_ne (tgt := 38) hx hb dX1_takeNumbered_29 (by decide) (fun c39 => ?_) (fun c39 => ?_)
    · skip
      have f40 : p1.toInt ≠ (-1) := b_neq rfl (by decide) c39
      refine lv_aload_n hx hb dX1_takeNumbered_38 rfl (lv_at hl 0 rfl) ?_
      refine va_get (D := D) (ci := 1) (v := .ref (ad 6)) (fs := (xfReader ad V37 L Z)) (C := RX1) (T := TX1) (N := 9) hx hb hg inX1 hown hK hP 1 xgReader rfl 0 (by decide) (hg _ w304) (fun _ h9 => h9) rfl dX1_takeNumbered_39 ?_
      refine gA_void (gA_runV (As := []) (rest := []) (ci := 9) (q0 := 6) hx hb hml hown hg hP hD hK hS hA hnw hgk (x_next l D ks H.size ad kk V37 L Z  hMV37 ) w871 w852 w853 w157 w854 rfl xgTape hdV_yX9_next ⟨Nat.le_of_ble_eq_true rfl, Nat.le_of_ble_eq_true rfl⟩ rfl hl.1 rfl (Nat.le_of_ble_eq_true rfl) dX1_takeNumbered_42 ⟨Nat.le_of_ble_eq_true rfl, Nat.le_of_ble_eq_true rfl⟩) hP hD hK hS hA (fun u42 H locs w43 hP hD hK hS => ?_)
      obtain ⟨V44, L45⟩ := u42
      obtain ⟨hMV44, ajV44, axL45⟩ := w43
      have alL45 : agL [6, 44] L L45 := agL.tr alL axL45 (by decide)
      have hP : va_P D vwCl (xw ad kk V44 L45 Z) H := hP
      have hD : va_D A (xw ad kk V44 L45 Z) := hD
      have hMV44 : rgd bX V44 := hMV44
      have ajV44 : agr [(6, 8), (6, 9), (6, 10)] [] V37 V44 := ajV44
      have agV44 : agr [(1, 3), (1, 6), (6, 8), (6, 9), (6, 10)] [43, 44] V V44 := agV37.tr ajV44 (by decide) (by decide)
      have fwV44 : frX (xN gn) V V44 := frX.tr fwV37 (frX.ag ajV44 (by decide) (by decide))
      refine lv_iconst (v := 1) hx hb dX1_takeNumbered_45 (by decide) ?_
      have pq46 : (V44 1 6).toInt = p1.toInt := congrArg Int32.toInt ((ajV44 1 6 rfl).trans (up2_s hV37))
      have pq47 : (V44 1 3).toInt = ((V 1 3)).toInt := congrArg Int32.toInt ((ajV44 1 3 rfl).trans (up2_k hV37 (by decide)))
      have rp48 : ∀ n : Nat, ¬ n = gn → V44 43 n = V 43 n := fun n hn => ((ajV44 43 n rfl).trans ((up2_o hV37 (by decide)).trans rfl))
      exact W.zret (v := 1) hx hb hr rfl (fun t ht hW => ⟨⟨1, (V44, L45), rfl, ⟨hMV44, agV44, alL45, fwV44, (by decide), (Imp.mk (fun _ => (show 0 ≤ (V44 1 6).toInt ∧ (V44 1 6).toInt < ((xcap gn : Nat) : Int) from by (first | exact om_39f98b553f9c rg_p1.1 y1 f36 sz1 pq46 | omega)))), rp48, (Imp.mk (fun hp => absurd hp (by decide)))⟩, by rw [ht]; exact hP, va_K.moved hW.alike hK, hD⟩, hS.F ht⟩) hS.2.2 dX1_takeNumbered_46
    · skip
      have f49 : p1.toInt = (-1) := b_eq rfl (by decide) c39
      exfalso; (first | exact om_9038406c8093 rg_p1.1 f36 f49 | omega)
abbrev r_x_takeMethodN : Room := { frames := 2, cells := 0, slots := 0, locals := 44 }
abbrev q_x_takeMethodN (D : va_G) (ks : KS) (ad : Nat → Nat) (kk : Nat → ClassId) (V : Vf) (L : Lf) (Z : XZ) (b : Nat) (A : Nat → Prop) : Array Value → State → Outcome → State → Prop := va_Qi (fun (r : Int32) (u : Vf × Lf) => rgd bX u.1 ∧ agr [(1, 3), (1, 6), (6, 8), (6, 9), (6, 10)] [43, 44] V u.1 ∧ agL [6, 44] L u.2 ∧ frX (xR b) V u.1 ∧ (0 ≤ r.toInt ∧ r.toInt ≤ 1) ∧ (Imp (r.toInt = 1) (0 ≤ (u.1 1 6).toInt ∧ (u.1 1 6).toInt ≤ 19)) ∧ (px V u.1 b) ∧ (Imp (r.toInt = 0) (1 ≤ (u.1 1 3).toInt))) (fun u t => gq D A (xw ad kk u.1 u.2 Z) (xty kk Z) t) A
set_option maxHeartbeats 4000000 in
set_option maxRecDepth 100000 in
theorem x_takeMethodN (l : Launch) (D : va_G) (ks : KS) (sz : Nat) (ad : Nat → Nat) (kk : Nat → ClassId) (V : Vf) (L : Lf) (Z : XZ) (b : Nat) (hMV : rgd bX V) (hb2 : b < 2) (rbk : (V 1 1).toInt = (b : Int))  : Met l yX1_takeMethod (Cond.code yX1_takeMethod cX1_takeMethod 3 (some .boolean) :: GW) r_x_takeMethodN (va_Pc [.ref (ad 1), .null] (gp D ks (xw ad kk V L Z) (xty kk Z) sz)) (q_x_takeMethodN D ks ad kk V L Z  b (va_A (xw ad kk V L Z) sz)) 0 0 (va_A (xw ad kk V L Z) sz) := by
  refine g_met (q_x_takeMethodN D ks ad kk V L Z  b) (by decide) (Nat.le_of_ble_eq_true rfl) ?_
  intro p e s m below meth c A ls H locs hx hb hr hml hown hg hlocks hin hnw hgk hP hK hD hS hA hl
  have hown : s.vm.findClass RX1 = some m.cls := hown
  have hl : lv_has ls 3 [(0, .ref (ad 1)), (1, .null)] := hl
  have hP : va_P D vwCl (xw ad kk V L Z) H := hP
  have hD : va_D A (xw ad kk V L Z) := hD
  have hK : va_K D vwCl (xty kk Z) s := hK
  have agV : agr [(1, 3), (1, 6), (6, 8), (6, 9), (6, 10)] [43, 44] V V := agr.rf
  have alL : agL [6, 44] L L := agL.rf
  have fwV : frX (xR b) V V := frX.rf
  have r1 : (-1) ≤ ((V 1 1)).toInt ∧ ((V 1 1)).toInt ≤ 1 := hMV 1 1
  refine lv_aload_n hx hb dX1_takeMethod_0 rfl (lv_at hl 0 rfl) ?_
  refine va_get (D := D) (ci := 1) (v := .ref (ad 6)) (fs := (xfReader ad V L Z)) (C := RX1) (T := TX1) (N := 9) hx hb hg inX1 hown hK hP 1 xgReader rfl 0 (by decide) (hg _ w304) (fun _ h9 => h9) rfl dX1_takeMethod_1 ?_
  refine va_getN (D := D) (ci := 9) (v := .int (V 6 9)) (fs := (xfTape ad V L Z)) (C := RX9) (T := TX9) (N := 12) hx hb hg inX9 hown hK hP 6 xgTape rfl 9 (by decide) (hnw.use 262 n262 rfl) (fun _ h9 => h9) rfl dX1_takeMethod_4 ?_
  refine lv_iconst (v := 3) hx hb dX1_takeMethod_7 (by decide) ?_
  refine lv_icmp_eq (tgt := 17) hx hb dX1_takeMethod_8 (by decide) (fun c2 => ?_) (fun c2 => ?_)
  · skip
    have f3 : ((V 6 9)).toInt = 3 := b_eq rfl (by decide) c2
    refine lv_aload_n hx hb dX1_takeMethod_17 rfl (lv_at hl 0 rfl) ?_
    refine va_get (D := D) (ci := 1) (v := rfN ad 38 (V 1 1)) (fs := (xfReader ad V L Z)) (C := RX1) (T := TX1) (N := 9) hx hb hg inX1 hown hK hP 1 xgReader rfl 1 (by decide) (hg _ w305) (fun _ h9 => h9) rfl dX1_takeMethod_18 ?_
    refine g_topv (v := .ref (ad (38 + b))) (rfN_r (by omega)) ?_
    refine va_getN (D := D) (ci := 0) (v := .ref (ad (40 + (5 * b + 3)))) (fs := (xfBook ad V b)) (C := RX0) (T := TX0) (N := 13) hx hb hg inX0 hown hK hP (38 + b) (xgBook hb2) rfl 3 (by decide) (hnw.use 605 n605 rfl) (fun _ h9 => h9) rfl dX1_takeMethod_21 ?_
    refine lv_aload_n hx hb dX1_takeMethod_24 rfl (lv_at hl 0 rfl) ?_
    refine va_get (D := D) (ci := 1) (v := .ref (ad 6)) (fs := (xfReader ad V L Z)) (C := RX1) (T := TX1) (N := 9) hx hb hg inX1 hown hK hP 1 xgReader rfl 0 (by decide) (hg _ w304) (fun _ h9 => h9) rfl dX1_takeMethod_25 ?_
    refine va_getN (D := D) (ci := 9) (v := .long (L 6 11)) (fs := (xfTape ad V L Z)) (C := RX9) (T := TX9) (N := 12) hx hb hg inX9 hown hK hP 6 xgTape rfl 11 (by decide) (hnw.use 269 n269 rfl) (fun _ h9 => h9) rfl dX1_takeMethod_28 ?_
    refine lv_topl (fun w4 ew4 => ?_)
    have il5 : (5 * b + 3) < 10 := by (first | exact om_a4f98a710256 hb2 | omega)
    refine gA_int (gA_runV (As := [.long w4]) (rest := []) (ci := 6) (q0 := (40 + (5 * b + 3))) hx hb hml hown hg hP hD hK hS hA hnw hgk (x_find l D ks H.size ad kk V L Z w4 ((5 * b + 3)) hMV (show (5 * b + 3) < 10 from by (first | exact om_a4f98a710256 hb2 | omega))) w892 w881 w882 w168 w883 rfl (xgNames il5) hdV_yX6_find ⟨Nat.le_of_ble_eq_true rfl, Nat.le_of_ble_eq_true rfl⟩ rfl hl.1 rfl (Nat.le_of_ble_eq_true rfl) dX1_takeMethod_31 ⟨Nat.le_of_ble_eq_true rfl, Nat.le_of_ble_eq_true rfl⟩) hP hD hK hS hA (fun z6 u7 H locs w8 hP hD hK hS => ?_)
    obtain ⟨rgz6, t9⟩ := w8
    have rgz6 : (-1) ≤ z6.toInt ∧ z6.toInt ≤ 23 := rgz6
    have t9 : z6.toInt < (V 43 (5 * b + 3)).toInt := t9
    refine lv_istore_n (lv' := [(2, .int z6), (0, .ref (ad 1)), (1, .null)]) hx hb dX1_takeMethod_34 rfl hl (by decide) rfl (fun ls hl => ?_)
    have r10 : xcap (5 * b + 3) = 20 := xcap_3
    refine lv_iload_n hx hb dX1_takeMethod_35 rfl (lv_at hl 0 rfl) ?_
    refine lv_iconst (v := (-1)) hx hb dX1_takeMethod_36 (by decide) ?_
    refine lv_icmp_eq (tgt := 60) hx hb dX1_takeMethod_37 (by decide) (fun c11 => ?_) (fun c11 => ?_)
    · skip
      have f12 : z6.toInt = (-1) := b_eq rfl (by decide) c11
      refine lv_aload_n hx hb dX1_takeMethod_60 rfl (lv_at hl 1 rfl) ?_
      refine lv_aload_n hx hb dX1_takeMethod_61 rfl (lv_at hl 1 rfl) ?_
      refine va_get (D := D) (ci := 1) (v := rfN ad 38 (V 1 1)) (fs := (xfReader ad V L Z)) (C := RX1) (T := TX1) (N := 9) hx hb hg inX1 hown hK hP 1 xgReader rfl 1 (by decide) (hg _ w305) (fun _ h9 => h9) rfl dX1_takeMethod_62 ?_
      refine g_topv (v := .ref (ad (38 + b))) (rfN_r (by omega)) ?_
      refine va_getN (D := D) (ci := 0) (v := .ref (ad (40 + (5 * b + 3)))) (fs := (xfBook ad V b)) (C := RX0) (T := TX0) (N := 13) hx hb hg inX0 hown hK hP (38 + b) (xgBook hb2) rfl 3 (by decide) (hnw.use 605 n605 rfl) (fun _ h9 => h9) rfl dX1_takeMethod_65 ?_
      refine lv_iload_n hx hb dX1_takeMethod_68 rfl (lv_at hl 0 rfl) ?_
      have r13 : 0 ≤ ((V 43 (5 * b + 3))).toInt ∧ ((V 43 (5 * b + 3))).toInt ≤ ((xcap (5 * b + 3) : Nat) : Int) := hMV 43 (5 * b + 3)
      refine gA_int (gA_runV (As := [.ref (ad (40 + (5 * b + 3))), .int z6]) (rest := []) (ci := 1) (q0 := 1) hx hb hml hown hg hP hD hK hS hA hnw hgk (x_takeNumbered l D ks H.size ad kk V L Z z6 ((5 * b + 3)) hMV (by (first | exact om_4802cfc9c446 rgz6.1 f12 | omega)) (show (5 * b + 3) < 10 from by (first | exact om_a4f98a710256 hb2 | omega)) (show z6.toInt < (V 43 (5 * b + 3)).toInt from by (first | exact om_3e9fea077503 f12 r13.1 | omega))) w927 w929 w16 w162 w930 rfl xgReader hdV_yX1_takeNumbered ⟨Nat.le_of_ble_eq_true rfl, Nat.le_of_ble_eq_true rfl⟩ rfl hl.1 rfl (Nat.le_of_ble_eq_true rfl) dX1_takeMethod_69 ⟨Nat.le_of_ble_eq_true rfl, Nat.le_of_ble_eq_true rfl⟩) hP hD hK hS hA (fun z14 u15 H locs w16 hP hD hK hS => ?_)
      obtain ⟨V20, L21⟩ := u15
      obtain ⟨hMV20, ajV20, axL21, fyV20, rgz14, t17, t18, t19⟩ := w16
      have alL21 : agL [6, 44] L L21 := agL.tr alL axL21 (by decide)
      have hP : va_P D vwCl (xw ad kk V20 L21 Z) H := hP
      have hD : va_D A (xw ad kk V20 L21 Z) := hD
      have hMV20 : rgd bX V20 := hMV20
      have ajV20 : agr [(1, 3), (1, 6), (6, 8), (6, 9), (6, 10)] [43, 44] V V20 := ajV20
      have agV20 : agr [(1, 3), (1, 6), (6, 8), (6, 9), (6, 10)] [43, 44] V V20 := agV.tr ajV20 (by decide) (by decide)
      have fwV20 : frX (xR b) V V20 := frX.tr fwV (frX_NB fyV20 (by omega) (by omega))
      have rgz14 : 0 ≤ z14.toInt ∧ z14.toInt ≤ 1 := rgz14
      have t17 : Imp (z14.toInt = 1) (0 ≤ (V20 1 6).toInt ∧ (V20 1 6).toInt < ((xcap (5 * b + 3) : Nat) : Int)) := t17
      have t18 : (∀ n : Nat, ¬ n = (5 * b + 3) → V20 43 n = V 43 n) := t18
      have t19 : Imp (z14.toInt = 0) (1 ≤ (V20 1 3).toInt) := t19
      have r22 : (-1) ≤ ((V20 1 6)).toInt ∧ ((V20 1 6)).toInt ≤ 23 := hMV20 1 6
      have px23 : px V V20 b := px.tr (px.rf : px V V b) ⟨p0x.ag ajV20 (fun _ => rfl) (fun _ => rfl), t18 _ (by omega)⟩
      exact W.zret (v := z14) hx hb hr (nb_ok (by omega)) (fun t ht hW => ⟨⟨z14, (V20, L21), rfl, ⟨hMV20, agV20, alL21, fwV20, (show 0 ≤ z14.toInt ∧ z14.toInt ≤ 1 from by first | exact om_eb7af9d60398 rgz14.1 rgz14.2 | first | omega | ((try (have i_t19 := Imp.go t19 (by omega))); (try (have i_t17 := Imp.go t17 (by omega))); (try (have i_t17 := Imp.go t17 (by omega))); (try (have i_t19 := Imp.go t19 (by omega))); omega)), (Imp.mk (fun hp => have hp : z14.toInt = 1 := hp; (show 0 ≤ (V20 1 6).toInt ∧ (V20 1 6).toInt ≤ 19 from by first | exact om_a812228bf983 r10 ((Imp.go t17 (hp)).1) ((Imp.go t17 (hp)).2) | first | omega | ((try (have i_t19 := Imp.go t19 (by omega))); (try (have i_t17 := Imp.go t17 (by omega))); (try (have i_t17 := Imp.go t17 (by omega))); (try (have i_t19 := Imp.go t19 (by omega))); omega)))), px23, (Imp.mk (fun hp => have hp : z14.toInt = 0 := hp; (show 1 ≤ (V20 1 3).toInt from by first | exact om_f8d8213eda45 ((Imp.go t19 (hp))) | first | omega | ((try (have i_t19 := Imp.go t19 (by omega))); (try (have i_t17 := Imp.go t17 (by omega))); (try (have i_t17 := Imp.go t17 (by omega))); (try (have i_t19 := Imp.go t19 (by omega))); omega))))⟩, by rw [ht]; exact hP, va_K.moved hW.alike hK, hD⟩, hS.F ht⟩) hS.2.2 dX1_takeMethod_72
    · skip
      have f24 : z6.toInt ≠ (-1) := b_neq rfl (by decide) c11
      refine lv_aload_nN hx hb dX1_takeMethod_40 rfl (lv_at hl 2 rfl) ?_
      refine lv_ifnullN (tgt := 60) hx hb dX1_takeMethod_41 (by decide) ?_
      refine lv_aload_n hx hb dX1_takeMethod_60 rfl (lv_at hl 1 rfl) ?_
      refine lv_aload_n hx hb dX1_takeMethod_61 rfl (lv_at hl 1 rfl) ?_
      refine va_get (D := D) (ci := 1) (v := rfN ad 38 (V 1 1)) (fs := (xfReader ad V L Z)) (C := RX1) (T := TX1) (N := 9) hx hb hg inX1 hown hK hP 1 xgReader rfl 1 (by decide) (hg _ w305) (fun _ h9 => h9) rfl dX1_takeMethod_62 ?_
      refine g_topv (v := .ref (ad (38 + b))) (rfN_r (by omega)) ?_
      refine va_getN (D := D) (ci := 0) (v := .ref (ad (40 + (5 * b + 3)))) (fs := (xfBook ad V b)) (C := RX0) (T := TX0) (N := 13) hx hb hg inX0 hown hK hP (38 + b) (xgBook hb2) rfl 3 (by decide) (hnw.use 605 n605 rfl) (fun _ h9 => h9) rfl dX1_takeMethod_65 ?_
      refine lv_iload_n hx hb dX1_takeMethod_68 rfl (lv_at hl 0 rfl) ?_
      have r25 : 0 ≤ ((V 43 (5 * b + 3))).toInt ∧ ((V 43 (5 * b + 3))).toInt ≤ ((xcap (5 * b + 3) : Nat) : Int) := hMV 43 (5 * b + 3)
      refine gA_int (gA_runV (As := [.ref (ad (40 + (5 * b + 3))), .int z6]) (rest := []) (ci := 1) (q0 := 1) hx hb hml hown hg hP hD hK hS hA hnw hgk (x_takeNumbered l D ks H.size ad kk V L Z z6 ((5 * b + 3)) hMV (by (first | exact om_c7228678a303 rgz6.1 t9 r10 f24 r25.2 | omega)) (show (5 * b + 3) < 10 from by (first | exact om_a4f98a710256 hb2 | omega)) (show z6.toInt < (V 43 (5 * b + 3)).toInt from by (first | exact om_0e9116797efb t9 | omega))) w927 w929 w16 w162 w930 rfl xgReader hdV_yX1_takeNumbered ⟨Nat.le_of_ble_eq_true rfl, Nat.le_of_ble_eq_true rfl⟩ rfl hl.1 rfl (Nat.le_of_ble_eq_true rfl) dX1_takeMethod_69 ⟨Nat.le_of_ble_eq_true rfl, Nat.le_of_ble_eq_true rfl⟩) hP hD hK hS hA (fun z26 u27 H locs w28 hP hD hK hS => ?_)
      obtain ⟨V32, L33⟩ := u27
      obtain ⟨hMV32, ajV32, axL33, fyV32, rgz26, t29, t30, t31⟩ := w28
      have alL33 : agL [6, 44] L L33 := agL.tr alL axL33 (by decide)
      have hP : va_P D vwCl (xw ad kk V32 L33 Z) H := hP
      have hD : va_D A (xw ad kk V32 L33 Z) := hD
      have hMV32 : rgd bX V32 := hMV32
      have ajV32 : agr [(1, 3), (1, 6), (6, 8), (6, 9), (6, 10)] [43, 44] V V32 := ajV32
      have agV32 : agr [(1, 3), (1, 6), (6, 8), (6, 9), (6, 10)] [43, 44] V V32 := agV.tr ajV32 (by decide) (by decide)
      have fwV32 : frX (xR b) V V32 := frX.tr fwV (frX_NB fyV32 (by omega) (by omega))
      have rgz26 : 0 ≤ z26.toInt ∧ z26.toInt ≤ 1 := rgz26
      have t29 : Imp (z26.toInt = 1) (0 ≤ (V32 1 6).toInt ∧ (V32 1 6).toInt < ((xcap (5 * b + 3) : Nat) : Int)) := t29
      have t30 : (∀ n : Nat, ¬ n = (5 * b + 3) → V32 43 n = V 43 n) := t30
      have t31 : Imp (z26.toInt = 0) (1 ≤ (V32 1 3).toInt) := t31
      have r34 : (-1) ≤ ((V32 1 6)).toInt ∧ ((V32 1 6)).toInt ≤ 23 := hMV32 1 6
      have px35 : px V V32 b := px.tr (px.rf : px V V b) ⟨p0x.ag ajV32 (fun _ => rfl) (fun _ => rfl), t30 _ (by omega)⟩
      exact W.zret (v := z26) hx hb hr (nb_ok (by omega)) (fun t ht hW => ⟨⟨z26, (V32, L33), rfl, ⟨hMV32, agV32, alL33, fwV32, (show 0 ≤ z26.toInt ∧ z26.toInt ≤ 1 from by first | exact om_eb7af9d60398 rgz26.1 rgz26.2 | first | omega | ((try (have i_t31 := Imp.go t31 (by omega))); (try (have i_t29 := Imp.go t29 (by omega))); (try (have i_t29 := Imp.go t29 (by omega))); (try (have i_t31 := Imp.go t31 (by omega))); omega)), (Imp.mk (fun hp => have hp : z26.toInt = 1 := hp; (show 0 ≤ (V32 1 6).toInt ∧ (V32 1 6).toInt ≤ 19 from by first | exact om_a812228bf983 r10 ((Imp.go t29 (hp)).1) ((Imp.go t29 (hp)).2) | first | omega | ((try (have i_t31 := Imp.go t31 (by omega))); (try (have i_t29 := Imp.go t29 (by omega))); (try (have i_t29 := Imp.go t29 (by omega))); (try (have i_t31 := Imp.go t31 (by omega))); omega)))), px35, (Imp.mk (fun hp => have hp : z26.toInt = 0 := hp; (show 1 ≤ (V32 1 3).toInt from by first | exact om_f8d8213eda45 ((Imp.go t31 (hp))) | first | omega | ((try (have i_t31 := Imp.go t31 (by omega))); (try (have i_t29 := Imp.go t29 (by omega))); (try (have i_t29 := Imp.go t29 (by omega))); (try (have i_t31 := Imp.go t31 (by omega))); omega))))⟩, by rw [ht]; exact hP, va_K.moved hW.alike hK, hD⟩, hS.F ht⟩) hS.2.2 dX1_takeMethod_72
  · skip
    have f36 : ((V 6 9)).toInt ≠ 3 := b_neq rfl (by decide) c2
    refine lv_aload_n hx hb dX1_takeMethod_11 rfl (lv_at hl 0 rfl) ?_
    refine lv_iconst (v := 1) hx hb dX1_takeMethod_12 (by decide) ?_
    have r37 : Int32.toInt 1 = 1 := by decide
    refine gA_int (gA_runV (As := [.int 1]) (rest := []) (ci := 1) (q0 := 1) hx hb hml hown hg hP hD hK hS hA hnw hgk (x_wrong l D ks H.size ad kk V L Z 1 hMV (by decide)) w867 w869 w6 w162 w870 rfl xgReader hdV_yX1_wrong ⟨Nat.le_of_ble_eq_true rfl, Nat.le_of_ble_eq_true rfl⟩ rfl hl.1 rfl (Nat.le_of_ble_eq_true rfl) dX1_takeMethod_13 ⟨Nat.le_of_ble_eq_true rfl, Nat.le_of_ble_eq_true rfl⟩) hP hD hK hS hA (fun z38 u39 H locs w40 hP hD hK hS => ?_)
    obtain ⟨V42, L43⟩ := u39
    obtain ⟨hMV42, ajV42, axL43, rgz38, t41⟩ := w40
    have axL43 : L = L43 := Eq.symm axL43
    subst axL43
    have hP : va_P D vwCl (xw ad kk V42 L Z) H := hP
    have hD : va_D A (xw ad kk V42 L Z) := hD
    have hMV42 : rgd bX V42 := hMV42
    have ajV42 : agr [(1, 3)] [] V V42 := ajV42
    have agV42 : agr [(1, 3), (1, 6), (6, 8), (6, 9), (6, 10)] [43, 44] V V42 := agV.tr ajV42 (by decide) (by decide)
    have fwV42 : frX (xR b) V V42 := frX.tr fwV (frX.ag ajV42 (by decide) (by decide))
    have rgz38 : 0 ≤ z38.toInt ∧ z38.toInt ≤ 0 := rgz38
    have t41 : 1 ≤ (V42 1 3).toInt := t41
    have pq44 : (V42 1 6).toInt = ((V 1 6)).toInt := congrArg Int32.toInt (ajV42 1 6 rfl)
    have r45 : (-1) ≤ ((V 1 6)).toInt ∧ ((V 1 6)).toInt ≤ 23 := hMV 1 6
    have px46 : px V V42 b := px.tr (px.rf : px V V b) (px.ag (show agr [(1, 3)] [] V V42 from (agr.tr agr.rf ajV42 (by decide) (by decide))) (fun _ => rfl) (fun _ => rfl) (fun _ => rfl))
    exact W.zret (v := z38) hx hb hr (nb_ok (by omega)) (fun t ht hW => ⟨⟨z38, (V42, L), rfl, ⟨hMV42, agV42, alL, fwV42, (show 0 ≤ z38.toInt ∧ z38.toInt ≤ 1 from by (first | exact om_641b3f05f166 rgz38.1 rgz38.2 | omega)), (Imp.mk (fun hp => have hp : z38.toInt = 1 := hp; (show 0 ≤ (V42 1 6).toInt ∧ (V42 1 6).toInt ≤ 19 from by omega))), px46, (Imp.mk (fun hp => have hp : z38.toInt = 0 := hp; (show 1 ≤ (V42 1 3).toInt from by (first | exact om_f8d8213eda45 t41 | omega))))⟩, by rw [ht]; exact hP, va_K.moved hW.alike hK, hD⟩, hS.F ht⟩) hS.2.2 dX1_takeMethod_16
abbrev r_x_takeMethodO : Room := { frames := 2, cells := 0, slots := 0, locals := 44 }
abbrev q_x_takeMethodO (D : va_G) (ks : KS) (ad : Nat → Nat) (kk : Nat → ClassId) (V : Vf) (L : Lf) (Z : XZ) (b : Nat) (gi : Nat) (A : Nat → Prop) : Array Value → State → Outcome → State → Prop := va_Qi (fun (r : Int32) (u : Vf × Lf) => rgd bX u.1 ∧ agr [(1, 3), (1, 6), (6, 8), (6, 9), (6, 10)] [43, 44] V u.1 ∧ agL [6, 44] L u.2 ∧ frX (xR b) V u.1 ∧ (0 ≤ r.toInt ∧ r.toInt ≤ 1) ∧ (Imp (r.toInt = 1) (0 ≤ (u.1 1 6).toInt ∧ (u.1 1 6).toInt ≤ 19)) ∧ (px V u.1 b) ∧ (Imp (r.toInt = 0) (1 ≤ (u.1 1 3).toInt))) (fun u t => gq D A (xw ad kk u.1 u.2 Z) (xty kk Z) t) A
set_option maxHeartbeats 4000000 in
set_option maxRecDepth 100000 in
theorem x_takeMethodO (l : Launch) (D : va_G) (ks : KS) (sz : Nat) (ad : Nat → Nat) (kk : Nat → ClassId) (V : Vf) (L : Lf) (Z : XZ) (b : Nat) (gi : Nat) (hMV : rgd bX V) (hb2 : b < 2) (rbk : (V 1 1).toInt = (b : Int)) (hgi : gi < 48)  : Met l yX1_takeMethod (Cond.code yX1_takeMethod cX1_takeMethod 3 (some .boolean) :: GW) r_x_takeMethodO (va_Pc [.ref (ad 1), .ref (ad (72 + gi))] (gp D ks (xw ad kk V L Z) (xty kk Z) sz)) (q_x_takeMethodO D ks ad kk V L Z  b gi (va_A (xw ad kk V L Z) sz)) 0 0 (va_A (xw ad kk V L Z) sz) := by
  refine g_met (q_x_takeMethodO D ks ad kk V L Z  b gi) (by decide) (Nat.le_of_ble_eq_true rfl) ?_
  intro p e s m below meth c A ls H locs hx hb hr hml hown hg hlocks hin hnw hgk hP hK hD hS hA hl
  have hown : s.vm.findClass RX1 = some m.cls := hown
  have hl : lv_has ls 3 [(0, .ref (ad 1)), (1, .ref (ad (72 + gi)))] := hl
  have hP : va_P D vwCl (xw ad kk V L Z) H := hP
  have hD : va_D A (xw ad kk V L Z) := hD
  have hK : va_K D vwCl (xty kk Z) s := hK
  have agV : agr [(1, 3), (1, 6), (6, 8), (6, 9), (6, 10)] [43, 44] V V := agr.rf
  have alL : agL [6, 44] L L := agL.rf
  have fwV : frX (xR b) V V := frX.rf
  have r1 : (-1) ≤ ((V 1 1)).toInt ∧ ((V 1 1)).toInt ≤ 1 := hMV 1 1
  refine lv_aload_n hx hb dX1_takeMethod_0 rfl (lv_at hl 0 rfl) ?_
  refine va_get (D := D) (ci := 1) (v := .ref (ad 6)) (fs := (xfReader ad V L Z)) (C := RX1) (T := TX1) (N := 9) hx hb hg inX1 hown hK hP 1 xgReader rfl 0 (by decide) (hg _ w304) (fun _ h9 => h9) rfl dX1_takeMethod_1 ?_
  refine va_getN (D := D) (ci := 9) (v := .int (V 6 9)) (fs := (xfTape ad V L Z)) (C := RX9) (T := TX9) (N := 12) hx hb hg inX9 hown hK hP 6 xgTape rfl 9 (by decide) (hnw.use 262 n262 rfl) (fun _ h9 => h9) rfl dX1_takeMethod_4 ?_
  refine lv_iconst (v := 3) hx hb dX1_takeMethod_7 (by decide) ?_
  refine lv_icmp_eq (tgt := 17) hx hb dX1_takeMethod_8 (by decide) (fun c2 => ?_) (fun c2 => ?_)
  · skip
    have f3 : ((V 6 9)).toInt = 3 := b_eq rfl (by decide) c2
    refine lv_aload_n hx hb dX1_takeMethod_17 rfl (lv_at hl 0 rfl) ?_
    refine va_get (D := D) (ci := 1) (v := rfN ad 38 (V 1 1)) (fs := (xfReader ad V L Z)) (C := RX1) (T := TX1) (N := 9) hx hb hg inX1 hown hK hP 1 xgReader rfl 1 (by decide) (hg _ w305) (fun _ h9 => h9) rfl dX1_takeMethod_18 ?_
    refine g_topv (v := .ref (ad (38 + b))) (rfN_r (by omega)) ?_
    refine va_getN (D := D) (ci := 0) (v := .ref (ad (40 + (5 * b + 3)))) (fs := (xfBook ad V b)) (C := RX0) (T := TX0) (N := 13) hx hb hg inX0 hown hK hP (38 + b) (xgBook hb2) rfl 3 (by decide) (hnw.use 605 n605 rfl) (fun _ h9 => h9) rfl dX1_takeMethod_21 ?_
    refine lv_aload_n hx hb dX1_takeMethod_24 rfl (lv_at hl 0 rfl) ?_
    refine va_get (D := D) (ci := 1) (v := .ref (ad 6)) (fs := (xfReader ad V L Z)) (C := RX1) (T := TX1) (N := 9) hx hb hg inX1 hown hK hP 1 xgReader rfl 0 (by decide) (hg _ w304) (fun _ h9 => h9) rfl dX1_takeMethod_25 ?_
    refine va_getN (D := D) (ci := 9) (v := .long (L 6 11)) (fs := (xfTape ad V L Z)) (C := RX9) (T := TX9) (N := 12) hx hb hg inX9 hown hK hP 6 xgTape rfl 11 (by decide) (hnw.use 269 n269 rfl) (fun _ h9 => h9) rfl dX1_takeMethod_28 ?_
    refine lv_topl (fun w4 ew4 => ?_)
    have il5 : (5 * b + 3) < 10 := by (first | exact om_a4f98a710256 hb2 | omega)
    refine gA_int (gA_runV (As := [.long w4]) (rest := []) (ci := 6) (q0 := (40 + (5 * b + 3))) hx hb hml hown hg hP hD hK hS hA hnw hgk (x_find l D ks H.size ad kk V L Z w4 ((5 * b + 3)) hMV (show (5 * b + 3) < 10 from by (first | exact om_a4f98a710256 hb2 | omega))) w892 w881 w882 w168 w883 rfl (xgNames il5) hdV_yX6_find ⟨Nat.le_of_ble_eq_true rfl, Nat.le_of_ble_eq_true rfl⟩ rfl hl.1 rfl (Nat.le_of_ble_eq_true rfl) dX1_takeMethod_31 ⟨Nat.le_of_ble_eq_true rfl, Nat.le_of_ble_eq_true rfl⟩) hP hD hK hS hA (fun z6 u7 H locs w8 hP hD hK hS => ?_)
    obtain ⟨rgz6, t9⟩ := w8
    have rgz6 : (-1) ≤ z6.toInt ∧ z6.toInt ≤ 23 := rgz6
    have t9 : z6.toInt < (V 43 (5 * b + 3)).toInt := t9
    have r10 : 0 ≤ ((V 43 (5 * b + 3))).toInt ∧ ((V 43 (5 * b + 3))).toInt ≤ ((xcap (5 * b + 3) : Nat) : Int) := hMV 43 (5 * b + 3)
    have r11 : xcap (5 * b + 3) = 20 := xcap_3
    refine lv_istore_n (lv' := [(2, .int z6), (0, .ref (ad 1)), (1, .ref (ad (72 + gi)))]) hx hb dX1_takeMethod_34 rfl hl (by decide) rfl (fun ls hl => ?_)
    refine lv_iload_n hx hb dX1_takeMethod_35 rfl (lv_at hl 0 rfl) ?_
    refine lv_iconst (v := (-1)) hx hb dX1_takeMethod_36 (by decide) ?_
    refine lv_icmp_eq (tgt := 60) hx hb dX1_takeMethod_37 (by decide) (fun c12 => ?_) (fun c12 => ?_)
    · skip
      have f13 : z6.toInt = (-1) := b_eq rfl (by decide) c12
      refine lv_aload_n hx hb dX1_takeMethod_60 rfl (lv_at hl 1 rfl) ?_
      refine lv_aload_n hx hb dX1_takeMethod_61 rfl (lv_at hl 1 rfl) ?_
      refine va_get (D := D) (ci := 1) (v := rfN ad 38 (V 1 1)) (fs := (xfReader ad V L Z)) (C := RX1) (T := TX1) (N := 9) hx hb hg inX1 hown hK hP 1 xgReader rfl 1 (by decide) (hg _ w305) (fun _ h9 => h9) rfl dX1_takeMethod_62 ?_
      refine g_topv (v := .ref (ad (38 + b))) (rfN_r (by omega)) ?_
      refine va_getN (D := D) (ci := 0) (v := .ref (ad (40 + (5 * b + 3)))) (fs := (xfBook ad V b)) (C := RX0) (T := TX0) (N := 13) hx hb hg inX0 hown hK hP (38 + b) (xgBook hb2) rfl 3 (by decide) (hnw.use 605 n605 rfl) (fun _ h9 => h9) rfl dX1_takeMethod_65 ?_
      refine lv_iload_n hx hb dX1_takeMethod_68 rfl (lv_at hl 0 rfl) ?_
      refine gA_int (gA_runV (As := [.ref (ad (40 + (5 * b + 3))), .int z6]) (rest := []) (ci := 1) (q0 := 1) hx hb hml hown hg hP hD hK hS hA hnw hgk (x_takeNumbered l D ks H.size ad kk V L Z z6 ((5 * b + 3)) hMV (by (first | exact om_4802cfc9c446 rgz6.1 f13 | omega)) (show (5 * b + 3) < 10 from by (first | exact om_a4f98a710256 hb2 | omega)) (show z6.toInt < (V 43 (5 * b + 3)).toInt from by (first | exact om_0520d8737a12 r10.1 f13 | omega))) w927 w929 w16 w162 w930 rfl xgReader hdV_yX1_takeNumbered ⟨Nat.le_of_ble_eq_true rfl, Nat.le_of_ble_eq_true rfl⟩ rfl hl.1 rfl (Nat.le_of_ble_eq_true rfl) dX1_takeMethod_69 ⟨Nat.le_of_ble_eq_true rfl, Nat.le_of_ble_eq_true rfl⟩) hP hD hK hS hA (fun z14 u15 H locs w16 hP hD hK hS => ?_)
      obtain ⟨V20, L21⟩ := u15
      obtain ⟨hMV20, ajV20, axL21, fyV20, rgz14, t17, t18, t19⟩ := w16
      have alL21 : agL [6, 44] L L21 := agL.tr alL axL21 (by decide)
      have hP : va_P D vwCl (xw ad kk V20 L21 Z) H := hP
      have hD : va_D A (xw ad kk V20 L21 Z) := hD
      have hMV20 : rgd bX V20 := hMV20
      have ajV20 : agr [(1, 3), (1, 6), (6, 8), (6, 9), (6, 10)] [43, 44] V V20 := ajV20
      have agV20 : agr [(1, 3), (1, 6), (6, 8), (6, 9), (6, 10)] [43, 44] V V20 := agV.tr ajV20 (by decide) (by decide)
      have fwV20 : frX (xR b) V V20 := frX.tr fwV (frX_NB fyV20 (by omega) (by omega))
      have rgz14 : 0 ≤ z14.toInt ∧ z14.toInt ≤ 1 := rgz14
      have t17 : Imp (z14.toInt = 1) (0 ≤ (V20 1 6).toInt ∧ (V20 1 6).toInt < ((xcap (5 * b + 3) : Nat) : Int)) := t17
      have t18 : (∀ n : Nat, ¬ n = (5 * b + 3) → V20 43 n = V 43 n) := t18
      have t19 : Imp (z14.toInt = 0) (1 ≤ (V20 1 3).toInt) := t19
      have r22 : (-1) ≤ ((V20 1 6)).toInt ∧ ((V20 1 6)).toInt ≤ 23 := hMV20 1 6
      have px23 : px V V20 b := px.tr (px.rf : px V V b) ⟨p0x.ag ajV20 (fun _ => rfl) (fun _ => rfl), t18 _ (by omega)⟩
      exact W.zret (v := z14) hx hb hr (nb_ok (by omega)) (fun t ht hW => ⟨⟨z14, (V20, L21), rfl, ⟨hMV20, agV20, alL21, fwV20, (show 0 ≤ z14.toInt ∧ z14.toInt ≤ 1 from by first | exact om_eb7af9d60398 rgz14.1 rgz14.2 | first | omega | ((try (have i_t19 := Imp.go t19 (by omega))); (try (have i_t17 := Imp.go t17 (by omega))); (try (have i_t17 := Imp.go t17 (by omega))); (try (have i_t19 := Imp.go t19 (by omega))); omega)), (Imp.mk (fun hp => have hp : z14.toInt = 1 := hp; (show 0 ≤ (V20 1 6).toInt ∧ (V20 1 6).toInt ≤ 19 from by first | exact om_a812228bf983 r11 ((Imp.go t17 (hp)).1) ((Imp.go t17 (hp)).2) | first | omega | ((try (have i_t19 := Imp.go t19 (by omega))); (try (have i_t17 := Imp.go t17 (by omega))); (try (have i_t17 := Imp.go t17 (by omega))); (try (have i_t19 := Imp.go t19 (by omega))); omega)))), px23, (Imp.mk (fun hp => have hp : z14.toInt = 0 := hp; (show 1 ≤ (V20 1 3).toInt from by first | exact om_f8d8213eda45 ((Imp.go t19 (hp))) | first | omega | ((try (have i_t19 := Imp.go t19 (by omega))); (try (have i_t17 := Imp.go t17 (by omega))); (try (have i_t17 := Imp.go t17 (by omega))); (try (have i_t19 := Imp.go t19 (by omega))); omega))))⟩, by rw [ht]; exact hP, va_K.moved hW.alike hK, hD⟩, hS.F ht⟩) hS.2.2 dX1_takeMethod_72
    · skip
      have f24 : z6.toInt ≠ (-1) := b_neq rfl (by decide) c12
      refine lv_aload_n hx hb dX1_takeMethod_40 rfl (lv_at hl 2 rfl) ?_
      refine lv_ifnull hx hb dX1_takeMethod_41 ?_
      refine lv_aload_n hx hb dX1_takeMethod_44 rfl (lv_at hl 2 rfl) ?_
      refine va_getN (D := D) (ci := 3) (v := .ref (ad (264 + gi))) (fs := (xfComp ad V gi)) (C := RX3) (T := TX3) (N := 13) hx hb hg inX3 hown hK hP (72 + gi) (xgComp hgi) rfl 3 (by decide) (hnw.use 508 n508 rfl) (fun _ h9 => h9) rfl dX1_takeMethod_45 ?_
      refine lv_iload_n hx hb dX1_takeMethod_48 rfl (lv_at hl 0 rfl) ?_
      refine va_iald (D := D) (i := z6) hx hb hK hP (264 + gi) (257 + gi) (xgmethodStarts hgi) (xtmethodStarts hgi) (i_in (a := z6.toInt) rfl (by (first | exact om_2e6b8401580f rgz6.1 t9 r10.2 r11 f24 | omega))) dX1_takeMethod_49 ?_
      have kc25 := i_clamp (x := z6) rfl (by (first | exact om_e3b1d6ac9ce8 rgz6.1 f24 | omega))
      refine g_top (v := V 61 (20 * gi + (Int32.toNatClampNeg z6))) (if_pos (by omega)) ?_
      have r26 : (-1) ≤ ((V 61 (20 * gi + (Int32.toNatClampNeg z6)))).toInt ∧ ((V 61 (20 * gi + (Int32.toNatClampNeg z6)))).toInt ≤ 8200 := hMV 61 (20 * gi + (Int32.toNatClampNeg z6))
      refine lv_iconst (v := (-1)) hx hb dX1_takeMethod_50 (by decide) ?_
      refine lv_icmp_eq (tgt := 60) hx hb dX1_takeMethod_51 (by decide) (fun c27 => ?_) (fun c27 => ?_)
      · skip
        have f28 : ((V 61 (20 * gi + (Int32.toNatClampNeg z6)))).toInt = (-1) := b_eq rfl (by decide) c27
        refine lv_aload_n hx hb dX1_takeMethod_60 rfl (lv_at hl 1 rfl) ?_
        refine lv_aload_n hx hb dX1_takeMethod_61 rfl (lv_at hl 1 rfl) ?_
        refine va_get (D := D) (ci := 1) (v := rfN ad 38 (V 1 1)) (fs := (xfReader ad V L Z)) (C := RX1) (T := TX1) (N := 9) hx hb hg inX1 hown hK hP 1 xgReader rfl 1 (by decide) (hg _ w305) (fun _ h9 => h9) rfl dX1_takeMethod_62 ?_
        refine g_topv (v := .ref (ad (38 + b))) (rfN_r (by omega)) ?_
        refine va_getN (D := D) (ci := 0) (v := .ref (ad (40 + (5 * b + 3)))) (fs := (xfBook ad V b)) (C := RX0) (T := TX0) (N := 13) hx hb hg inX0 hown hK hP (38 + b) (xgBook hb2) rfl 3 (by decide) (hnw.use 605 n605 rfl) (fun _ h9 => h9) rfl dX1_takeMethod_65 ?_
        refine lv_iload_n hx hb dX1_takeMethod_68 rfl (lv_at hl 0 rfl) ?_
        refine gA_int (gA_runV (As := [.ref (ad (40 + (5 * b + 3))), .int z6]) (rest := []) (ci := 1) (q0 := 1) hx hb hml hown hg hP hD hK hS hA hnw hgk (x_takeNumbered l D ks H.size ad kk V L Z z6 ((5 * b + 3)) hMV (by (first | exact om_3fdfc42d00bb rgz6.1 t9 r10.2 r11 f24 | omega)) (show (5 * b + 3) < 10 from by (first | exact om_a4f98a710256 hb2 | omega)) (show z6.toInt < (V 43 (5 * b + 3)).toInt from by (first | exact om_0e9116797efb t9 | omega))) w927 w929 w16 w162 w930 rfl xgReader hdV_yX1_takeNumbered ⟨Nat.le_of_ble_eq_true rfl, Nat.le_of_ble_eq_true rfl⟩ rfl hl.1 rfl (Nat.le_of_ble_eq_true rfl) dX1_takeMethod_69 ⟨Nat.le_of_ble_eq_true rfl, Nat.le_of_ble_eq_true rfl⟩) hP hD hK hS hA (fun z29 u30 H locs w31 hP hD hK hS => ?_)
        obtain ⟨V35, L36⟩ := u30
        obtain ⟨hMV35, ajV35, axL36, fyV35, rgz29, t32, t33, t34⟩ := w31
        have alL36 : agL [6, 44] L L36 := agL.tr alL axL36 (by decide)
        have hP : va_P D vwCl (xw ad kk V35 L36 Z) H := hP
        have hD : va_D A (xw ad kk V35 L36 Z) := hD
        have hMV35 : rgd bX V35 := hMV35
        have ajV35 : agr [(1, 3), (1, 6), (6, 8), (6, 9), (6, 10)] [43, 44] V V35 := ajV35
        have agV35 : agr [(1, 3), (1, 6), (6, 8), (6, 9), (6, 10)] [43, 44] V V35 := agV.tr ajV35 (by decide) (by decide)
        have fwV35 : frX (xR b) V V35 := frX.tr fwV (frX_NB fyV35 (by omega) (by omega))
        have rgz29 : 0 ≤ z29.toInt ∧ z29.toInt ≤ 1 := rgz29
        have t32 : Imp (z29.toInt = 1) (0 ≤ (V35 1 6).toInt ∧ (V35 1 6).toInt < ((xcap (5 * b + 3) : Nat) : Int)) := t32
        have t33 : (∀ n : Nat, ¬ n = (5 * b + 3) → V35 43 n = V 43 n) := t33
        have t34 : Imp (z29.toInt = 0) (1 ≤ (V35 1 3).toInt) := t34
        have r37 : (-1) ≤ ((V35 1 6)).toInt ∧ ((V35 1 6)).toInt ≤ 23 := hMV35 1 6
        have px38 : px V V35 b := px.tr (px.rf : px V V b) ⟨p0x.ag ajV35 (fun _ => rfl) (fun _ => rfl), t33 _ (by omega)⟩
        exact W.zret (v := z29) hx hb hr (nb_ok (by omega)) (fun t ht hW => ⟨⟨z29, (V35, L36), rfl, ⟨hMV35, agV35, alL36, fwV35, (show 0 ≤ z29.toInt ∧ z29.toInt ≤ 1 from by first | exact om_eb7af9d60398 rgz29.1 rgz29.2 | first | omega | ((try (have i_t34 := Imp.go t34 (by omega))); (try (have i_t32 := Imp.go t32 (by omega))); (try (have i_t32 := Imp.go t32 (by omega))); (try (have i_t34 := Imp.go t34 (by omega))); omega)), (Imp.mk (fun hp => have hp : z29.toInt = 1 := hp; (show 0 ≤ (V35 1 6).toInt ∧ (V35 1 6).toInt ≤ 19 from by first | exact om_a812228bf983 r11 ((Imp.go t32 (hp)).1) ((Imp.go t32 (hp)).2) | first | omega | ((try (have i_t34 := Imp.go t34 (by omega))); (try (have i_t32 := Imp.go t32 (by omega))); (try (have i_t32 := Imp.go t32 (by omega))); (try (have i_t34 := Imp.go t34 (by omega))); omega)))), px38, (Imp.mk (fun hp => have hp : z29.toInt = 0 := hp; (show 1 ≤ (V35 1 3).toInt from by first | exact om_f8d8213eda45 ((Imp.go t34 (hp))) | first | omega | ((try (have i_t34 := Imp.go t34 (by omega))); (try (have i_t32 := Imp.go t32 (by omega))); (try (have i_t32 := Imp.go t32 (by omega))); (try (have i_t34 := Imp.go t34 (by omega))); omega))))⟩, by rw [ht]; exact hP, va_K.moved hW.alike hK, hD⟩, hS.F ht⟩) hS.2.2 dX1_takeMethod_72
      · skip
        have f39 : ((V 61 (20 * gi + (Int32.toNatClampNeg z6)))).toInt ≠ (-1) := b_neq rfl (by decide) c27
        refine lv_aload_n hx hb dX1_takeMethod_54 rfl (lv_at hl 1 rfl) ?_
        refine lv_iconst (v := 3) hx hb dX1_takeMethod_55 (by decide) ?_
        have r40 : Int32.toInt 3 = 3 := by decide
        refine gA_int (gA_runV (As := [.int 3]) (rest := []) (ci := 1) (q0 := 1) hx hb hml hown hg hP hD hK hS hA hnw hgk (x_wrong l D ks H.size ad kk V L Z 3 hMV (by decide)) w867 w869 w6 w162 w870 rfl xgReader hdV_yX1_wrong ⟨Nat.le_of_ble_eq_true rfl, Nat.le_of_ble_eq_true rfl⟩ rfl hl.1 rfl (Nat.le_of_ble_eq_true rfl) dX1_takeMethod_56 ⟨Nat.le_of_ble_eq_true rfl, Nat.le_of_ble_eq_true rfl⟩) hP hD hK hS hA (fun z41 u42 H locs w43 hP hD hK hS => ?_)
        obtain ⟨V45, L46⟩ := u42
        obtain ⟨hMV45, ajV45, axL46, rgz41, t44⟩ := w43
        have axL46 : L = L46 := Eq.symm axL46
        subst axL46
        have hP : va_P D vwCl (xw ad kk V45 L Z) H := hP
        have hD : va_D A (xw ad kk V45 L Z) := hD
        have hMV45 : rgd bX V45 := hMV45
        have ajV45 : agr [(1, 3)] [] V V45 := ajV45
        have agV45 : agr [(1, 3), (1, 6), (6, 8), (6, 9), (6, 10)] [43, 44] V V45 := agV.tr ajV45 (by decide) (by decide)
        have fwV45 : frX (xR b) V V45 := frX.tr fwV (frX.ag ajV45 (by decide) (by decide))
        have rgz41 : 0 ≤ z41.toInt ∧ z41.toInt ≤ 0 := rgz41
        have t44 : 1 ≤ (V45 1 3).toInt := t44
        have pq47 : (V45 1 6).toInt = ((V 1 6)).toInt := congrArg Int32.toInt (ajV45 1 6 rfl)
        have r48 : (-1) ≤ ((V 1 6)).toInt ∧ ((V 1 6)).toInt ≤ 23 := hMV 1 6
        have px49 : px V V45 b := px.tr (px.rf : px V V b) (px.ag (show agr [(1, 3)] [] V V45 from (agr.tr agr.rf ajV45 (by decide) (by decide))) (fun _ => rfl) (fun _ => rfl) (fun _ => rfl))
        exact W.zret (v := z41) hx hb hr (nb_ok (by omega)) (fun t ht hW => ⟨⟨z41, (V45, L), rfl, ⟨hMV45, agV45, alL, fwV45, (show 0 ≤ z41.toInt ∧ z41.toInt ≤ 1 from by (first | exact om_641b3f05f166 rgz41.1 rgz41.2 | omega)), (Imp.mk (fun hp => have hp : z41.toInt = 1 := hp; (show 0 ≤ (V45 1 6).toInt ∧ (V45 1 6).toInt ≤ 19 from by omega))), px49, (Imp.mk (fun hp => have hp : z41.toInt = 0 := hp; (show 1 ≤ (V45 1 3).toInt from by (first | exact om_f8d8213eda45 t44 | omega))))⟩, by rw [ht]; exact hP, va_K.moved hW.alike hK, hD⟩, hS.F ht⟩) hS.2.2 dX1_takeMethod_59
  · skip
    have f50 : ((V 6 9)).toInt ≠ 3 := b_neq rfl (by decide) c2
    refine lv_aload_n hx hb dX1_takeMethod_11 rfl (lv_at hl 0 rfl) ?_
    refine lv_iconst (v := 1) hx hb dX1_takeMethod_12 (by decide) ?_
    have r51 : Int32.toInt 1 = 1 := by decide
    refine gA_int (gA_runV (As := [.int 1]) (rest := []) (ci := 1) (q0 := 1) hx hb hml hown hg hP hD hK hS hA hnw hgk (x_wrong l D ks H.size ad kk V L Z 1 hMV (by decide)) w867 w869 w6 w162 w870 rfl xgReader hdV_yX1_wrong ⟨Nat.le_of_ble_eq_true rfl, Nat.le_of_ble_eq_true rfl⟩ rfl hl.1 rfl (Nat.le_of_ble_eq_true rfl) dX1_takeMethod_13 ⟨Nat.le_of_ble_eq_true rfl, Nat.le_of_ble_eq_true rfl⟩) hP hD hK hS hA (fun z52 u53 H locs w54 hP hD hK hS => ?_)
    obtain ⟨V56, L57⟩ := u53
    obtain ⟨hMV56, ajV56, axL57, rgz52, t55⟩ := w54
    have axL57 : L = L57 := Eq.symm axL57
    subst axL57
    have hP : va_P D vwCl (xw ad kk V56 L Z) H := hP
    have hD : va_D A (xw ad kk V56 L Z) := hD
    have hMV56 : rgd bX V56 := hMV56
    have ajV56 : agr [(1, 3)] [] V V56 := ajV56
    have agV56 : agr [(1, 3), (1, 6), (6, 8), (6, 9), (6, 10)] [43, 44] V V56 := agV.tr ajV56 (by decide) (by decide)
    have fwV56 : frX (xR b) V V56 := frX.tr fwV (frX.ag ajV56 (by decide) (by decide))
    have rgz52 : 0 ≤ z52.toInt ∧ z52.toInt ≤ 0 := rgz52
    have t55 : 1 ≤ (V56 1 3).toInt := t55
    have pq58 : (V56 1 6).toInt = ((V 1 6)).toInt := congrArg Int32.toInt (ajV56 1 6 rfl)
    have r59 : (-1) ≤ ((V 1 6)).toInt ∧ ((V 1 6)).toInt ≤ 23 := hMV 1 6
    have px60 : px V V56 b := px.tr (px.rf : px V V b) (px.ag (show agr [(1, 3)] [] V V56 from (agr.tr agr.rf ajV56 (by decide) (by decide))) (fun _ => rfl) (fun _ => rfl) (fun _ => rfl))
    exact W.zret (v := z52) hx hb hr (nb_ok (by omega)) (fun t ht hW => ⟨⟨z52, (V56, L), rfl, ⟨hMV56, agV56, alL, fwV56, (show 0 ≤ z52.toInt ∧ z52.toInt ≤ 1 from by (first | exact om_641b3f05f166 rgz52.1 rgz52.2 | omega)), (Imp.mk (fun hp => have hp : z52.toInt = 1 := hp; (show 0 ≤ (V56 1 6).toInt ∧ (V56 1 6).toInt ≤ 19 from by omega))), px60, (Imp.mk (fun hp => have hp : z52.toInt = 0 := hp; (show 1 ≤ (V56 1 3).toInt from by (first | exact om_f8d8213eda45 t55 | omega))))⟩, by rw [ht]; exact hP, va_K.moved hW.alike hK, hD⟩, hS.F ht⟩) hS.2.2 dX1_takeMethod_16
abbrev r_x_takeCalled : Room := { frames := 2, cells := 0, slots := 0, locals := 44 }
abbrev q_x_takeCalled (D : va_G) (ks : KS) (ad : Nat → Nat) (kk : Nat → ClassId) (V : Vf) (L : Lf) (Z : XZ) (b : Nat) (A : Nat → Prop) : Array Value → State → Outcome → State → Prop := va_Qi (fun (r : Int32) (u : Vf × Lf) => rgd bX u.1 ∧ agr [(1, 3), (1, 6), (6, 8), (6, 9), (6, 10)] [43, 44] V u.1 ∧ agL [6, 44] L u.2 ∧ frX (xR b) V u.1 ∧ (0 ≤ r.toInt ∧ r.toInt ≤ 1) ∧ (px V u.1 b) ∧ (Imp (r.toInt = 0) (1 ≤ (u.1 1 3).toInt))) (fun u t => gq D A (xw ad kk u.1 u.2 Z) (xty kk Z) t) A
set_option maxHeartbeats 4000000 in
set_option maxRecDepth 100000 in
theorem x_takeCalled (l : Launch) (D : va_G) (ks : KS) (sz : Nat) (ad : Nat → Nat) (kk : Nat → ClassId) (V : Vf) (L : Lf) (Z : XZ) (b : Nat) (hMV : rgd bX V) (hb2 : b < 2) (rbk : (V 1 1).toInt = (b : Int))  : Met l yX1_takeCalled (Cond.code yX1_takeCalled cX1_takeCalled 1 (some .boolean) :: GW) r_x_takeCalled (va_Pc [.ref (ad 1)] (gp D ks (xw ad kk V L Z) (xty kk Z) sz)) (q_x_takeCalled D ks ad kk V L Z  b (va_A (xw ad kk V L Z) sz)) 0 0 (va_A (xw ad kk V L Z) sz) := by
  refine g_met (q_x_takeCalled D ks ad kk V L Z  b) (by decide) (Nat.le_of_ble_eq_true rfl) ?_
  intro p e s m below meth c A ls H locs hx hb hr hml hown hg hlocks hin hnw hgk hP hK hD hS hA hl
  have hown : s.vm.findClass RX1 = some m.cls := hown
  have hl : lv_has ls 1 [(0, .ref (ad 1))] := hl
  have hP : va_P D vwCl (xw ad kk V L Z) H := hP
  have hD : va_D A (xw ad kk V L Z) := hD
  have hK : va_K D vwCl (xty kk Z) s := hK
  have agV : agr [(1, 3), (1, 6), (6, 8), (6, 9), (6, 10)] [43, 44] V V := agr.rf
  have alL : agL [6, 44] L L := agL.rf
  have fwV : frX (xR b) V V := frX.rf
  have r1 : (-1) ≤ ((V 1 1)).toInt ∧ ((V 1 1)).toInt ≤ 1 := hMV 1 1
  refine lv_aload_n hx hb dX1_takeCalled_0 rfl (lv_at hl 0 rfl) ?_
  refine va_get (D := D) (ci := 1) (v := .ref (ad 6)) (fs := (xfReader ad V L Z)) (C := RX1) (T := TX1) (N := 9) hx hb hg inX1 hown hK hP 1 xgReader rfl 0 (by decide) (hg _ w304) (fun _ h9 => h9) rfl dX1_takeCalled_1 ?_
  refine gA_void (gA_runV (As := []) (rest := []) (ci := 9) (q0 := 6) hx hb hml hown hg hP hD hK hS hA hnw hgk (x_next l D ks H.size ad kk V L Z  hMV ) w871 w852 w853 w157 w854 rfl xgTape hdV_yX9_next ⟨Nat.le_of_ble_eq_true rfl, Nat.le_of_ble_eq_true rfl⟩ rfl hl.1 rfl (Nat.le_of_ble_eq_true rfl) dX1_takeCalled_4 ⟨Nat.le_of_ble_eq_true rfl, Nat.le_of_ble_eq_true rfl⟩) hP hD hK hS hA (fun u3 H locs w4 hP hD hK hS => ?_)
  obtain ⟨V5, L6⟩ := u3
  obtain ⟨hMV5, ajV5, axL6⟩ := w4
  have alL6 : agL [6, 44] L L6 := agL.tr alL axL6 (by decide)
  have hP : va_P D vwCl (xw ad kk V5 L6 Z) H := hP
  have hD : va_D A (xw ad kk V5 L6 Z) := hD
  have hMV5 : rgd bX V5 := hMV5
  have ajV5 : agr [(6, 8), (6, 9), (6, 10)] [] V V5 := ajV5
  have agV5 : agr [(1, 3), (1, 6), (6, 8), (6, 9), (6, 10)] [43, 44] V V5 := agV.tr ajV5 (by decide) (by decide)
  have fwV5 : frX (xR b) V V5 := frX.tr fwV (frX.ag ajV5 (by decide) (by decide))
  refine lv_aload_n hx hb dX1_takeCalled_7 rfl (lv_at hl 0 rfl) ?_
  refine va_get (D := D) (ci := 1) (v := .ref (ad 6)) (fs := (xfReader ad V5 L6 Z)) (C := RX1) (T := TX1) (N := 9) hx hb hg inX1 hown hK hP 1 xgReader rfl 0 (by decide) (hg _ w304) (fun _ h9 => h9) rfl dX1_takeCalled_8 ?_
  refine va_getN (D := D) (ci := 9) (v := .int (V5 6 9)) (fs := (xfTape ad V5 L6 Z)) (C := RX9) (T := TX9) (N := 12) hx hb hg inX9 hown hK hP 6 xgTape rfl 9 (by decide) (hnw.use 262 n262 rfl) (fun _ h9 => h9) rfl dX1_takeCalled_11 ?_
  refine lv_iconst (v := 3) hx hb dX1_takeCalled_14 (by decide) ?_
  refine lv_icmp_eq (tgt := 24) hx hb dX1_takeCalled_15 (by decide) (fun c7 => ?_) (fun c7 => ?_)
  · skip
    have f8 : ((V5 6 9)).toInt = 3 := b_eq rfl (by decide) c7
    refine lv_aload_n hx hb dX1_takeCalled_24 rfl (lv_at hl 0 rfl) ?_
    refine lv_aload_n hx hb dX1_takeCalled_25 rfl (lv_at hl 0 rfl) ?_
    refine va_get (D := D) (ci := 1) (v := rfN ad 38 (V5 1 1)) (fs := (xfReader ad V5 L6 Z)) (C := RX1) (T := TX1) (N := 9) hx hb hg inX1 hown hK hP 1 xgReader rfl 1 (by decide) (hg _ w305) (fun _ h9 => h9) rfl dX1_takeCalled_26 ?_
    have pq9 : (V5 1 1).toInt = ((V 1 1)).toInt := congrArg Int32.toInt (ajV5 1 1 rfl)
    refine g_topv (v := .ref (ad (38 + b))) (rfN_r (by omega)) ?_
    refine va_getN (D := D) (ci := 0) (v := .ref (ad (40 + (5 * b + 4)))) (fs := (xfBook ad V5 b)) (C := RX0) (T := TX0) (N := 13) hx hb hg inX0 hown hK hP (38 + b) (xgBook hb2) rfl 4 (by decide) (hnw.use 607 n607 rfl) (fun _ h9 => h9) rfl dX1_takeCalled_29 ?_
    refine lv_aload_n hx hb dX1_takeCalled_32 rfl (lv_at hl 0 rfl) ?_
    refine va_get (D := D) (ci := 1) (v := rfN ad 38 (V5 1 1)) (fs := (xfReader ad V5 L6 Z)) (C := RX1) (T := TX1) (N := 9) hx hb hg inX1 hown hK hP 1 xgReader rfl 1 (by decide) (hg _ w305) (fun _ h9 => h9) rfl dX1_takeCalled_33 ?_
    refine g_topv (v := .ref (ad (38 + b))) (rfN_r (by omega)) ?_
    refine va_getN (D := D) (ci := 0) (v := .ref (ad (40 + (5 * b + 4)))) (fs := (xfBook ad V5 b)) (C := RX0) (T := TX0) (N := 13) hx hb hg inX0 hown hK hP (38 + b) (xgBook hb2) rfl 4 (by decide) (hnw.use 607 n607 rfl) (fun _ h9 => h9) rfl dX1_takeCalled_36 ?_
    refine lv_aload_n hx hb dX1_takeCalled_39 rfl (lv_at hl 0 rfl) ?_
    refine va_get (D := D) (ci := 1) (v := .ref (ad 6)) (fs := (xfReader ad V5 L6 Z)) (C := RX1) (T := TX1) (N := 9) hx hb hg inX1 hown hK hP 1 xgReader rfl 0 (by decide) (hg _ w304) (fun _ h9 => h9) rfl dX1_takeCalled_40 ?_
    refine va_getN (D := D) (ci := 9) (v := .long (L6 6 11)) (fs := (xfTape ad V5 L6 Z)) (C := RX9) (T := TX9) (N := 12) hx hb hg inX9 hown hK hP 6 xgTape rfl 11 (by decide) (hnw.use 269 n269 rfl) (fun _ h9 => h9) rfl dX1_takeCalled_43 ?_
    refine lv_topl (fun w10 ew10 => ?_)
    have il11 : (5 * b + 4) < 10 := by (first | exact om_3aaf7229373d hb2 | omega)
    refine gA_int (gA_runV (As := [.long w10]) (rest := [.ref (ad (40 + (5 * b + 4))), .ref (ad 1)]) (ci := 6) (q0 := (40 + (5 * b + 4))) hx hb hml hown hg hP hD hK hS hA hnw hgk (x_find l D ks H.size ad kk V5 L6 Z w10 ((5 * b + 4)) hMV5 (show (5 * b + 4) < 10 from by (first | exact om_3aaf7229373d hb2 | omega))) w892 w881 w882 w168 w883 rfl (xgNames il11) hdV_yX6_find ⟨Nat.le_of_ble_eq_true rfl, Nat.le_of_ble_eq_true rfl⟩ rfl hl.1 rfl (Nat.le_of_ble_eq_true rfl) dX1_takeCalled_46 ⟨Nat.le_of_ble_eq_true rfl, Nat.le_of_ble_eq_true rfl⟩) hP hD hK hS hA (fun z12 u13 H locs w14 hP hD hK hS => ?_)
    obtain ⟨rgz12, t15⟩ := w14
    have rgz12 : (-1) ≤ z12.toInt ∧ z12.toInt ≤ 23 := rgz12
    have t15 : z12.toInt < (V5 43 (5 * b + 4)).toInt := t15
    have r16 : xcap (5 * b + 4) = 20 := xcap_4
    have pq17 : (V5 43 (5 * b + 4)).toInt = ((V 43 (5 * b + 4))).toInt := congrArg Int32.toInt (ajV5 43 (5 * b + 4) rfl)
    have r18 : 0 ≤ ((V 43 (5 * b + 4))).toInt ∧ ((V 43 (5 * b + 4))).toInt ≤ ((xcap (5 * b + 4) : Nat) : Int) := hMV 43 (5 * b + 4)
    refine gA_int (gA_runV (As := [.ref (ad (40 + (5 * b + 4))), .int z12]) (rest := []) (ci := 1) (q0 := 1) hx hb hml hown hg hP hD hK hS hA hnw hgk (x_takeNumbered l D ks H.size ad kk V5 L6 Z z12 ((5 * b + 4)) hMV5 (by (first | exact om_f48f1de42cd6 rgz12.1 t15 r16 pq17 r18.2 | omega)) (show (5 * b + 4) < 10 from by (first | exact om_3aaf7229373d hb2 | omega)) (show z12.toInt < (V5 43 (5 * b + 4)).toInt from by (first | exact om_0e9116797efb t15 | omega))) w927 w929 w16 w162 w930 rfl xgReader hdV_yX1_takeNumbered ⟨Nat.le_of_ble_eq_true rfl, Nat.le_of_ble_eq_true rfl⟩ rfl hl.1 rfl (Nat.le_of_ble_eq_true rfl) dX1_takeCalled_49 ⟨Nat.le_of_ble_eq_true rfl, Nat.le_of_ble_eq_true rfl⟩) hP hD hK hS hA (fun z19 u20 H locs w21 hP hD hK hS => ?_)
    obtain ⟨V25, L26⟩ := u20
    obtain ⟨hMV25, ajV25, axL26, fyV25, rgz19, t22, t23, t24⟩ := w21
    have alL26 : agL [6, 44] L L26 := agL.tr alL6 axL26 (by decide)
    have hP : va_P D vwCl (xw ad kk V25 L26 Z) H := hP
    have hD : va_D A (xw ad kk V25 L26 Z) := hD
    have hMV25 : rgd bX V25 := hMV25
    have ajV25 : agr [(1, 3), (1, 6), (6, 8), (6, 9), (6, 10)] [43, 44] V5 V25 := ajV25
    have agV25 : agr [(1, 3), (1, 6), (6, 8), (6, 9), (6, 10)] [43, 44] V V25 := agV5.tr ajV25 (by decide) (by decide)
    have fwV25 : frX (xR b) V V25 := frX.tr fwV5 (frX_NB fyV25 (by omega) (by omega))
    have rgz19 : 0 ≤ z19.toInt ∧ z19.toInt ≤ 1 := rgz19
    have t22 : Imp (z19.toInt = 1) (0 ≤ (V25 1 6).toInt ∧ (V25 1 6).toInt < ((xcap (5 * b + 4) : Nat) : Int)) := t22
    have t23 : (∀ n : Nat, ¬ n = (5 * b + 4) → V25 43 n = V5 43 n) := t23
    have t24 : Imp (z19.toInt = 0) (1 ≤ (V25 1 3).toInt) := t24
    have r27 : (-1) ≤ ((V25 1 6)).toInt ∧ ((V25 1 6)).toInt ≤ 23 := hMV25 1 6
    have px28 : px V V5 b := px.tr (px.rf : px V V b) (px.ag (show agr [(6, 8), (6, 9), (6, 10)] [] V V5 from (agr.tr agr.rf ajV5 (by decide) (by decide))) (fun _ => rfl) (fun _ => rfl) (fun _ => rfl))
    have px29 : px V V25 b := px.tr px28 ⟨p0x.ag ajV25 (fun _ => rfl) (fun _ => rfl), t23 _ (by omega)⟩
    exact W.zret (v := z19) hx hb hr (nb_ok (by omega)) (fun t ht hW => ⟨⟨z19, (V25, L26), rfl, ⟨hMV25, agV25, alL26, fwV25, (show 0 ≤ z19.toInt ∧ z19.toInt ≤ 1 from by first | exact om_eb7af9d60398 rgz19.1 rgz19.2 | first | omega | ((try (have i_t24 := Imp.go t24 (by omega))); (try (have i_t22 := Imp.go t22 (by omega))); (try (have i_t22 := Imp.go t22 (by omega))); (try (have i_t24 := Imp.go t24 (by omega))); omega)), px29, (Imp.mk (fun hp => have hp : z19.toInt = 0 := hp; (show 1 ≤ (V25 1 3).toInt from by first | exact om_f8d8213eda45 ((Imp.go t24 (hp))) | first | omega | ((try (have i_t24 := Imp.go t24 (by omega))); (try (have i_t22 := Imp.go t22 (by omega))); (try (have i_t22 := Imp.go t22 (by omega))); (try (have i_t24 := Imp.go t24 (by omega))); omega))))⟩, by rw [ht]; exact hP, va_K.moved hW.alike hK, hD⟩, hS.F ht⟩) hS.2.2 dX1_takeCalled_52
  · skip
    have f30 : ((V5 6 9)).toInt ≠ 3 := b_neq rfl (by decide) c7
    refine lv_aload_n hx hb dX1_takeCalled_18 rfl (lv_at hl 0 rfl) ?_
    refine lv_iconst (v := 1) hx hb dX1_takeCalled_19 (by decide) ?_
    have r31 : Int32.toInt 1 = 1 := by decide
    refine gA_int (gA_runV (As := [.int 1]) (rest := []) (ci := 1) (q0 := 1) hx hb hml hown hg hP hD hK hS hA hnw hgk (x_wrong l D ks H.size ad kk V5 L6 Z 1 hMV5 (by decide)) w867 w869 w6 w162 w870 rfl xgReader hdV_yX1_wrong ⟨Nat.le_of_ble_eq_true rfl, Nat.le_of_ble_eq_true rfl⟩ rfl hl.1 rfl (Nat.le_of_ble_eq_true rfl) dX1_takeCalled_20 ⟨Nat.le_of_ble_eq_true rfl, Nat.le_of_ble_eq_true rfl⟩) hP hD hK hS hA (fun z32 u33 H locs w34 hP hD hK hS => ?_)
    obtain ⟨V36, L37⟩ := u33
    obtain ⟨hMV36, ajV36, axL37, rgz32, t35⟩ := w34
    have axL37 : L6 = L37 := Eq.symm axL37
    subst axL37
    have hP : va_P D vwCl (xw ad kk V36 L6 Z) H := hP
    have hD : va_D A (xw ad kk V36 L6 Z) := hD
    have hMV36 : rgd bX V36 := hMV36
    have ajV36 : agr [(1, 3)] [] V5 V36 := ajV36
    have agV36 : agr [(1, 3), (1, 6), (6, 8), (6, 9), (6, 10)] [43, 44] V V36 := agV5.tr ajV36 (by decide) (by decide)
    have fwV36 : frX (xR b) V V36 := frX.tr fwV5 (frX.ag ajV36 (by decide) (by decide))
    have rgz32 : 0 ≤ z32.toInt ∧ z32.toInt ≤ 0 := rgz32
    have t35 : 1 ≤ (V36 1 3).toInt := t35
    have px38 : px V V36 b := px.tr (px.rf : px V V b) (px.ag (show agr [(1, 3), (6, 8), (6, 9), (6, 10)] [] V V36 from (agr.tr (agr.tr agr.rf ajV5 (by decide) (by decide)) ajV36 (by decide) (by decide))) (fun _ => rfl) (fun _ => rfl) (fun _ => rfl))
    exact W.zret (v := z32) hx hb hr (nb_ok (by omega)) (fun t ht hW => ⟨⟨z32, (V36, L6), rfl, ⟨hMV36, agV36, alL6, fwV36, (show 0 ≤ z32.toInt ∧ z32.toInt ≤ 1 from by (first | exact om_641b3f05f166 rgz32.1 rgz32.2 | omega)), px38, (Imp.mk (fun hp => have hp : z32.toInt = 0 := hp; (show 1 ≤ (V36 1 3).toInt from by (first | exact om_f8d8213eda45 t35 | omega))))⟩, by rw [ht]; exact hP, va_K.moved hW.alike hK, hD⟩, hS.F ht⟩) hS.2.2 dX1_takeCalled_23
abbrev r_x_takeTypes : Room := { frames := 2, cells := 0, slots := 0, locals := 43 }
abbrev q_x_takeTypes (D : va_G) (ks : KS) (ad : Nat → Nat) (kk : Nat → ClassId) (V : Vf) (L : Lf) (Z : XZ) (b : Nat) (A : Nat → Prop) : Array Value → State → Outcome → State → Prop := va_Qi (fun (r : Int32) (u : Vf × Lf) => rgd bX u.1 ∧ agr [(1, 3), (1, 6), (1, 7), (6, 8), (6, 9), (6, 10)] [] V u.1 ∧ agL [6] L u.2 ∧ (0 ≤ r.toInt ∧ r.toInt ≤ 1) ∧ (Imp (r.toInt = 0) (1 ≤ (u.1 1 3).toInt))) (fun u t => gq D A (xw ad kk u.1 u.2 Z) (xty kk Z) t) A
set_option maxHeartbeats 4000000 in
set_option maxRecDepth 100000 in
theorem x_takeTypes (l : Launch) (D : va_G) (ks : KS) (sz : Nat) (ad : Nat → Nat) (kk : Nat → ClassId) (V : Vf) (L : Lf) (Z : XZ) (b : Nat) (hMV : rgd bX V) (hb2 : b < 2) (rbk : (V 1 1).toInt = (b : Int))  : Met l yX1_takeTypes (Cond.code yX1_takeTypes cX1_takeTypes 3 (some .boolean) :: GW) r_x_takeTypes (va_Pc [.ref (ad 1)] (gp D ks (xw ad kk V L Z) (xty kk Z) sz)) (q_x_takeTypes D ks ad kk V L Z  b (va_A (xw ad kk V L Z) sz)) 0 0 (va_A (xw ad kk V L Z) sz) := by
  refine g_met (q_x_takeTypes D ks ad kk V L Z  b) (by decide) (Nat.le_of_ble_eq_true rfl) ?_
  intro p e s m below meth c A ls H locs hx hb hr hml hown hg hlocks hin hnw hgk hP hK hD hS hA hl
  have hown : s.vm.findClass RX1 = some m.cls := hown
  have hl : lv_has ls 3 [(0, .ref (ad 1))] := hl
  have hP : va_P D vwCl (xw ad kk V L Z) H := hP
  have hD : va_D A (xw ad kk V L Z) := hD
  have hK : va_K D vwCl (xty kk Z) s := hK
  have agV : agr [(1, 3), (1, 6), (1, 7), (6, 8), (6, 9), (6, 10)] [] V V := agr.rf
  have alL : agL [6] L L := agL.rf
  have r1 : (-1) ≤ ((V 1 1)).toInt ∧ ((V 1 1)).toInt ≤ 1 := hMV 1 1
  refine lv_iconst (v := 0) hx hb dX1_takeTypes_0 (by decide) ?_
  refine lv_istore_n (lv' := [(1, .int 0), (0, .ref (ad 1))]) hx hb dX1_takeTypes_1 rfl hl (by decide) rfl (fun ls hl => ?_)
  refine lv_aload_n hx hb dX1_takeTypes_2 rfl (lv_at hl 1 rfl) ?_
  refine lv_iconst (v := 0) hx hb dX1_takeTypes_3 (by decide) ?_
  refine va_put (D := D) (ci := 1) (v := .int 0) (ty := tyX1 7) (fs := (xfReader ad V L Z)) (C := RX1) (T := TX1) (N := 9) hx hb hg inX1 tyX1 tyX1_ok nmX1 hown hK hP hD hS 1 xgReader rfl 7 (by decide) (hg _ w311) (fun _ h9 => h9) rfl (tyX1_ok 7 (by decide)) rfl rfl (Nat.le_of_ble_eq_true rfl) dX1_takeTypes_4 (fun H locs hP hD hS => ?_)
  obtain ⟨V2, hV2⟩ : ∃ z, z = up2 V 1 7 0 := ⟨_, rfl⟩
  have ew3 : (xw ad kk V L Z).set 1 ((ad 1), .inr (1, (xfReader ad V L Z).set 7 (.int 0))) = xw ad kk V2 L Z := by rw [hV2]; exact xw_ss (by decide) rfl (xb_si (by decide))
  have hP : va_P D vwCl (xw ad kk V2 L Z) H := by rw [← ew3]; exact hP
  have hD : va_D A (xw ad kk V2 L Z) := by rw [← ew3]; exact hD
  have hMV2 : rgd bX V2 := hMV.put hV2 (i_full _)
  have agV2 : agr [(1, 3), (1, 6), (1, 7), (6, 8), (6, 9), (6, 10)] [] V V2 := agV.up hV2 rfl
  refine lv_iconst (v := 0) hx hb dX1_takeTypes_7 (by decide) ?_
  refine lv_istore_n (lv' := [(2, .int 0), (1, .int 0), (0, .ref (ad 1))]) hx hb dX1_takeTypes_8 rfl hl (by decide) rfl (fun ls hl => ?_)
  have lp8 : ∀ (fulp8 : Nat) (y4 : Int32) (y5 : Int32) (V6 : Vf) (L7 : Lf) (H : Heap) (locs : List Loc) (ls : Array Slot), 0 ≤ y4.toInt ∧ y4.toInt ≤ 6 → 7 - y4.toInt < (fulp8 : Int) → agL [6] L L7 → agr [(1, 3), (1, 6), (1, 7), (6, 8), (6, 9), (6, 10)] [] V2 V6 → rgd bX V6 → va_P D vwCl (xw ad kk V6 L7 Z) H → va_D A (xw ad kk V6 L7 Z) → va_S A s.heap H locs → lv_has ls 3 [(2, .int y4), (1, .int y5), (0, .ref (ad 1))] → W p l e r_x_takeTypes s m ([.ref (ad 1)] : List Value).toArray below meth c H locs 0 0 (MQ below (q_x_takeTypes D ks ad kk V L Z  b A) ([.ref (ad 1)] : List Value).toArray s 0 0 A) (F0 m 9 ls []) := by
    intro fulp8
    induction fulp8 with
    | zero =>
      intro y4 y5 V6 L7 H locs ls klp8_0 hn alL7 ajV6 hMV6 hP hD hS hl
      exfalso; (first | exact om_c9eec6a79f34 klp8_0.2 hn | omega)
    | succ fulp8 ihlp8 =>
      intro y4 y5 V6 L7 H locs ls klp8_0 hn alL7 ajV6 hMV6 hP hD hS hl
      have agV6 : agr [(1, 3), (1, 6), (1, 7), (6, 8), (6, 9), (6, 10)] [] V V6 := agV2.tr ajV6 (by decide) (by decide)
      refine lv_iload_n hx hb dX1_takeTypes_9 rfl (lv_at hl 0 rfl) ?_
      refine lv_bipush (v := 6) hx hb dX1_takeTypes_10 (by decide) ?_
      refine lv_icmp_gt (tgt := 117) hx hb dX1_takeTypes_12 (by decide) (fun c9 => ?_) (fun c9 => ?_)
      · skip
        have f10 : 6 < y4.toInt := b_lt (by decide) rfl c9
        exfalso; (first | exact om_50d654328658 klp8_0.2 f10 | omega)
      · skip
        have f11 : y4.toInt ≤ 6 := b_nlt (by decide) rfl c9
        refine lv_aload_n hx hb dX1_takeTypes_15 rfl (lv_at hl 2 rfl) ?_
        have pq12 : (V6 1 1).toInt = ((V 1 1)).toInt := congrArg Int32.toInt ((ajV6 1 1 rfl).trans (up2_k hV2 (by decide)))
        refine gA_int (gA_runV (As := []) (rest := []) (ci := 1) (q0 := 1) hx hb hml hown hg hP hD hK hS hA hnw hgk (x_isToldType l D ks H.size ad kk V6 L7 Z (b) hMV6 (show b < 2 from by (first | exact om_f940a4667dd6 hb2 | omega)) (show (V6 1 1).toInt = (b : Int) from by (first | exact om_adf531c77a0d rbk pq12 | omega))) w888 w890 w9 w162 w891 rfl xgReader hdV_yX1_isToldType ⟨Nat.le_of_ble_eq_true rfl, Nat.le_of_ble_eq_true rfl⟩ rfl hl.1 rfl (Nat.le_of_ble_eq_true rfl) dX1_takeTypes_16 ⟨Nat.le_of_ble_eq_true rfl, Nat.le_of_ble_eq_true rfl⟩) hP hD hK hS hA (fun z13 u14 H locs w15 hP hD hK hS => ?_)
        obtain ⟨V18, L19⟩ := u14
        obtain ⟨hMV18, ajV18, axL19, rgz13, t16, t17⟩ := w15
        have axL19 : L7 = L19 := Eq.symm axL19
        subst axL19
        have hP : va_P D vwCl (xw ad kk V18 L7 Z) H := hP
        have hD : va_D A (xw ad kk V18 L7 Z) := hD
        have hMV18 : rgd bX V18 := hMV18
        have ajV18 : agr [(1, 3), (1, 6)] [] V6 V18 := ajV18
        have agV18 : agr [(1, 3), (1, 6), (1, 7), (6, 8), (6, 9), (6, 10)] [] V V18 := agV6.tr ajV18 (by decide) (by decide)
        have rgz13 : 0 ≤ z13.toInt ∧ z13.toInt ≤ 1 := rgz13
        have t16 : Imp (z13.toInt = 1) (0 ≤ (V18 1 6).toInt ∧ (V18 1 6).toInt ≤ 23) := t16
        have t17 : Imp (z13.toInt = 0) (1 ≤ (V18 1 3).toInt) := t17
        have r20 : (-1) ≤ ((V18 1 6)).toInt ∧ ((V18 1 6)).toInt ≤ 23 := hMV18 1 6
        refine lv_if_ne (tgt := 24) hx hb dX1_takeTypes_19 (by decide) (fun c21 => ?_) (fun c21 => ?_)
        · skip
          have f22 : z13.toInt ≠ 0 := b_neq rfl (by decide) c21
          have rh23 := Imp.go t16 (by (first | exact om_2ebe32d50835 rgz13.1 rgz13.2 f22 | omega))
          refine lv_iload_n hx hb dX1_takeTypes_24 rfl (lv_at hl 1 rfl) ?_
          refine lv_aload_n hx hb dX1_takeTypes_25 rfl (lv_at hl 2 rfl) ?_
          refine va_get (D := D) (ci := 1) (v := .int (V18 1 6)) (fs := (xfReader ad V18 L7 Z)) (C := RX1) (T := TX1) (N := 9) hx hb hg inX1 hown hK hP 1 xgReader rfl 6 (by decide) (hg _ w310) (fun _ h9 => h9) rfl dX1_takeTypes_26 ?_
          refine lv_ishr hx hb dX1_takeTypes_29 ?_
          refine lv_topi (fun z24 ez24 => ?_)
          refine lv_iconst (v := 1) hx hb dX1_takeTypes_30 (by decide) ?_
          refine lv_iand hx hb dX1_takeTypes_31 ?_
          refine lv_topi (fun z25 ez25 => ?_)
          have hz25 : 0 ≤ z25.toInt ∧ z25.toInt ≤ 1 := and_m ez25 (by decide)
          refine lv_if_eq (tgt := 41) hx hb dX1_takeTypes_32 (by decide) (fun c26 => ?_) (fun c26 => ?_)
          · skip
            have f27 : z25.toInt = 0 := b_eq rfl (by decide) c26
            refine lv_iload_n hx hb dX1_takeTypes_41 rfl (lv_at hl 0 rfl) ?_
            refine lv_bipush (v := 6) hx hb dX1_takeTypes_42 (by decide) ?_
            refine lv_icmp_ne (tgt := 53) hx hb dX1_takeTypes_44 (by decide) (fun c28 => ?_) (fun c28 => ?_)
            · skip
              have f29 : y4.toInt ≠ 6 := b_neq rfl (by decide) c28
              refine lv_iload_n hx hb dX1_takeTypes_53 rfl (lv_at hl 1 rfl) ?_
              refine lv_iconst (v := 1) hx hb dX1_takeTypes_54 (by decide) ?_
              refine lv_aload_n hx hb dX1_takeTypes_55 rfl (lv_at hl 2 rfl) ?_
              refine va_get (D := D) (ci := 1) (v := .int (V18 1 6)) (fs := (xfReader ad V18 L7 Z)) (C := RX1) (T := TX1) (N := 9) hx hb hg inX1 hown hK hP 1 xgReader rfl 6 (by decide) (hg _ w310) (fun _ h9 => h9) rfl dX1_takeTypes_56 ?_
              refine lv_ishl hx hb dX1_takeTypes_59 ?_
              refine lv_topi (fun z30 ez30 => ?_)
              refine lv_ior hx hb dX1_takeTypes_60 ?_
              refine lv_topi (fun z31 ez31 => ?_)
              refine lv_istore_n (lv' := [(1, .int z31), (2, .int y4), (0, .ref (ad 1))]) hx hb dX1_takeTypes_61 rfl hl (by decide) rfl (fun ls hl => ?_)
              refine lv_aload_n hx hb dX1_takeTypes_62 rfl (lv_at hl 2 rfl) ?_
              refine lv_dup hx hb dX1_takeTypes_63 rfl ?_
              refine va_get (D := D) (ci := 1) (v := .int (V18 1 7)) (fs := (xfReader ad V18 L7 Z)) (C := RX1) (T := TX1) (N := 9) hx hb hg inX1 hown hK hP 1 xgReader rfl 7 (by decide) (hg _ w311) (fun _ h9 => h9) rfl dX1_takeTypes_64 ?_
              refine g_top (v := (V6 1 7)) (ajV18 1 7 rfl) ?_
              refine lv_aload_n hx hb dX1_takeTypes_67 rfl (lv_at hl 2 rfl) ?_
              refine va_get (D := D) (ci := 1) (v := rfN ad 38 (V18 1 1)) (fs := (xfReader ad V18 L7 Z)) (C := RX1) (T := TX1) (N := 9) hx hb hg inX1 hown hK hP 1 xgReader rfl 1 (by decide) (hg _ w305) (fun _ h9 => h9) rfl dX1_takeTypes_68 ?_
              have pq32 : (V18 1 1).toInt = ((V 1 1)).toInt := congrArg Int32.toInt ((ajV18 1 1 rfl).trans ((ajV6 1 1 rfl).trans (up2_k hV2 (by decide))))
              refine g_topv (v := .ref (ad (38 + b))) (rfN_r (by first | omega | ((try (have i_t17 := Imp.go t17 (by omega))); (try (have i_t16 := Imp.go t16 (by omega))); (try (have i_t16 := Imp.go t16 (by omega))); (try (have i_t17 := Imp.go t17 (by omega))); omega))) ?_
              refine va_getN (D := D) (ci := 0) (v := .ref (ad (60 + b))) (fs := (xfBook ad V18 b)) (C := RX0) (T := TX0) (N := 13) hx hb hg inX0 hown hK hP (38 + b) (xgBook hb2) rfl 5 (by decide) (hnw.use 609 n609 rfl) (fun _ h9 => h9) rfl dX1_takeTypes_71 ?_
              refine lv_aload_n hx hb dX1_takeTypes_74 rfl (lv_at hl 2 rfl) ?_
              refine va_get (D := D) (ci := 1) (v := .int (V18 1 6)) (fs := (xfReader ad V18 L7 Z)) (C := RX1) (T := TX1) (N := 9) hx hb hg inX1 hown hK hP 1 xgReader rfl 6 (by decide) (hg _ w310) (fun _ h9 => h9) rfl dX1_takeTypes_75 ?_
              have il33 : b < 2 := by first | exact om_f940a4667dd6 hb2 | first | omega | ((try (have i_t17 := Imp.go t17 (by omega))); (try (have i_t16 := Imp.go t16 (by omega))); (try (have i_t16 := Imp.go t16 (by omega))); (try (have i_t17 := Imp.go t17 (by omega))); omega)
              refine va_iald (D := D) (i := (V18 1 6)) hx hb hK hP (60 + b) (53 + b) (xgtypeUnder il33) (xttypeUnder il33) (i_in (a := ((V18 1 6)).toInt) rfl (by first | exact om_e641b34bcb77 r20.2 rh23.1 | first | omega | ((try (have i_t17 := Imp.go t17 (by omega))); (try (have i_t16 := Imp.go t16 (by omega))); (try (have i_t16 := Imp.go t16 (by omega))); (try (have i_t17 := Imp.go t17 (by omega))); omega))) dX1_takeTypes_78 ?_
              have kc34 := i_clamp (x := (V18 1 6)) rfl (by first | exact om_eafa9039069c ((Imp.go t16 (imp_a (rgz13.1) (rgz13.2) (f22))).1) | first | omega | ((try (have i_t17 := Imp.go t17 (by omega))); (try (have i_t16 := Imp.go t16 (by omega))); (try (have i_t16 := Imp.go t16 (by omega))); (try (have i_t17 := Imp.go t17 (by omega))); omega))
              refine g_top (v := V18 45 (24 * b + (Int32.toNatClampNeg (V18 1 6)))) (if_pos (by first | omega | ((try (have i_t17 := Imp.go t17 (by omega))); (try (have i_t16 := Imp.go t16 (by omega))); (try (have i_t16 := Imp.go t16 (by omega))); (try (have i_t17 := Imp.go t17 (by omega))); omega))) ?_
              refine g_top (v := (V 45 (24 * b + (Int32.toNatClampNeg (V18 1 6))))) ((ajV18 45 (24 * b + (Int32.toNatClampNeg (V18 1 6))) rfl).trans ((ajV6 45 (24 * b + (Int32.toNatClampNeg (V18 1 6))) rfl).trans (up2_o hV2 (by decide)))) ?_
              refine lv_ior hx hb dX1_takeTypes_79 ?_
              refine lv_topi (fun z35 ez35 => ?_)
              refine va_put (D := D) (ci := 1) (v := .int z35) (ty := tyX1 7) (fs := (xfReader ad V18 L7 Z)) (C := RX1) (T := TX1) (N := 9) hx hb hg inX1 tyX1 tyX1_ok nmX1 hown hK hP hD hS 1 xgReader rfl 7 (by decide) (hg _ w311) (fun _ h9 => h9) rfl (tyX1_ok 7 (by decide)) rfl rfl (Nat.le_of_ble_eq_true rfl) dX1_takeTypes_80 (fun H locs hP hD hS => ?_)
              obtain ⟨V36, hV36⟩ : ∃ z, z = up2 V18 1 7 z35 := ⟨_, rfl⟩
              have ew37 : (xw ad kk V18 L7 Z).set 1 ((ad 1), .inr (1, (xfReader ad V18 L7 Z).set 7 (.int z35))) = xw ad kk V36 L7 Z := by rw [hV36]; exact xw_ss (by decide) rfl (xb_si (by decide))
              have hP : va_P D vwCl (xw ad kk V36 L7 Z) H := by rw [← ew37]; exact hP
              have hD : va_D A (xw ad kk V36 L7 Z) := by rw [← ew37]; exact hD
              have hMV36 : rgd bX V36 := hMV18.put hV36 (i_full _)
              have agV36 : agr [(1, 3), (1, 6), (1, 7), (6, 8), (6, 9), (6, 10)] [] V V36 := agV18.up hV36 rfl
              refine lv_aload_n hx hb dX1_takeTypes_83 rfl (lv_at hl 2 rfl) ?_
              refine va_get (D := D) (ci := 1) (v := .ref (ad 6)) (fs := (xfReader ad V36 L7 Z)) (C := RX1) (T := TX1) (N := 9) hx hb hg inX1 hown hK hP 1 xgReader rfl 0 (by decide) (hg _ w304) (fun _ h9 => h9) rfl dX1_takeTypes_84 ?_
              refine gA_void (gA_runV (As := []) (rest := []) (ci := 9) (q0 := 6) hx hb hml hown hg hP hD hK hS hA hnw hgk (x_next l D ks H.size ad kk V36 L7 Z  hMV36 ) w871 w852 w853 w157 w854 rfl xgTape hdV_yX9_next ⟨Nat.le_of_ble_eq_true rfl, Nat.le_of_ble_eq_true rfl⟩ rfl hl.1 rfl (Nat.le_of_ble_eq_true rfl) dX1_takeTypes_87 ⟨Nat.le_of_ble_eq_true rfl, Nat.le_of_ble_eq_true rfl⟩) hP hD hK hS hA (fun u39 H locs w40 hP hD hK hS => ?_)
              obtain ⟨V41, L42⟩ := u39
              obtain ⟨hMV41, ajV41, axL42⟩ := w40
              have alL42 : agL [6] L L42 := agL.tr alL7 axL42 (by decide)
              have hP : va_P D vwCl (xw ad kk V41 L42 Z) H := hP
              have hD : va_D A (xw ad kk V41 L42 Z) := hD
              have hMV41 : rgd bX V41 := hMV41
              have ajV41 : agr [(6, 8), (6, 9), (6, 10)] [] V36 V41 := ajV41
              have agV41 : agr [(1, 3), (1, 6), (1, 7), (6, 8), (6, 9), (6, 10)] [] V V41 := agV36.tr ajV41 (by decide) (by decide)
              refine lv_aload_n hx hb dX1_takeTypes_90 rfl (lv_at hl 2 rfl) ?_
              refine va_get (D := D) (ci := 1) (v := .ref (ad 6)) (fs := (xfReader ad V41 L42 Z)) (C := RX1) (T := TX1) (N := 9) hx hb hg inX1 hown hK hP 1 xgReader rfl 0 (by decide) (hg _ w304) (fun _ h9 => h9) rfl dX1_takeTypes_91 ?_
              refine va_getN (D := D) (ci := 9) (v := .int (V41 6 9)) (fs := (xfTape ad V41 L42 Z)) (C := RX9) (T := TX9) (N := 12) hx hb hg inX9 hown hK hP 6 xgTape rfl 9 (by decide) (hnw.use 262 n262 rfl) (fun _ h9 => h9) rfl dX1_takeTypes_94 ?_
              refine lv_bipush (v := 44) hx hb dX1_takeTypes_97 (by decide) ?_
              refine lv_icmp_eq (tgt := 104) hx hb dX1_takeTypes_99 (by decide) (fun c43 => ?_) (fun c43 => ?_)
              · skip
                have f44 : ((V41 6 9)).toInt = 44 := b_eq rfl (by decide) c43
                refine lv_aload_n hx hb dX1_takeTypes_104 rfl (lv_at hl 2 rfl) ?_
                refine va_get (D := D) (ci := 1) (v := .ref (ad 6)) (fs := (xfReader ad V41 L42 Z)) (C := RX1) (T := TX1) (N := 9) hx hb hg inX1 hown hK hP 1 xgReader rfl 0 (by decide) (hg _ w304) (fun _ h9 => h9) rfl dX1_takeTypes_105 ?_
                refine gA_void (gA_runV (As := []) (rest := []) (ci := 9) (q0 := 6) hx hb hml hown hg hP hD hK hS hA hnw hgk (x_next l D ks H.size ad kk V41 L42 Z  hMV41 ) w871 w852 w853 w157 w854 rfl xgTape hdV_yX9_next ⟨Nat.le_of_ble_eq_true rfl, Nat.le_of_ble_eq_true rfl⟩ rfl hl.1 rfl (Nat.le_of_ble_eq_true rfl) dX1_takeTypes_108 ⟨Nat.le_of_ble_eq_true rfl, Nat.le_of_ble_eq_true rfl⟩) hP hD hK hS hA (fun u46 H locs w47 hP hD hK hS => ?_)
                obtain ⟨V48, L49⟩ := u46
                obtain ⟨hMV48, ajV48, axL49⟩ := w47
                have alL49 : agL [6] L L49 := agL.tr alL42 axL49 (by decide)
                have hP : va_P D vwCl (xw ad kk V48 L49 Z) H := hP
                have hD : va_D A (xw ad kk V48 L49 Z) := hD
                have hMV48 : rgd bX V48 := hMV48
                have ajV48 : agr [(6, 8), (6, 9), (6, 10)] [] V41 V48 := ajV48
                have agV48 : agr [(1, 3), (1, 6), (1, 7), (6, 8), (6, 9), (6, 10)] [] V V48 := agV41.tr ajV48 (by decide) (by decide)
                obtain ⟨z50, ez50⟩ : ∃ y : Int32, y = y4 + 1 := ⟨_, rfl⟩
                have hz50 : z50.toInt = y4.toInt + 1 := i_add ez50 rfl (by decide) (by (first | exact om_875f8b1f1696 klp8_0.1 klp8_0.2 f29 | omega))
                refine lv_iinc (v := z50) (lv' := [(2, .int z50), (1, .int z31), (0, .ref (ad 1))]) hx hb dX1_takeTypes_111 hl (k := 1) rfl (by rw [ez50]; rfl) (by decide) rfl (fun ls hl => ?_)
                refine lv_goto (tgt := 9) hx hb dX1_takeTypes_114 (by decide) ?_
                exact ihlp8 z50 z31 V48 L49 H locs ls (by first | exact om_6575912fbdd9 klp8_0.1 klp8_0.2 f29 hz50 | first | omega | ((try (have i_t17 := Imp.go t17 (by omega))); (try (have i_t16 := Imp.go t16 (by omega))); (try (have i_t16 := Imp.go t16 (by omega))); (try (have i_t17 := Imp.go t17 (by omega))); omega)) (by first | exact om_a70d25fae593 hn hz50 | first | omega | ((try (have i_t17 := Imp.go t17 (by omega))); (try (have i_t16 := Imp.go t16 (by omega))); (try (have i_t16 := Imp.go t16 (by omega))); (try (have i_t17 := Imp.go t17 (by omega))); omega)) alL49 (agr.tr (agr.tr (agr.up (agr.tr (agr.tr agr.rf ajV6 (by decide) (by decide)) ajV18 (by decide) (by decide)) hV36 rfl) ajV41 (by decide) (by decide)) ajV48 (by decide) (by decide)) hMV48 hP hD hS (lv_sub hl [0, 1, 2] rfl)
              · skip
                have f51 : ((V41 6 9)).toInt ≠ 44 := b_neq rfl (by decide) c43
                refine lv_iconst (v := 1) hx hb dX1_takeTypes_102 (by decide) ?_
                have pq52 : (V41 1 3).toInt = ((V18 1 3)).toInt := congrArg Int32.toInt ((ajV41 1 3 rfl).trans (up2_k hV36 (by decide)))
                exact W.zret (v := 1) hx hb hr rfl (fun t ht hW => ⟨⟨1, (V41, L42), rfl, ⟨hMV41, agV41, alL42, (by decide), (Imp.mk (fun hp => absurd hp (by decide)))⟩, by rw [ht]; exact hP, va_K.moved hW.alike hK, hD⟩, hS.F ht⟩) hS.2.2 dX1_takeTypes_103
            · skip
              have f53 : y4.toInt = 6 := b_eq rfl (by decide) c28
              refine lv_aload_n hx hb dX1_takeTypes_47 rfl (lv_at hl 2 rfl) ?_
              refine lv_iconst (v := 5) hx hb dX1_takeTypes_48 (by decide) ?_
              have r54 : Int32.toInt 5 = 5 := by decide
              refine gA_int (gA_runV (As := [.int 5]) (rest := []) (ci := 1) (q0 := 1) hx hb hml hown hg hP hD hK hS hA hnw hgk (x_wrong l D ks H.size ad kk V18 L7 Z 5 hMV18 (by decide)) w867 w869 w6 w162 w870 rfl xgReader hdV_yX1_wrong ⟨Nat.le_of_ble_eq_true rfl, Nat.le_of_ble_eq_true rfl⟩ rfl hl.1 rfl (Nat.le_of_ble_eq_true rfl) dX1_takeTypes_49 ⟨Nat.le_of_ble_eq_true rfl, Nat.le_of_ble_eq_true rfl⟩) hP hD hK hS hA (fun z55 u56 H locs w57 hP hD hK hS => ?_)
              obtain ⟨V59, L60⟩ := u56
              obtain ⟨hMV59, ajV59, axL60, rgz55, t58⟩ := w57
              have axL60 : L7 = L60 := Eq.symm axL60
              subst axL60
              have hP : va_P D vwCl (xw ad kk V59 L7 Z) H := hP
              have hD : va_D A (xw ad kk V59 L7 Z) := hD
              have hMV59 : rgd bX V59 := hMV59
              have ajV59 : agr [(1, 3)] [] V18 V59 := ajV59
              have agV59 : agr [(1, 3), (1, 6), (1, 7), (6, 8), (6, 9), (6, 10)] [] V V59 := agV18.tr ajV59 (by decide) (by decide)
              have rgz55 : 0 ≤ z55.toInt ∧ z55.toInt ≤ 0 := rgz55
              have t58 : 1 ≤ (V59 1 3).toInt := t58
              exact W.zret (v := z55) hx hb hr (nb_ok (by omega)) (fun t ht hW => ⟨⟨z55, (V59, L7), rfl, ⟨hMV59, agV59, alL7, (show 0 ≤ z55.toInt ∧ z55.toInt ≤ 1 from by first | exact om_641b3f05f166 rgz55.1 rgz55.2 | first | omega | ((try (have i_t17 := Imp.go t17 (by omega))); (try (have i_t16 := Imp.go t16 (by omega))); (try (have i_t16 := Imp.go t16 (by omega))); (try (have i_t17 := Imp.go t17 (by omega))); omega)), (Imp.mk (fun hp => have hp : z55.toInt = 0 := hp; (show 1 ≤ (V59 1 3).toInt from by first | exact om_f8d8213eda45 t58 | first | omega | ((try (have i_t17 := Imp.go t17 (by omega))); (try (have i_t16 := Imp.go t16 (by omega))); (try (have i_t16 := Imp.go t16 (by omega))); (try (have i_t17 := Imp.go t17 (by omega))); omega))))⟩, by rw [ht]; exact hP, va_K.moved hW.alike hK, hD⟩, hS.F ht⟩) hS.2.2 dX1_takeTypes_52
          · skip
            have f61 : z25.toInt ≠ 0 := b_neq rfl (by decide) c26
            refine lv_aload_n hx hb dX1_takeTypes_35 rfl (lv_at hl 2 rfl) ?_
            refine lv_iconst (v := 3) hx hb dX1_takeTypes_36 (by decide) ?_
            have r62 : Int32.toInt 3 = 3 := by decide
            refine gA_int (gA_runV (As := [.int 3]) (rest := []) (ci := 1) (q0 := 1) hx hb hml hown hg hP hD hK hS hA hnw hgk (x_wrong l D ks H.size ad kk V18 L7 Z 3 hMV18 (by decide)) w867 w869 w6 w162 w870 rfl xgReader hdV_yX1_wrong ⟨Nat.le_of_ble_eq_true rfl, Nat.le_of_ble_eq_true rfl⟩ rfl hl.1 rfl (Nat.le_of_ble_eq_true rfl) dX1_takeTypes_37 ⟨Nat.le_of_ble_eq_true rfl, Nat.le_of_ble_eq_true rfl⟩) hP hD hK hS hA (fun z63 u64 H locs w65 hP hD hK hS => ?_)
            obtain ⟨V67, L68⟩ := u64
            obtain ⟨hMV67, ajV67, axL68, rgz63, t66⟩ := w65
            have axL68 : L7 = L68 := Eq.symm axL68
            subst axL68
            have hP : va_P D vwCl (xw ad kk V67 L7 Z) H := hP
            have hD : va_D A (xw ad kk V67 L7 Z) := hD
            have hMV67 : rgd bX V67 := hMV67
            have ajV67 : agr [(1, 3)] [] V18 V67 := ajV67
            have agV67 : agr [(1, 3), (1, 6), (1, 7), (6, 8), (6, 9), (6, 10)] [] V V67 := agV18.tr ajV67 (by decide) (by decide)
            have rgz63 : 0 ≤ z63.toInt ∧ z63.toInt ≤ 0 := rgz63
            have t66 : 1 ≤ (V67 1 3).toInt := t66
            exact W.zret (v := z63) hx hb hr (nb_ok (by omega)) (fun t ht hW => ⟨⟨z63, (V67, L7), rfl, ⟨hMV67, agV67, alL7, (show 0 ≤ z63.toInt ∧ z63.toInt ≤ 1 from by first | exact om_641b3f05f166 rgz63.1 rgz63.2 | first | omega | ((try (have i_t17 := Imp.go t17 (by omega))); (try (have i_t16 := Imp.go t16 (by omega))); (try (have i_t16 := Imp.go t16 (by omega))); (try (have i_t17 := Imp.go t17 (by omega))); omega)), (Imp.mk (fun hp => have hp : z63.toInt = 0 := hp; (show 1 ≤ (V67 1 3).toInt from by first | exact om_f8d8213eda45 t66 | first | omega | ((try (have i_t17 := Imp.go t17 (by omega))); (try (have i_t16 := Imp.go t16 (by omega))); (try (have i_t16 := Imp.go t16 (by omega))); (try (have i_t17 := Imp.go t17 (by omega))); omega))))⟩, by rw [ht]; exact hP, va_K.moved hW.alike hK, hD⟩, hS.F ht⟩) hS.2.2 dX1_takeTypes_40
        · skip
          have f69 : z13.toInt = 0 := b_eq rfl (by decide) c21
          refine lv_iconst (v := 0) hx hb dX1_takeTypes_22 (by decide) ?_
          exact W.zret (v := 0) hx hb hr rfl (fun t ht hW => ⟨⟨0, (V18, L7), rfl, ⟨hMV18, agV18, alL7, (by decide), (Imp.mk (fun _ => (show 1 ≤ (V18 1 3).toInt from by first | exact om_f8d8213eda45 ((Imp.go t17 (f69))) | first | omega | ((try (have i_t17 := Imp.go t17 (by omega))); (try (have i_t16 := Imp.go t16 (by omega))); (try (have i_t16 := Imp.go t16 (by omega))); (try (have i_t17 := Imp.go t17 (by omega))); omega))))⟩, by rw [ht]; exact hP, va_K.moved hW.alike hK, hD⟩, hS.F ht⟩) hS.2.2 dX1_takeTypes_23
  have r70 : Int32.toInt 0 = 0 := by decide
  exact lp8 ((7 - (Int32.toInt 0) + 1 : Int).toNat) 0 0 V2 L H locs ls (by decide) (by (first | exact om_315b81f799cb | omega)) alL agr.rf hMV2 hP hD hS (lv_sub hl [0, 1, 2] rfl)
abbrev r_x_beginsPart : Room := { frames := 0, cells := 0, slots := 0, locals := 0 }
abbrev q_x_beginsPart (D : va_G) (ks : KS) (ad : Nat → Nat) (kk : Nat → ClassId) (V : Vf) (L : Lf) (Z : XZ) (A : Nat → Prop) : Array Value → State → Outcome → State → Prop := va_Qi (fun (r : Int32) (_ : Unit) => (0 ≤ r.toInt ∧ r.toInt ≤ 1)) (fun _ t => gq D A (xw ad kk V L Z) (xty kk Z) t) A
set_option maxHeartbeats 4000000 in
set_option maxRecDepth 100000 in
theorem x_beginsPart (l : Launch) (D : va_G) (ks : KS) (sz : Nat) (ad : Nat → Nat) (kk : Nat → ClassId) (V : Vf) (L : Lf) (Z : XZ)  (hMV : rgd bX V)  : Met l yX1_beginsPart (Cond.code yX1_beginsPart cX1_beginsPart 1 (some .boolean) :: GW) r_x_beginsPart (va_Pc [.ref (ad 1)] (gp D ks (xw ad kk V L Z) (xty kk Z) sz)) (q_x_beginsPart D ks ad kk V L Z  (va_A (xw ad kk V L Z) sz)) 0 0 (va_A (xw ad kk V L Z) sz) := by
  refine g_met (q_x_beginsPart D ks ad kk V L Z) (by decide) (Nat.le_of_ble_eq_true rfl) ?_
  intro p e s m below meth c A ls H locs hx hb hr hml hown hg hlocks hin hnw hgk hP hK hD hS hA hl
  have hown : s.vm.findClass RX1 = some m.cls := hown
  have hl : lv_has ls 1 [(0, .ref (ad 1))] := hl
  have hP : va_P D vwCl (xw ad kk V L Z) H := hP
  have hD : va_D A (xw ad kk V L Z) := hD
  have hK : va_K D vwCl (xty kk Z) s := hK
  refine lv_aload_n hx hb dX1_beginsPart_0 rfl (lv_at hl 0 rfl) ?_
  refine va_get (D := D) (ci := 1) (v := .ref (ad 6)) (fs := (xfReader ad V L Z)) (C := RX1) (T := TX1) (N := 9) hx hb hg inX1 hown hK hP 1 xgReader rfl 0 (by decide) (hg _ w304) (fun _ h9 => h9) rfl dX1_beginsPart_1 ?_
  refine va_getN (D := D) (ci := 9) (v := .int (V 6 9)) (fs := (xfTape ad V L Z)) (C := RX9) (T := TX9) (N := 12) hx hb hg inX9 hown hK hP 6 xgTape rfl 9 (by decide) (hnw.use 262 n262 rfl) (fun _ h9 => h9) rfl dX1_beginsPart_4 ?_
  by_cases q1 : (V 6 9) = 2
  · refine g_top (v := 2) q1 ?_
    have fq1 : ((V 6 9)).toInt = 2 := b_eq rfl (by decide) q1
    refine lv_lookup (x := 2) (off := 81) (tgt := 88) hx hb dX1_beginsPart_7 (by decide) (by decide) (by decide) ?_
    refine lv_iconst (v := 1) hx hb dX1_beginsPart_88 (by decide) ?_
    exact W.zret (v := 1) hx hb hr rfl (fun t ht hW => ⟨⟨1, (), rfl, (by decide), by rw [ht]; exact hP, va_K.moved hW.alike hK, hD⟩, hS.F ht⟩) hS.2.2 dX1_beginsPart_89
  by_cases q2 : (V 6 9) = 40
  · refine g_top (v := 40) q2 ?_
    have fq2 : ((V 6 9)).toInt = 40 := b_eq rfl (by decide) q2
    refine lv_lookup (x := 40) (off := 81) (tgt := 88) hx hb dX1_beginsPart_7 (by decide) (by decide) (by decide) ?_
    refine lv_iconst (v := 1) hx hb dX1_beginsPart_88 (by decide) ?_
    exact W.zret (v := 1) hx hb hr rfl (fun t ht hW => ⟨⟨1, (), rfl, (by decide), by rw [ht]; exact hP, va_K.moved hW.alike hK, hD⟩, hS.F ht⟩) hS.2.2 dX1_beginsPart_89
  by_cases q3 : (V 6 9) = 45
  · refine g_top (v := 45) q3 ?_
    have fq3 : ((V 6 9)).toInt = 45 := b_eq rfl (by decide) q3
    refine lv_lookup (x := 45) (off := 81) (tgt := 88) hx hb dX1_beginsPart_7 (by decide) (by decide) (by decide) ?_
    refine lv_iconst (v := 1) hx hb dX1_beginsPart_88 (by decide) ?_
    exact W.zret (v := 1) hx hb hr rfl (fun t ht hW => ⟨⟨1, (), rfl, (by decide), by rw [ht]; exact hP, va_K.moved hW.alike hK, hD⟩, hS.F ht⟩) hS.2.2 dX1_beginsPart_89
  by_cases q4 : (V 6 9) = 130
  · refine g_top (v := 130) q4 ?_
    have fq4 : ((V 6 9)).toInt = 130 := b_eq rfl (by decide) q4
    refine lv_lookup (x := 130) (off := 81) (tgt := 88) hx hb dX1_beginsPart_7 (by decide) (by decide) (by decide) ?_
    refine lv_iconst (v := 1) hx hb dX1_beginsPart_88 (by decide) ?_
    exact W.zret (v := 1) hx hb hr rfl (fun t ht hW => ⟨⟨1, (), rfl, (by decide), by rw [ht]; exact hP, va_K.moved hW.alike hK, hD⟩, hS.F ht⟩) hS.2.2 dX1_beginsPart_89
  by_cases q5 : (V 6 9) = 143
  · refine g_top (v := 143) q5 ?_
    have fq5 : ((V 6 9)).toInt = 143 := b_eq rfl (by decide) q5
    refine lv_lookup (x := 143) (off := 81) (tgt := 88) hx hb dX1_beginsPart_7 (by decide) (by decide) (by decide) ?_
    refine lv_iconst (v := 1) hx hb dX1_beginsPart_88 (by decide) ?_
    exact W.zret (v := 1) hx hb hr rfl (fun t ht hW => ⟨⟨1, (), rfl, (by decide), by rw [ht]; exact hP, va_K.moved hW.alike hK, hD⟩, hS.F ht⟩) hS.2.2 dX1_beginsPart_89
  by_cases q6 : (V 6 9) = 144
  · refine g_top (v := 144) q6 ?_
    have fq6 : ((V 6 9)).toInt = 144 := b_eq rfl (by decide) q6
    refine lv_lookup (x := 144) (off := 81) (tgt := 88) hx hb dX1_beginsPart_7 (by decide) (by decide) (by decide) ?_
    refine lv_iconst (v := 1) hx hb dX1_beginsPart_88 (by decide) ?_
    exact W.zret (v := 1) hx hb hr rfl (fun t ht hW => ⟨⟨1, (), rfl, (by decide), by rw [ht]; exact hP, va_K.moved hW.alike hK, hD⟩, hS.F ht⟩) hS.2.2 dX1_beginsPart_89
  by_cases q7 : (V 6 9) = 145
  · refine g_top (v := 145) q7 ?_
    have fq7 : ((V 6 9)).toInt = 145 := b_eq rfl (by decide) q7
    refine lv_lookup (x := 145) (off := 81) (tgt := 88) hx hb dX1_beginsPart_7 (by decide) (by decide) (by decide) ?_
    refine lv_iconst (v := 1) hx hb dX1_beginsPart_88 (by decide) ?_
    exact W.zret (v := 1) hx hb hr rfl (fun t ht hW => ⟨⟨1, (), rfl, (by decide), by rw [ht]; exact hP, va_K.moved hW.alike hK, hD⟩, hS.F ht⟩) hS.2.2 dX1_beginsPart_89
  by_cases q8 : (V 6 9) = 146
  · refine g_top (v := 146) q8 ?_
    have fq8 : ((V 6 9)).toInt = 146 := b_eq rfl (by decide) q8
    refine lv_lookup (x := 146) (off := 83) (tgt := 90) hx hb dX1_beginsPart_7 (by decide) (by decide) (by decide) ?_
    refine lv_aload_n hx hb dX1_beginsPart_90 rfl (lv_at hl 0 rfl) ?_
    refine va_get (D := D) (ci := 1) (v := .int (V 1 4)) (fs := (xfReader ad V L Z)) (C := RX1) (T := TX1) (N := 9) hx hb hg inX1 hown hK hP 1 xgReader rfl 4 (by decide) (hg _ w308) (fun _ h9 => h9) rfl dX1_beginsPart_91 ?_
    have r9 : 0 ≤ ((V 1 4)).toInt ∧ ((V 1 4)).toInt ≤ 2 := hMV 1 4
    refine lv_if_ne (tgt := 101) hx hb dX1_beginsPart_94 (by decide) (fun c10 => ?_) (fun c10 => ?_)
    · skip
      have f11 : ((V 1 4)).toInt ≠ 0 := b_neq rfl (by decide) c10
      refine lv_iconst (v := 0) hx hb dX1_beginsPart_101 (by decide) ?_
      exact W.zret (v := 0) hx hb hr rfl (fun t ht hW => ⟨⟨0, (), rfl, (by decide), by rw [ht]; exact hP, va_K.moved hW.alike hK, hD⟩, hS.F ht⟩) hS.2.2 dX1_beginsPart_102
    · skip
      have f12 : ((V 1 4)).toInt = 0 := b_eq rfl (by decide) c10
      refine lv_iconst (v := 1) hx hb dX1_beginsPart_97 (by decide) ?_
      refine lv_goto (tgt := 102) hx hb dX1_beginsPart_98 (by decide) ?_
      exact W.zret (v := 1) hx hb hr rfl (fun t ht hW => ⟨⟨1, (), rfl, (by decide), by rw [ht]; exact hP, va_K.moved hW.alike hK, hD⟩, hS.F ht⟩) hS.2.2 dX1_beginsPart_102
  by_cases q13 : (V 6 9) = 147
  · refine g_top (v := 147) q13 ?_
    have fq13 : ((V 6 9)).toInt = 147 := b_eq rfl (by decide) q13
    refine lv_lookup (x := 147) (off := 96) (tgt := 103) hx hb dX1_beginsPart_7 (by decide) (by decide) (by decide) ?_
    refine lv_aload_n hx hb dX1_beginsPart_103 rfl (lv_at hl 0 rfl) ?_
    refine va_get (D := D) (ci := 1) (v := .int (V 1 4)) (fs := (xfReader ad V L Z)) (C := RX1) (T := TX1) (N := 9) hx hb hg inX1 hown hK hP 1 xgReader rfl 4 (by decide) (hg _ w308) (fun _ h9 => h9) rfl dX1_beginsPart_104 ?_
    have r14 : 0 ≤ ((V 1 4)).toInt ∧ ((V 1 4)).toInt ≤ 2 := hMV 1 4
    refine lv_iconst (v := 2) hx hb dX1_beginsPart_107 (by decide) ?_
    refine lv_icmp_ne (tgt := 115) hx hb dX1_beginsPart_108 (by decide) (fun c15 => ?_) (fun c15 => ?_)
    · skip
      have f16 : ((V 1 4)).toInt ≠ 2 := b_neq rfl (by decide) c15
      refine lv_iconst (v := 0) hx hb dX1_beginsPart_115 (by decide) ?_
      exact W.zret (v := 0) hx hb hr rfl (fun t ht hW => ⟨⟨0, (), rfl, (by decide), by rw [ht]; exact hP, va_K.moved hW.alike hK, hD⟩, hS.F ht⟩) hS.2.2 dX1_beginsPart_116
    · skip
      have f17 : ((V 1 4)).toInt = 2 := b_eq rfl (by decide) c15
      refine lv_iconst (v := 1) hx hb dX1_beginsPart_111 (by decide) ?_
      refine lv_goto (tgt := 116) hx hb dX1_beginsPart_112 (by decide) ?_
      exact W.zret (v := 1) hx hb hr rfl (fun t ht hW => ⟨⟨1, (), rfl, (by decide), by rw [ht]; exact hP, va_K.moved hW.alike hK, hD⟩, hS.F ht⟩) hS.2.2 dX1_beginsPart_116
  refine lv_lookup (x := (V 6 9)) (off := 110) (tgt := 117) hx hb dX1_beginsPart_7 (by decide) ((lv_osw q1 (by decide)).trans ((lv_osw q2 (by decide)).trans ((lv_osw q3 (by decide)).trans ((lv_osw q4 (by decide)).trans ((lv_osw q5 (by decide)).trans ((lv_osw q6 (by decide)).trans ((lv_osw q7 (by decide)).trans ((lv_osw q8 (by decide)).trans ((lv_osw q13 (by decide)).trans rfl))))))))) (by decide) ?_
  have gq1 : ((V 6 9)).toInt ≠ 2 := b_neq rfl (by decide) q1
  have gq2 : ((V 6 9)).toInt ≠ 40 := b_neq rfl (by decide) q2
  have gq3 : ((V 6 9)).toInt ≠ 45 := b_neq rfl (by decide) q3
  have gq4 : ((V 6 9)).toInt ≠ 130 := b_neq rfl (by decide) q4
  have gq5 : ((V 6 9)).toInt ≠ 143 := b_neq rfl (by decide) q5
  have gq6 : ((V 6 9)).toInt ≠ 144 := b_neq rfl (by decide) q6
  have gq7 : ((V 6 9)).toInt ≠ 145 := b_neq rfl (by decide) q7
  have gq8 : ((V 6 9)).toInt ≠ 146 := b_neq rfl (by decide) q8
  have gq13 : ((V 6 9)).toInt ≠ 147 := b_neq rfl (by decide) q13
  refine lv_iconst (v := 0) hx hb dX1_beginsPart_117 (by decide) ?_
  exact W.zret (v := 0) hx hb hr rfl (fun t ht hW => ⟨⟨0, (), rfl, (by decide), by rw [ht]; exact hP, va_K.moved hW.alike hK, hD⟩, hS.F ht⟩) hS.2.2 dX1_beginsPart_118
abbrev r_x_putAlone : Room := { frames := 1, cells := 0, slots := 0, locals := 21 }
abbrev q_x_putAlone (D : va_G) (ks : KS) (ad : Nat → Nat) (kk : Nat → ClassId) (V : Vf) (L : Lf) (Z : XZ) (p0 : Int32) (b : Nat) (A : Nat → Prop) : Array Value → State → Outcome → State → Prop := va_Qi (fun (r : Int32) (u : Vf × Lf) => rgd bX u.1 ∧ agr [] [42, 48] V u.1 ∧ u.2 = L ∧ frX (xR b) V u.1 ∧ (1 ≤ r.toInt ∧ r.toInt ≤ 1) ∧ (CD u.1 b) ∧ (px V u.1 b)) (fun u t => gq D A (xw ad kk u.1 u.2 Z) (xty kk Z) t) A
set_option maxHeartbeats 4000000 in
set_option maxRecDepth 100000 in
theorem x_putAlone (l : Launch) (D : va_G) (ks : KS) (sz : Nat) (ad : Nat → Nat) (kk : Nat → ClassId) (V : Vf) (L : Lf) (Z : XZ) (p0 : Int32) (b : Nat) (hMV : rgd bX V) (rg_p0 : 0 ≤ p0.toInt ∧ p0.toInt ≤ 9) (hb2 : b < 2) (rbk : (V 1 1).toInt = (b : Int)) (cd : CD V b)  : Met l yX1_putAlone (Cond.code yX1_putAlone cX1_putAlone 2 (some .boolean) :: GW) r_x_putAlone (va_Pc [.ref (ad 1), .int p0] (gp D ks (xw ad kk V L Z) (xty kk Z) sz)) (q_x_putAlone D ks ad kk V L Z p0 b (va_A (xw ad kk V L Z) sz)) 0 0 (va_A (xw ad kk V L Z) sz) := by
  refine g_met (q_x_putAlone D ks ad kk V L Z p0 b) (by decide) (Nat.le_of_ble_eq_true rfl) ?_
  intro p e s m below meth c A ls H locs hx hb hr hml hown hg hlocks hin hnw hgk hP hK hD hS hA hl
  have hown : s.vm.findClass RX1 = some m.cls := hown
  have hl : lv_has ls 2 [(0, .ref (ad 1)), (1, .int p0)] := hl
  have hP : va_P D vwCl (xw ad kk V L Z) H := hP
  have hD : va_D A (xw ad kk V L Z) := hD
  have hK : va_K D vwCl (xty kk Z) s := hK
  have agV : agr [] [42, 48] V V := agr.rf
  have fwV : frX (xR b) V V := frX.rf
  have r1 : (-1) ≤ ((V 1 1)).toInt ∧ ((V 1 1)).toInt ≤ 1 := hMV 1 1
  refine lv_aload_n hx hb dX1_putAlone_0 rfl (lv_at hl 0 rfl) ?_
  refine va_get (D := D) (ci := 1) (v := rfN ad 38 (V 1 1)) (fs := (xfReader ad V L Z)) (C := RX1) (T := TX1) (N := 9) hx hb hg inX1 hown hK hP 1 xgReader rfl 1 (by decide) (hg _ w305) (fun _ h9 => h9) rfl dX1_putAlone_1 ?_
  refine g_topv (v := .ref (ad (38 + b))) (rfN_r (by first | omega | ((try (have i_cd := Imp.go cd (by omega))); omega))) ?_
  refine lv_iload_n hx hb dX1_putAlone_4 rfl (lv_at hl 1 rfl) ?_
  refine gA_void (gA_runV (As := [.int p0]) (rest := []) (ci := 0) (q0 := (38 + b)) hx hb hml hown hg hP hD hK hS hA hnw hgk (x_emit l D ks H.size ad kk V L Z p0 (b) hMV (show b < 2 from by first | exact om_f940a4667dd6 hb2 | first | omega | ((try (have i_cd := Imp.go cd (by omega))); omega))) w971 w972 w973 w167 w974 rfl (xgBook hb2) hdV_yX0_emit ⟨Nat.le_of_ble_eq_true rfl, Nat.le_of_ble_eq_true rfl⟩ rfl hl.1 rfl (Nat.le_of_ble_eq_true rfl) dX1_putAlone_5 ⟨Nat.le_of_ble_eq_true rfl, Nat.le_of_ble_eq_true rfl⟩) hP hD hK hS hA (fun u3 H locs w4 hP hD hK hS => ?_)
  obtain ⟨V6, L7⟩ := u3
  obtain ⟨hMV6, ajV6, axL7, fyV6, t5⟩ := w4
  have axL7 : L = L7 := Eq.symm axL7
  subst axL7
  have hP : va_P D vwCl (xw ad kk V6 L Z) H := hP
  have hD : va_D A (xw ad kk V6 L Z) := hD
  have hMV6 : rgd bX V6 := hMV6
  have ajV6 : agr [] [42, 48] V V6 := ajV6
  have agV6 : agr [] [42, 48] V V6 := agV.tr ajV6 (by decide) (by decide)
  have fwV6 : frX (xR b) V V6 := frX.tr fwV (fyV6)
  have t5 : emX V V6 b p0 := t5
  refine lv_iconst (v := 1) hx hb dX1_putAlone_8 (by decide) ?_
  have cl8 : 0 ≤ (V 42 b).toInt ∧ (V 42 b).toInt ≤ 8200 := hMV 42 b
  have cd9 : CD V6 b := ⟨CB.e1 cd.1 t5 (by omega) (by omega), CO.e1 cd.2 t5 (by omega) (by omega)⟩
  have px10 : px V V6 b := px.tr (px.rf : px V V b) ⟨emX.p0x t5, ajV6 43 _ rfl⟩
  exact W.zret (v := 1) hx hb hr rfl (fun t ht hW => ⟨⟨1, (V6, L), rfl, ⟨hMV6, agV6, rfl, fwV6, (by decide), cd9, px10⟩, by rw [ht]; exact hP, va_K.moved hW.alike hK, hD⟩, hS.F ht⟩) hS.2.2 dX1_putAlone_9
abbrev r_x_put : Room := { frames := 1, cells := 0, slots := 0, locals := 21 }
abbrev q_x_put (D : va_G) (ks : KS) (ad : Nat → Nat) (kk : Nat → ClassId) (V : Vf) (L : Lf) (Z : XZ) (p0 : Int32) (p1 : Int32) (b : Nat) (A : Nat → Prop) : Array Value → State → Outcome → State → Prop := va_Qi (fun (r : Int32) (u : Vf × Lf) => rgd bX u.1 ∧ agr [] [42, 48] V u.1 ∧ u.2 = L ∧ frX (xR b) V u.1 ∧ (1 ≤ r.toInt ∧ r.toInt ≤ 1) ∧ (Imp (p0.toInt = 13 ∨ p0.toInt = 14) (jp u.1 b (V 42 b).toInt.toNat)) ∧ (CD u.1 b) ∧ (px V u.1 b)) (fun u t => gq D A (xw ad kk u.1 u.2 Z) (xty kk Z) t) A
set_option maxHeartbeats 4000000 in
set_option maxRecDepth 100000 in
theorem x_put (l : Launch) (D : va_G) (ks : KS) (sz : Nat) (ad : Nat → Nat) (kk : Nat → ClassId) (V : Vf) (L : Lf) (Z : XZ) (p0 : Int32) (p1 : Int32) (b : Nat) (hMV : rgd bX V) (rg_p0 : 10 ≤ p0.toInt ∧ p0.toInt ≤ 15) (hb2 : b < 2) (rbk : (V 1 1).toInt = (b : Int)) (cd : CD V b) (o1 : Imp (p0.toInt = 11) (0 ≤ p1.toInt ∧ p1.toInt ≤ 11)) (o2 : Imp (p0.toInt = 15) (0 ≤ p1.toInt ∧ p1.toInt ≤ 159)) (o3 : Imp (p0.toInt = 13 ∨ p0.toInt = 14) (p1.toInt = 0))  : Met l yX1_put (Cond.code yX1_put cX1_put 3 (some .boolean) :: GW) r_x_put (va_Pc [.ref (ad 1), .int p0, .int p1] (gp D ks (xw ad kk V L Z) (xty kk Z) sz)) (q_x_put D ks ad kk V L Z p0 p1 b (va_A (xw ad kk V L Z) sz)) 0 0 (va_A (xw ad kk V L Z) sz) := by
  refine g_met (q_x_put D ks ad kk V L Z p0 p1 b) (by decide) (Nat.le_of_ble_eq_true rfl) ?_
  intro p e s m below meth c A ls H locs hx hb hr hml hown hg hlocks hin hnw hgk hP hK hD hS hA hl
  have hown : s.vm.findClass RX1 = some m.cls := hown
  have hl : lv_has ls 3 [(0, .ref (ad 1)), (1, .int p0), (2, .int p1)] := hl
  have hP : va_P D vwCl (xw ad kk V L Z) H := hP
  have hD : va_D A (xw ad kk V L Z) := hD
  have hK : va_K D vwCl (xty kk Z) s := hK
  have agV : agr [] [42, 48] V V := agr.rf
  have fwV : frX (xR b) V V := frX.rf
  have r1 : (-1) ≤ ((V 1 1)).toInt ∧ ((V 1 1)).toInt ≤ 1 := hMV 1 1
  refine lv_aload_n hx hb dX1_put_0 rfl (lv_at hl 0 rfl) ?_
  refine va_get (D := D) (ci := 1) (v := rfN ad 38 (V 1 1)) (fs := (xfReader ad V L Z)) (C := RX1) (T := TX1) (N := 9) hx hb hg inX1 hown hK hP 1 xgReader rfl 1 (by decide) (hg _ w305) (fun _ h9 => h9) rfl dX1_put_1 ?_
  refine g_topv (v := .ref (ad (38 + b))) (rfN_r (by first | omega | ((try (have i_o3 := Imp.go o3 (by omega))); (try (have i_o2 := Imp.go o2 (by omega))); (try (have i_o1 := Imp.go o1 (by omega))); (try (have i_cd := Imp.go cd (by omega))); first | omega | ((try (have i_cd := Imp.go cd (by omega))); (try (have i_o1 := Imp.go o1 (by omega))); (try (have i_o2 := Imp.go o2 (by omega))); (try (have i_o3 := Imp.go o3 (by omega))); omega)))) ?_
  refine lv_iload_n hx hb dX1_put_4 rfl (lv_at hl 1 rfl) ?_
  refine gA_void (gA_runV (As := [.int p0]) (rest := []) (ci := 0) (q0 := (38 + b)) hx hb hml hown hg hP hD hK hS hA hnw hgk (x_emit l D ks H.size ad kk V L Z p0 (b) hMV (show b < 2 from by first | exact om_f940a4667dd6 hb2 | first | omega | ((try (have i_o3 := Imp.go o3 (by omega))); (try (have i_o2 := Imp.go o2 (by omega))); (try (have i_o1 := Imp.go o1 (by omega))); (try (have i_cd := Imp.go cd (by omega))); first | omega | ((try (have i_cd := Imp.go cd (by omega))); (try (have i_o1 := Imp.go o1 (by omega))); (try (have i_o2 := Imp.go o2 (by omega))); (try (have i_o3 := Imp.go o3 (by omega))); omega)))) w971 w972 w973 w167 w974 rfl (xgBook hb2) hdV_yX0_emit ⟨Nat.le_of_ble_eq_true rfl, Nat.le_of_ble_eq_true rfl⟩ rfl hl.1 rfl (Nat.le_of_ble_eq_true rfl) dX1_put_5 ⟨Nat.le_of_ble_eq_true rfl, Nat.le_of_ble_eq_true rfl⟩) hP hD hK hS hA (fun u3 H locs w4 hP hD hK hS => ?_)
  obtain ⟨V6, L7⟩ := u3
  obtain ⟨hMV6, ajV6, axL7, fyV6, t5⟩ := w4
  have axL7 : L = L7 := Eq.symm axL7
  subst axL7
  have hP : va_P D vwCl (xw ad kk V6 L Z) H := hP
  have hD : va_D A (xw ad kk V6 L Z) := hD
  have hMV6 : rgd bX V6 := hMV6
  have ajV6 : agr [] [42, 48] V V6 := ajV6
  have agV6 : agr [] [42, 48] V V6 := agV.tr ajV6 (by decide) (by decide)
  have fwV6 : frX (xR b) V V6 := frX.tr fwV (fyV6)
  have t5 : emX V V6 b p0 := t5
  refine lv_aload_n hx hb dX1_put_8 rfl (lv_at hl 0 rfl) ?_
  refine va_get (D := D) (ci := 1) (v := rfN ad 38 (V6 1 1)) (fs := (xfReader ad V6 L Z)) (C := RX1) (T := TX1) (N := 9) hx hb hg inX1 hown hK hP 1 xgReader rfl 1 (by decide) (hg _ w305) (fun _ h9 => h9) rfl dX1_put_9 ?_
  have pq8 : (V6 1 1).toInt = ((V 1 1)).toInt := congrArg Int32.toInt (ajV6 1 1 rfl)
  refine g_topv (v := .ref (ad (38 + b))) (rfN_r (by first | omega | ((try (have i_o3 := Imp.go o3 (by omega))); (try (have i_o2 := Imp.go o2 (by omega))); (try (have i_o1 := Imp.go o1 (by omega))); (try (have i_cd := Imp.go cd (by omega))); first | omega | ((try (have i_cd := Imp.go cd (by omega))); (try (have i_o1 := Imp.go o1 (by omega))); (try (have i_o2 := Imp.go o2 (by omega))); (try (have i_o3 := Imp.go o3 (by omega))); omega)))) ?_
  refine lv_iload_n hx hb dX1_put_12 rfl (lv_at hl 2 rfl) ?_
  refine gA_void (gA_runV (As := [.int p1]) (rest := []) (ci := 0) (q0 := (38 + b)) hx hb hml hown hg hP hD hK hS hA hnw hgk (x_emit l D ks H.size ad kk V6 L Z p1 (b) hMV6 (show b < 2 from by first | exact om_f940a4667dd6 hb2 | first | omega | ((try (have i_o3 := Imp.go o3 (by omega))); (try (have i_o2 := Imp.go o2 (by omega))); (try (have i_o1 := Imp.go o1 (by omega))); (try (have i_cd := Imp.go cd (by omega))); first | omega | ((try (have i_cd := Imp.go cd (by omega))); (try (have i_o1 := Imp.go o1 (by omega))); (try (have i_o2 := Imp.go o2 (by omega))); (try (have i_o3 := Imp.go o3 (by omega))); omega)))) w971 w972 w973 w167 w974 rfl (xgBook hb2) hdV_yX0_emit ⟨Nat.le_of_ble_eq_true rfl, Nat.le_of_ble_eq_true rfl⟩ rfl hl.1 rfl (Nat.le_of_ble_eq_true rfl) dX1_put_13 ⟨Nat.le_of_ble_eq_true rfl, Nat.le_of_ble_eq_true rfl⟩) hP hD hK hS hA (fun u10 H locs w11 hP hD hK hS => ?_)
  obtain ⟨V13, L14⟩ := u10
  obtain ⟨hMV13, ajV13, axL14, fyV13, t12⟩ := w11
  have axL14 : L = L14 := Eq.symm axL14
  subst axL14
  have hP : va_P D vwCl (xw ad kk V13 L Z) H := hP
  have hD : va_D A (xw ad kk V13 L Z) := hD
  have hMV13 : rgd bX V13 := hMV13
  have ajV13 : agr [] [42, 48] V6 V13 := ajV13
  have agV13 : agr [] [42, 48] V V13 := agV6.tr ajV13 (by decide) (by decide)
  have fwV13 : frX (xR b) V V13 := frX.tr fwV6 (fyV13)
  have t12 : emX V6 V13 b p1 := t12
  refine lv_iconst (v := 1) hx hb dX1_put_16 (by decide) ?_
  have cl15 : 0 ≤ (V 42 b).toInt ∧ (V 42 b).toInt ≤ 8200 := hMV 42 b
  have rp16 : Imp (p0.toInt = 13 ∨ p0.toInt = 14) (jp V13 b (V 42 b).toInt.toNat) := Imp.mk (fun hp => jp.mk cd.1 t5 t12 (by (first | exact om_eafa9039069c cl15.1 | omega)) hp)
  have cd17 : CD V13 b := ⟨CB.e2 cd.1 t5 t12 (by omega) (by omega) (by omega) ⟨fun q => Imp.go o1 q, fun q => Imp.go o2 q, fun q => Imp.go o3 q⟩, CO.e2 cd.2 cd.1 t5 t12 (by omega) (by omega) (by omega)⟩
  have px18 : px V V6 b := px.tr (px.rf : px V V b) ⟨emX.p0x t5, ajV6 43 _ rfl⟩
  have px19 : px V V13 b := px.tr px18 ⟨emX.p0x t12, ajV13 43 _ rfl⟩
  exact W.zret (v := 1) hx hb hr rfl (fun t ht hW => ⟨⟨1, (V13, L), rfl, ⟨hMV13, agV13, rfl, fwV13, (by decide), rp16, cd17, px19⟩, by rw [ht]; exact hP, va_K.moved hW.alike hK, hD⟩, hS.F ht⟩) hS.2.2 dX1_put_17
