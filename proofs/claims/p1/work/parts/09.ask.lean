theorem w1531 : Cond.code yX8_latestOpen cX8_latestOpen 4 (some .int) ∈ GW := gw_mem 1531 (by decide +kernel) rfl
theorem w1528 : Cond.methodLink RX8 72 yX8_latestOpen ∈ GW := gw_mem 1528 (by decide +kernel) rfl
theorem w1530 : Cond.instanceMethod yX8_latestOpen ∈ GW := gw_mem 1530 (by decide +kernel) rfl
theorem w79 : Cond.selects RX8 yX8_latestOpen yX8_latestOpen ∈ GW := gw_mem 79 (by decide +kernel) rfl
theorem hdV_yX8_latestOpen : yX8_latestOpen.cls = RX8 ∧ yX8_latestOpen.cls ≠ "java/lang/invoke/MethodHandle" ∧ yX8_latestOpen.cls ≠ "java/lang/invoke/VarHandle" ∧ (parseMethodDescriptor yX8_latestOpen.desc).map (fun d => d.parameters.length) = some 2 := by decide +kernel
theorem w1303 : Cond.code yX8_has cX8_has 2 (some .boolean) ∈ GW := gw_mem 1303 (by decide +kernel) rfl
theorem w1300 : Cond.methodLink RX8 76 yX8_has ∈ GW := gw_mem 1300 (by decide +kernel) rfl
theorem w1301 : Cond.instanceMethod yX8_has ∈ GW := gw_mem 1301 (by decide +kernel) rfl
theorem w1302 : Cond.selects RX8 yX8_has yX8_has ∈ GW := gw_mem 1302 (by decide +kernel) rfl
theorem hdV_yX8_has : yX8_has.cls = RX8 ∧ yX8_has.cls ≠ "java/lang/invoke/MethodHandle" ∧ yX8_has.cls ≠ "java/lang/invoke/VarHandle" ∧ (parseMethodDescriptor yX8_has.desc).map (fun d => d.parameters.length) = some 1 := by decide +kernel
theorem w1124 : Cond.code yX2_tells cX2_tells 2 (some .boolean) ∈ GW := gw_mem 1124 (by decide +kernel) rfl
theorem w1121 : Cond.methodLink RX2 109 yX2_tells ∈ GW := gw_mem 1121 (by decide +kernel) rfl
theorem w1123 : Cond.instanceMethod yX2_tells ∈ GW := gw_mem 1123 (by decide +kernel) rfl
theorem w41 : Cond.selects RX2 yX2_tells yX2_tells ∈ GW := gw_mem 41 (by decide +kernel) rfl
theorem hdV_yX2_tells : yX2_tells.cls = RX2 ∧ yX2_tells.cls ≠ "java/lang/invoke/MethodHandle" ∧ yX2_tells.cls ≠ "java/lang/invoke/VarHandle" ∧ (parseMethodDescriptor yX2_tells.desc).map (fun d => d.parameters.length) = some 1 := by decide +kernel
theorem w344 : Cond.fieldLink RX2 34 "WiringHouse$Checker" "book" "LWiringHouse$Book;" ∈ GW := gw_mem 344 (by decide +kernel) rfl
theorem n600 : lw_tbl[600]? = some (Cond.fieldLinkNest RX2 38 "WiringHouse$Book" "names" "LWiringHouse$Names;" "WiringHouse") := by decide +kernel
theorem n482 : lw_tbl[482]? = some (Cond.fieldLinkNest RX2 44 "WiringHouse$Names" "size" "I" "WiringHouse") := by decide +kernel
theorem w1100 : Cond.methodLink RX2 57 yJ7_fill_53178 ∈ GW := gw_mem 1100 (by decide +kernel) rfl
theorem w724 : Cond.fieldLink RX11 93 "WiringHouse" "ending" "I" ∈ GW := gw_mem 724 (by decide +kernel) rfl
theorem dX8_isOpen_0 : decode cX8_isOpen 0 = .ok (.iload_n 1, 1) := by decide +kernel
theorem dX8_isOpen_1 : decode cX8_isOpen 1 = .ok (.ifCond .lt 24, 3) := by decide +kernel
theorem dX8_isOpen_4 : decode cX8_isOpen 4 = .ok (.iload_n 1, 1) := by decide +kernel
theorem dX8_isOpen_5 : decode cX8_isOpen 5 = .ok (.aload_n 0, 1) := by decide +kernel
theorem dX8_isOpen_6 : decode cX8_isOpen 6 = .ok (.getfield 55, 3) := by decide +kernel
theorem dX8_isOpen_9 : decode cX8_isOpen 9 = .ok (.if_icmp .ge 16, 3) := by decide +kernel
theorem dX8_isOpen_12 : decode cX8_isOpen 12 = .ok (.aload_n 0, 1) := by decide +kernel
theorem dX8_isOpen_13 : decode cX8_isOpen 13 = .ok (.getfield 18, 3) := by decide +kernel
theorem dX8_isOpen_16 : decode cX8_isOpen 16 = .ok (.iload_n 1, 1) := by decide +kernel
theorem dX8_isOpen_17 : decode cX8_isOpen 17 = .ok (.baload, 1) := by decide +kernel
theorem dX8_isOpen_18 : decode cX8_isOpen 18 = .ok (.ifCond .eq 7, 3) := by decide +kernel
theorem dX8_isOpen_21 : decode cX8_isOpen 21 = .ok (.iconst 1, 1) := by decide +kernel
theorem dX8_isOpen_22 : decode cX8_isOpen 22 = .ok (.goto 4, 3) := by decide +kernel
theorem dX8_isOpen_26 : decode cX8_isOpen 26 = .ok (.ireturn, 1) := by decide +kernel
theorem dX8_isOpen_25 : decode cX8_isOpen 25 = .ok (.iconst 0, 1) := by decide +kernel
theorem dX8_reopenHouse_0 : decode cX8_reopenHouse 0 = .ok (.aload_n 0, 1) := by decide +kernel
theorem dX8_reopenHouse_1 : decode cX8_reopenHouse 1 = .ok (.getfield 18, 3) := by decide +kernel
theorem dX8_reopenHouse_4 : decode cX8_reopenHouse 4 = .ok (.iconst 0, 1) := by decide +kernel
theorem dX8_reopenHouse_5 : decode cX8_reopenHouse 5 = .ok (.iconst 1, 1) := by decide +kernel
theorem dX8_reopenHouse_6 : decode cX8_reopenHouse 6 = .ok (.bastore, 1) := by decide +kernel
theorem dX8_reopenHouse_7 : decode cX8_reopenHouse 7 = .ok (.return_, 1) := by decide +kernel
theorem dX8_latestOpen_0 : decode cX8_latestOpen 0 = .ok (.aload_n 0, 1) := by decide +kernel
theorem dX8_latestOpen_1 : decode cX8_latestOpen 1 = .ok (.getfield 55, 3) := by decide +kernel
theorem dX8_latestOpen_4 : decode cX8_latestOpen 4 = .ok (.iconst 1, 1) := by decide +kernel
theorem dX8_latestOpen_5 : decode cX8_latestOpen 5 = .ok (.isub, 1) := by decide +kernel
theorem dX8_latestOpen_6 : decode cX8_latestOpen 6 = .ok (.istore_n 3, 1) := by decide +kernel
theorem dX8_latestOpen_7 : decode cX8_latestOpen 7 = .ok (.iload_n 3, 1) := by decide +kernel
theorem dX8_latestOpen_8 : decode cX8_latestOpen 8 = .ok (.ifCond .le 40, 3) := by decide +kernel
theorem dX8_latestOpen_48 : decode cX8_latestOpen 48 = .ok (.iconst (-1), 1) := by decide +kernel
theorem dX8_latestOpen_49 : decode cX8_latestOpen 49 = .ok (.ireturn, 1) := by decide +kernel
theorem dX8_innermost_0 : decode cX8_innermost 0 = .ok (.iload_n 1, 1) := by decide +kernel
theorem dX8_innermost_1 : decode cX8_innermost 1 = .ok (.istore_n 2, 1) := by decide +kernel
theorem dX8_innermost_2 : decode cX8_innermost 2 = .ok (.iload_n 1, 1) := by decide +kernel
theorem dX8_innermost_3 : decode cX8_innermost 3 = .ok (.ifCond .ne 10, 3) := by decide +kernel
theorem dX8_innermost_6 : decode cX8_innermost 6 = .ok (.aload_n 0, 1) := by decide +kernel
theorem dX8_innermost_7 : decode cX8_innermost 7 = .ok (.iconst 1, 1) := by decide +kernel
theorem dX8_innermost_8 : decode cX8_innermost 8 = .ok (.iconst 0, 1) := by decide +kernel
theorem dX8_innermost_9 : decode cX8_innermost 9 = .ok (.invokevirtual 72, 3) := by decide +kernel
theorem dX8_innermost_12 : decode cX8_innermost 12 = .ok (.istore_n 2, 1) := by decide +kernel
theorem dX8_innermost_13 : decode cX8_innermost 13 = .ok (.aload_n 0, 1) := by decide +kernel
theorem dX8_innermost_14 : decode cX8_innermost 14 = .ok (.iconst 2, 1) := by decide +kernel
theorem dX8_innermost_15 : decode cX8_innermost 15 = .ok (.iload_n 2, 1) := by decide +kernel
theorem dX8_innermost_16 : decode cX8_innermost 16 = .ok (.invokevirtual 72, 3) := by decide +kernel
theorem dX8_innermost_19 : decode cX8_innermost 19 = .ok (.istore_n 3, 1) := by decide +kernel
theorem dX8_innermost_20 : decode cX8_innermost 20 = .ok (.iload_n 3, 1) := by decide +kernel
theorem dX8_innermost_21 : decode cX8_innermost 21 = .ok (.iconst (-1), 1) := by decide +kernel
theorem dX8_innermost_22 : decode cX8_innermost 22 = .ok (.if_icmp .eq 7, 3) := by decide +kernel
theorem dX8_innermost_29 : decode cX8_innermost 29 = .ok (.iload_n 2, 1) := by decide +kernel
theorem dX8_innermost_30 : decode cX8_innermost 30 = .ok (.iconst (-1), 1) := by decide +kernel
theorem dX8_innermost_31 : decode cX8_innermost 31 = .ok (.if_icmp .eq 7, 3) := by decide +kernel
theorem dX8_innermost_38 : decode cX8_innermost 38 = .ok (.iload_n 1, 1) := by decide +kernel
theorem dX8_innermost_39 : decode cX8_innermost 39 = .ok (.ireturn, 1) := by decide +kernel
theorem dX8_latestMade_0 : decode cX8_latestMade 0 = .ok (.iconst (-1), 1) := by decide +kernel
theorem dX8_latestMade_1 : decode cX8_latestMade 1 = .ok (.istore_n 2, 1) := by decide +kernel
theorem dX8_latestMade_2 : decode cX8_latestMade 2 = .ok (.iconst 0, 1) := by decide +kernel
theorem dX8_latestMade_3 : decode cX8_latestMade 3 = .ok (.istore_n 3, 1) := by decide +kernel
theorem dX8_latestMade_4 : decode cX8_latestMade 4 = .ok (.iload_n 3, 1) := by decide +kernel
theorem dX8_latestMade_5 : decode cX8_latestMade 5 = .ok (.aload_n 0, 1) := by decide +kernel
theorem dX8_latestMade_6 : decode cX8_latestMade 6 = .ok (.getfield 63, 3) := by decide +kernel
theorem dX8_latestMade_9 : decode cX8_latestMade 9 = .ok (.if_icmp .ge 63, 3) := by decide +kernel
theorem dX8_latestMade_72 : decode cX8_latestMade 72 = .ok (.iload_n 2, 1) := by decide +kernel
theorem dX8_latestMade_73 : decode cX8_latestMade 73 = .ok (.ireturn, 1) := by decide +kernel
theorem dX8_openScopes_0 : decode cX8_openScopes 0 = .ok (.iconst 0, 1) := by decide +kernel
theorem dX8_openScopes_1 : decode cX8_openScopes 1 = .ok (.istore_n 1, 1) := by decide +kernel
theorem dX8_openScopes_2 : decode cX8_openScopes 2 = .ok (.iconst 0, 1) := by decide +kernel
theorem dX8_openScopes_3 : decode cX8_openScopes 3 = .ok (.istore_n 2, 1) := by decide +kernel
theorem dX8_openScopes_4 : decode cX8_openScopes 4 = .ok (.iload_n 2, 1) := by decide +kernel
theorem dX8_openScopes_5 : decode cX8_openScopes 5 = .ok (.aload_n 0, 1) := by decide +kernel
theorem dX8_openScopes_6 : decode cX8_openScopes 6 = .ok (.getfield 55, 3) := by decide +kernel
theorem dX8_openScopes_9 : decode cX8_openScopes 9 = .ok (.if_icmp .ge 26, 3) := by decide +kernel
theorem dX8_openScopes_12 : decode cX8_openScopes 12 = .ok (.iload_n 1, 1) := by decide +kernel
theorem dX8_openScopes_13 : decode cX8_openScopes 13 = .ok (.aload_n 0, 1) := by decide +kernel
theorem dX8_openScopes_14 : decode cX8_openScopes 14 = .ok (.getfield 18, 3) := by decide +kernel
theorem dX8_openScopes_17 : decode cX8_openScopes 17 = .ok (.iload_n 2, 1) := by decide +kernel
theorem dX8_openScopes_18 : decode cX8_openScopes 18 = .ok (.baload, 1) := by decide +kernel
theorem dX8_openScopes_19 : decode cX8_openScopes 19 = .ok (.ifCond .eq 7, 3) := by decide +kernel
theorem dX8_openScopes_22 : decode cX8_openScopes 22 = .ok (.iconst 1, 1) := by decide +kernel
theorem dX8_openScopes_23 : decode cX8_openScopes 23 = .ok (.goto 4, 3) := by decide +kernel
theorem dX8_openScopes_27 : decode cX8_openScopes 27 = .ok (.iadd, 1) := by decide +kernel
theorem dX8_openScopes_28 : decode cX8_openScopes 28 = .ok (.istore_n 1, 1) := by decide +kernel
theorem dX8_openScopes_29 : decode cX8_openScopes 29 = .ok (.iinc 2 1, 3) := by decide +kernel
theorem dX8_openScopes_32 : decode cX8_openScopes 32 = .ok (.goto (-28), 3) := by decide +kernel
theorem dX8_openScopes_35 : decode cX8_openScopes 35 = .ok (.iload_n 1, 1) := by decide +kernel
theorem dX8_openScopes_36 : decode cX8_openScopes 36 = .ok (.ireturn, 1) := by decide +kernel
theorem dX8_madeObjects_0 : decode cX8_madeObjects 0 = .ok (.iconst 0, 1) := by decide +kernel
theorem dX8_madeObjects_1 : decode cX8_madeObjects 1 = .ok (.istore_n 1, 1) := by decide +kernel
theorem dX8_madeObjects_2 : decode cX8_madeObjects 2 = .ok (.iconst 0, 1) := by decide +kernel
theorem dX8_madeObjects_3 : decode cX8_madeObjects 3 = .ok (.istore_n 2, 1) := by decide +kernel
theorem dX8_madeObjects_4 : decode cX8_madeObjects 4 = .ok (.iload_n 2, 1) := by decide +kernel
theorem dX8_madeObjects_5 : decode cX8_madeObjects 5 = .ok (.aload_n 0, 1) := by decide +kernel
theorem dX8_madeObjects_6 : decode cX8_madeObjects 6 = .ok (.getfield 63, 3) := by decide +kernel
theorem dX8_madeObjects_9 : decode cX8_madeObjects 9 = .ok (.if_icmp .ge 27, 3) := by decide +kernel
theorem dX8_madeObjects_36 : decode cX8_madeObjects 36 = .ok (.iload_n 1, 1) := by decide +kernel
theorem dX8_madeObjects_37 : decode cX8_madeObjects 37 = .ok (.ireturn, 1) := by decide +kernel
theorem dX8_has_0 : decode cX8_has 0 = .ok (.iload_n 1, 1) := by decide +kernel
theorem dX8_has_1 : decode cX8_has 1 = .ok (.ifCond .lt 15, 3) := by decide +kernel
theorem dX8_has_16 : decode cX8_has 16 = .ok (.iconst 0, 1) := by decide +kernel
theorem dX8_has_17 : decode cX8_has 17 = .ok (.ireturn, 1) := by decide +kernel
theorem dX8_has_4 : decode cX8_has 4 = .ok (.iload_n 1, 1) := by decide +kernel
theorem dX8_has_5 : decode cX8_has 5 = .ok (.aload_n 0, 1) := by decide +kernel
theorem dX8_has_6 : decode cX8_has 6 = .ok (.getfield 63, 3) := by decide +kernel
theorem dX8_has_9 : decode cX8_has 9 = .ok (.if_icmp .ge 7, 3) := by decide +kernel
theorem dX8_isMade_0 : decode cX8_isMade 0 = .ok (.aload_n 0, 1) := by decide +kernel
theorem dX8_isMade_1 : decode cX8_isMade 1 = .ok (.iload_n 1, 1) := by decide +kernel
theorem dX8_isMade_2 : decode cX8_isMade 2 = .ok (.invokevirtual 76, 3) := by decide +kernel
theorem dX8_isMade_5 : decode cX8_isMade 5 = .ok (.ifCond .eq 17, 3) := by decide +kernel
theorem dX8_isMade_22 : decode cX8_isMade 22 = .ok (.iconst 0, 1) := by decide +kernel
theorem dX8_isMade_23 : decode cX8_isMade 23 = .ok (.ireturn, 1) := by decide +kernel
theorem dX8_joinedTo_0 : decode cX8_joinedTo 0 = .ok (.aload_n 0, 1) := by decide +kernel
theorem dX8_joinedTo_1 : decode cX8_joinedTo 1 = .ok (.iload_n 1, 1) := by decide +kernel
theorem dX8_joinedTo_2 : decode cX8_joinedTo 2 = .ok (.invokevirtual 76, 3) := by decide +kernel
theorem dX8_joinedTo_5 : decode cX8_joinedTo 5 = .ok (.ifCond .eq 17, 3) := by decide +kernel
theorem dX8_joinedTo_22 : decode cX8_joinedTo 22 = .ok (.iconst (-1), 1) := by decide +kernel
theorem dX8_joinedTo_23 : decode cX8_joinedTo 23 = .ok (.ireturn, 1) := by decide +kernel
theorem dX7_noteCause_0 : decode cX7_noteCause 0 = .ok (.aload_n 0, 1) := by decide +kernel
theorem dX7_noteCause_1 : decode cX7_noteCause 1 = .ok (.iload_n 1, 1) := by decide +kernel
theorem dX7_noteCause_2 : decode cX7_noteCause 2 = .ok (.putfield 34, 3) := by decide +kernel
theorem dX7_noteCause_5 : decode cX7_noteCause 5 = .ok (.aload_n 0, 1) := by decide +kernel
theorem dX7_noteCause_6 : decode cX7_noteCause 6 = .ok (.iload_n 2, 1) := by decide +kernel
theorem dX7_noteCause_7 : decode cX7_noteCause 7 = .ok (.putfield 37, 3) := by decide +kernel
theorem dX7_noteCause_10 : decode cX7_noteCause 10 = .ok (.return_, 1) := by decide +kernel
theorem dX7_forgetThings_0 : decode cX7_forgetThings 0 = .ok (.aload_n 0, 1) := by decide +kernel
theorem dX7_forgetThings_1 : decode cX7_forgetThings 1 = .ok (.iconst 0, 1) := by decide +kernel
theorem dX7_forgetThings_2 : decode cX7_forgetThings 2 = .ok (.putfield 27, 3) := by decide +kernel
theorem dX7_forgetThings_5 : decode cX7_forgetThings 5 = .ok (.return_, 1) := by decide +kernel
theorem dX7_kindOfCause_0 : decode cX7_kindOfCause 0 = .ok (.iload_n 1, 1) := by decide +kernel
theorem dX7_kindOfCause_1 : decode cX7_kindOfCause 1 = .ok (.ifCond .lt 11, 3) := by decide +kernel
theorem dX7_kindOfCause_12 : decode cX7_kindOfCause 12 = .ok (.iconst 0, 1) := by decide +kernel
theorem dX7_kindOfCause_13 : decode cX7_kindOfCause 13 = .ok (.ireturn, 1) := by decide +kernel
theorem dX7_kindOfCause_4 : decode cX7_kindOfCause 4 = .ok (.iload_n 1, 1) := by decide +kernel
theorem dX7_kindOfCause_5 : decode cX7_kindOfCause 5 = .ok (.aload_n 0, 1) := by decide +kernel
theorem dX7_kindOfCause_6 : decode cX7_kindOfCause 6 = .ok (.getfield 34, 3) := by decide +kernel
theorem dX7_kindOfCause_9 : decode cX7_kindOfCause 9 = .ok (.if_icmp .le 5, 3) := by decide +kernel
theorem dX7_kindOfCause_14 : decode cX7_kindOfCause 14 = .ok (.iload_n 1, 1) := by decide +kernel
theorem dX7_kindOfCause_15 : decode cX7_kindOfCause 15 = .ok (.aload_n 0, 1) := by decide +kernel
theorem dX7_kindOfCause_16 : decode cX7_kindOfCause 16 = .ok (.getfield 34, 3) := by decide +kernel
theorem dX7_kindOfCause_19 : decode cX7_kindOfCause 19 = .ok (.if_icmp .ge 8, 3) := by decide +kernel
theorem dX7_kindOfCause_27 : decode cX7_kindOfCause 27 = .ok (.aload_n 0, 1) := by decide +kernel
theorem dX7_kindOfCause_28 : decode cX7_kindOfCause 28 = .ok (.getfield 37, 3) := by decide +kernel
theorem dX7_kindOfCause_31 : decode cX7_kindOfCause 31 = .ok (.ireturn, 1) := by decide +kernel
theorem dX7_ofThing_0 : decode cX7_ofThing 0 = .ok (.iload_n 1, 1) := by decide +kernel
theorem dX7_ofThing_1 : decode cX7_ofThing 1 = .ok (.ifCond .lt 11, 3) := by decide +kernel
theorem dX7_ofThing_12 : decode cX7_ofThing 12 = .ok (.iconst (-1), 1) := by decide +kernel
theorem dX7_ofThing_13 : decode cX7_ofThing 13 = .ok (.ireturn, 1) := by decide +kernel
theorem dX7_ofThing_4 : decode cX7_ofThing 4 = .ok (.iload_n 1, 1) := by decide +kernel
theorem dX7_ofThing_5 : decode cX7_ofThing 5 = .ok (.aload_n 0, 1) := by decide +kernel
theorem dX7_ofThing_6 : decode cX7_ofThing 6 = .ok (.getfield 27, 3) := by decide +kernel
theorem dX7_ofThing_9 : decode cX7_ofThing 9 = .ok (.if_icmp .lt 5, 3) := by decide +kernel
theorem dX7_ofClosing_0 : decode cX7_ofClosing 0 = .ok (.iload_n 1, 1) := by decide +kernel
theorem dX7_ofClosing_1 : decode cX7_ofClosing 1 = .ok (.ifCond .lt 11, 3) := by decide +kernel
theorem dX7_ofClosing_12 : decode cX7_ofClosing 12 = .ok (.iconst (-1), 1) := by decide +kernel
theorem dX7_ofClosing_13 : decode cX7_ofClosing 13 = .ok (.ireturn, 1) := by decide +kernel
theorem dX7_ofClosing_4 : decode cX7_ofClosing 4 = .ok (.iload_n 1, 1) := by decide +kernel
theorem dX7_ofClosing_5 : decode cX7_ofClosing 5 = .ok (.aload_n 0, 1) := by decide +kernel
theorem dX7_ofClosing_6 : decode cX7_ofClosing 6 = .ok (.getfield 31, 3) := by decide +kernel
theorem dX7_ofClosing_9 : decode cX7_ofClosing 9 = .ok (.if_icmp .lt 5, 3) := by decide +kernel
theorem dX2_tells_0 : decode cX2_tells 0 = .ok (.iload_n 1, 1) := by decide +kernel
theorem dX2_tells_1 : decode cX2_tells 1 = .ok (.ifCond .lt 21, 3) := by decide +kernel
theorem dX2_tells_22 : decode cX2_tells 22 = .ok (.iconst 0, 1) := by decide +kernel
theorem dX2_tells_23 : decode cX2_tells 23 = .ok (.ireturn, 1) := by decide +kernel
theorem dX2_tells_4 : decode cX2_tells 4 = .ok (.iload_n 1, 1) := by decide +kernel
theorem dX2_tells_5 : decode cX2_tells 5 = .ok (.aload_n 0, 1) := by decide +kernel
theorem dX2_tells_6 : decode cX2_tells 6 = .ok (.getfield 30, 3) := by decide +kernel
theorem dX2_tells_9 : decode cX2_tells 9 = .ok (.if_icmp .ge 13, 3) := by decide +kernel
theorem dX2_tell_0 : decode cX2_tell 0 = .ok (.aload_n 0, 1) := by decide +kernel
theorem dX2_tell_1 : decode cX2_tell 1 = .ok (.iload_n 1, 1) := by decide +kernel
theorem dX2_tell_2 : decode cX2_tell 2 = .ok (.invokevirtual 109, 3) := by decide +kernel
theorem dX2_tell_5 : decode cX2_tell 5 = .ok (.ifCond .ne 5, 3) := by decide +kernel
theorem dX2_tell_8 : decode cX2_tell 8 = .ok (.iconst (-1), 1) := by decide +kernel
theorem dX2_tell_9 : decode cX2_tell 9 = .ok (.ireturn, 1) := by decide +kernel
theorem dX2_onRing_0 : decode cX2_onRing 0 = .ok (.aload_n 0, 1) := by decide +kernel
theorem dX2_onRing_1 : decode cX2_onRing 1 = .ok (.iload_n 1, 1) := by decide +kernel
theorem dX2_onRing_2 : decode cX2_onRing 2 = .ok (.invokevirtual 109, 3) := by decide +kernel
theorem dX2_onRing_5 : decode cX2_onRing 5 = .ok (.ifCond .eq 17, 3) := by decide +kernel
theorem dX2_onRing_22 : decode cX2_onRing 22 = .ok (.iconst 0, 1) := by decide +kernel
theorem dX2_onRing_23 : decode cX2_onRing 23 = .ok (.istore_n 3, 1) := by decide +kernel
theorem dX2_onRing_24 : decode cX2_onRing 24 = .ok (.iload_n 3, 1) := by decide +kernel
theorem dX2_onRing_25 : decode cX2_onRing 25 = .ok (.ifCond .eq 31, 3) := by decide +kernel
theorem dX2_onRing_56 : decode cX2_onRing 56 = .ok (.iconst (-1), 1) := by decide +kernel
theorem dX2_onRing_57 : decode cX2_onRing 57 = .ok (.ireturn, 1) := by decide +kernel
theorem dX2_examine_0 : decode cX2_examine 0 = .ok (.aload_n 0, 1) := by decide +kernel
theorem dX2_examine_1 : decode cX2_examine 1 = .ok (.aload_n 1, 1) := by decide +kernel
theorem dX2_examine_2 : decode cX2_examine 2 = .ok (.putfield 34, 3) := by decide +kernel
theorem dX2_examine_5 : decode cX2_examine 5 = .ok (.aload_n 0, 1) := by decide +kernel
theorem dX2_examine_6 : decode cX2_examine 6 = .ok (.iconst 0, 1) := by decide +kernel
theorem dX2_examine_7 : decode cX2_examine 7 = .ok (.putfield 30, 3) := by decide +kernel
theorem dX2_examine_10 : decode cX2_examine 10 = .ok (.iconst 0, 1) := by decide +kernel
theorem dX2_examine_11 : decode cX2_examine 11 = .ok (.istore_n 2, 1) := by decide +kernel
theorem dX2_examine_12 : decode cX2_examine 12 = .ok (.iload_n 2, 1) := by decide +kernel
theorem dX2_examine_13 : decode cX2_examine 13 = .ok (.aload_n 0, 1) := by decide +kernel
theorem dX2_examine_14 : decode cX2_examine 14 = .ok (.getfield 34, 3) := by decide +kernel
theorem dX2_examine_17 : decode cX2_examine 17 = .ok (.getfield 38, 3) := by decide +kernel
theorem dX2_examine_20 : decode cX2_examine 20 = .ok (.getfield 44, 3) := by decide +kernel
theorem dX2_examine_23 : decode cX2_examine 23 = .ok (.if_icmp .ge 25, 3) := by decide +kernel
theorem dX2_examine_48 : decode cX2_examine 48 = .ok (.aload_n 0, 1) := by decide +kernel
theorem dX2_examine_49 : decode cX2_examine 49 = .ok (.getfield 27, 3) := by decide +kernel
theorem dX2_examine_52 : decode cX2_examine 52 = .ok (.iconst (-1), 1) := by decide +kernel
theorem dX2_examine_53 : decode cX2_examine 53 = .ok (.invokestatic 57, 3) := by decide +kernel
theorem dX2_examine_56 : decode cX2_examine 56 = .ok (.iconst 0, 1) := by decide +kernel
theorem dX2_examine_57 : decode cX2_examine 57 = .ok (.istore_n 2, 1) := by decide +kernel
theorem dX2_examine_58 : decode cX2_examine 58 = .ok (.iload_n 2, 1) := by decide +kernel
theorem dX2_examine_59 : decode cX2_examine 59 = .ok (.aload_n 0, 1) := by decide +kernel
theorem dX2_examine_60 : decode cX2_examine 60 = .ok (.getfield 34, 3) := by decide +kernel
theorem dX2_examine_63 : decode cX2_examine 63 = .ok (.getfield 38, 3) := by decide +kernel
theorem dX2_examine_66 : decode cX2_examine 66 = .ok (.getfield 44, 3) := by decide +kernel
theorem dX2_examine_69 : decode cX2_examine 69 = .ok (.if_icmp .ge 36, 3) := by decide +kernel
theorem dX2_examine_105 : decode cX2_examine 105 = .ok (.aload_n 0, 1) := by decide +kernel
theorem dX2_examine_106 : decode cX2_examine 106 = .ok (.getfield 30, 3) := by decide +kernel
theorem dX2_examine_109 : decode cX2_examine 109 = .ok (.ireturn, 1) := by decide +kernel
theorem dX0_has_0 : decode cX0_has 0 = .ok (.iload_n 1, 1) := by decide +kernel
theorem dX0_has_1 : decode cX0_has 1 = .ok (.ifCond .lt 18, 3) := by decide +kernel
theorem dX0_has_19 : decode cX0_has 19 = .ok (.iconst 0, 1) := by decide +kernel
theorem dX0_has_20 : decode cX0_has 20 = .ok (.ireturn, 1) := by decide +kernel
theorem dX0_has_4 : decode cX0_has 4 = .ok (.iload_n 1, 1) := by decide +kernel
theorem dX0_has_5 : decode cX0_has 5 = .ok (.aload_n 0, 1) := by decide +kernel
theorem dX0_has_6 : decode cX0_has 6 = .ok (.getfield 23, 3) := by decide +kernel
theorem dX0_has_9 : decode cX0_has 9 = .ok (.getfield 59, 3) := by decide +kernel
theorem dX0_has_12 : decode cX0_has 12 = .ok (.if_icmp .ge 7, 3) := by decide +kernel
theorem dX11_ends_0 : decode cX11_ends 0 = .ok (.aload_n 0, 1) := by decide +kernel
theorem dX11_ends_1 : decode cX11_ends 1 = .ok (.iload_n 1, 1) := by decide +kernel
theorem dX11_ends_2 : decode cX11_ends 2 = .ok (.putfield 93, 3) := by decide +kernel
theorem dX11_ends_5 : decode cX11_ends 5 = .ok (.iload_n 2, 1) := by decide +kernel
theorem dX11_ends_6 : decode cX11_ends 6 = .ok (.ireturn, 1) := by decide +kernel
abbrev r_c_isOpen0 : Room := { frames := 0, cells := 0, slots := 0, locals := 0 }
abbrev q_c_isOpen0 (D : va_G) (sk : Nat) (s0 : Nat) (s1 : Nat) (s2 : Nat) (s3 : Nat) (s4 : Nat) (s5 : Nat) (s6 : Nat) (s7 : Nat) (s8 : Nat) (s9 : Nat) (s10 : Nat) (s11 : Nat) (ks2 : ClassId) (A : Nat → Prop) : Array Value → State → Outcome → State → Prop := va_Qi (fun (r : Int32) (_ : Unit) => r = 1) (fun u t => gq D A ((fun (_ : Unit) => [(sk, .inr (8, [.ref s0, .ref s1, .ref s2, .ref s3, .ref s4, .ref s5, .ref s6, .ref s7, .ref s8, .ref s9, .ref s10, .ref s11, .int 1, .int 0, .int 0, .int 0])), (s2, .inl (ks2, 40, .inl (upd (fun _ => 0) 0 1)))]) u) ((fun (_ : Unit) => ([(ks2, .boolean)] : List (ClassId × FieldType))) u) t) A
set_option maxHeartbeats 4000000 in
set_option maxRecDepth 100000 in
theorem c_isOpen0 (l : Launch) (D : va_G) (ks : Nat × Nat × Option Nat) (sz : Nat) (sk : Nat) (s0 : Nat) (s1 : Nat) (s2 : Nat) (s3 : Nat) (s4 : Nat) (s5 : Nat) (s6 : Nat) (s7 : Nat) (s8 : Nat) (s9 : Nat) (s10 : Nat) (s11 : Nat) (ks2 : ClassId) : Met l yX8_isOpen (Cond.code yX8_isOpen cX8_isOpen 2 (some .boolean) :: GW) r_c_isOpen0 (va_Pc [.ref sk, .int 0] (gp D ks [(sk, .inr (8, [.ref s0, .ref s1, .ref s2, .ref s3, .ref s4, .ref s5, .ref s6, .ref s7, .ref s8, .ref s9, .ref s10, .ref s11, .int 1, .int 0, .int 0, .int 0])), (s2, .inl (ks2, 40, .inl (upd (fun _ => 0) 0 1)))] [(ks2, .boolean)] sz)) (q_c_isOpen0 D sk s0 s1 s2 s3 s4 s5 s6 s7 s8 s9 s10 s11 ks2 (va_A [(sk, .inr (8, [.ref s0, .ref s1, .ref s2, .ref s3, .ref s4, .ref s5, .ref s6, .ref s7, .ref s8, .ref s9, .ref s10, .ref s11, .int 1, .int 0, .int 0, .int 0])), (s2, .inl (ks2, 40, .inl (upd (fun _ => 0) 0 1)))] sz)) 0 0 (va_A [(sk, .inr (8, [.ref s0, .ref s1, .ref s2, .ref s3, .ref s4, .ref s5, .ref s6, .ref s7, .ref s8, .ref s9, .ref s10, .ref s11, .int 1, .int 0, .int 0, .int 0])), (s2, .inl (ks2, 40, .inl (upd (fun _ => 0) 0 1)))] sz) := by
  refine g_met (q_c_isOpen0 D sk s0 s1 s2 s3 s4 s5 s6 s7 s8 s9 s10 s11 ks2) (by decide) (Nat.le_of_ble_eq_true rfl) ?_
  intro p e s m below meth c A ls H locs hx hb hr hml hown hg hlocks hin hnw hgk hP hK hD hS hA hl
  have hown : s.vm.findClass RX8 = some m.cls := hown
  have hl : lv_has ls 2 [(0, .ref sk), (1, .int 0)] := hl
  refine lv_iload_n hx hb dX8_isOpen_0 rfl (lv_at hl 1 rfl) ?_
  refine lv_if_lt (tgt := 25) hx hb dX8_isOpen_1 (by decide) (fun q => absurd q (by decide)) (fun _ => ?_)
  refine lv_iload_n hx hb dX8_isOpen_4 rfl (lv_at hl 1 rfl) ?_
  refine lv_aload_n hx hb dX8_isOpen_5 rfl (lv_at hl 0 rfl) ?_
  refine va_get (D := D) (ci := 8) (v := .int 1) (C := RX8) (T := TX8) (N := 16) hx hb hg inX8 hown hK hP 0 rfl rfl 12 (by decide) (hg _ w390) (fun _ h9 => h9) rfl dX8_isOpen_6 ?_
  refine lv_icmp_ge (tgt := 25) hx hb dX8_isOpen_9 (by decide) (fun q => absurd q (by decide)) (fun _ => ?_)
  refine lv_aload_n hx hb dX8_isOpen_12 rfl (lv_at hl 0 rfl) ?_
  refine va_get (D := D) (ci := 8) (v := .ref s2) (C := RX8) (T := TX8) (N := 16) hx hb hg inX8 hown hK hP 0 rfl rfl 2 (by decide) (hg _ w376) (fun _ h9 => h9) rfl dX8_isOpen_13 ?_
  refine lv_iload_n hx hb dX8_isOpen_16 rfl (lv_at hl 1 rfl) ?_
  refine va_zald (D := D) (i := 0) hx hb hK hP 1 0 rfl rfl (vp_in_nI (n := 0) (N := 40) (by decide) (by decide)) dX8_isOpen_17 ?_
  refine g_top (v := 1) (by decide) ?_
  refine lv_if_eq (tgt := 25) hx hb dX8_isOpen_18 (by decide) (fun q => absurd q (by decide)) (fun _ => ?_)
  refine lv_iconst (v := 1) hx hb dX8_isOpen_21 (by decide) ?_
  refine lv_goto (tgt := 26) hx hb dX8_isOpen_22 (by decide) ?_
  refine W.widen (k := 0) (n := 0) (Nat.le_of_ble_eq_true rfl) (Nat.le_of_ble_eq_true rfl) ?_
  have hP9 := hP.sub (ws' := [(sk, .inr (8, [.ref s0, .ref s1, .ref s2, .ref s3, .ref s4, .ref s5, .ref s6, .ref s7, .ref s8, .ref s9, .ref s10, .ref s11, .int 1, .int 0, .int 0, .int 0])), (s2, .inl (ks2, 40, .inl (upd (fun _ => 0) 0 1)))]) [0, 1] rfl
  have hD9 := hD.sub (ws' := [(sk, .inr (8, [.ref s0, .ref s1, .ref s2, .ref s3, .ref s4, .ref s5, .ref s6, .ref s7, .ref s8, .ref s9, .ref s10, .ref s11, .int 1, .int 0, .int 0, .int 0])), (s2, .inl (ks2, 40, .inl (upd (fun _ => 0) 0 1)))]) [0, 1] (by decide) rfl
  have hK9 := hK.sub (tys' := [(ks2, .boolean)]) [0] rfl
  exact W.zret (v := 1) hx hb hr rfl (fun t ht hW => ⟨⟨1, (), rfl, (by first | rfl | trivial | assumption | decide), by rw [ht]; exact hP9, va_K.moved hW.alike hK9, hD9⟩, hS.F ht⟩) hS.2.2 dX8_isOpen_26
abbrev r_c_isOpenN : Room := { frames := 0, cells := 0, slots := 0, locals := 0 }
abbrev q_c_isOpenN (D : va_G) (sk : Nat) (s0 : Nat) (s1 : Nat) (s2 : Nat) (s3 : Nat) (s4 : Nat) (s5 : Nat) (s6 : Nat) (s7 : Nat) (s8 : Nat) (s9 : Nat) (s10 : Nat) (s11 : Nat) (ks2 : ClassId) (p0 : Int32) (A : Nat → Prop) : Array Value → State → Outcome → State → Prop := va_Qi (fun (r : Int32) (_ : Unit) => r = 0) (fun u t => gq D A ((fun (_ : Unit) => [(sk, .inr (8, [.ref s0, .ref s1, .ref s2, .ref s3, .ref s4, .ref s5, .ref s6, .ref s7, .ref s8, .ref s9, .ref s10, .ref s11, .int 1, .int 0, .int 0, .int 0])), (s2, .inl (ks2, 40, .inl (upd (fun _ => 0) 0 1)))]) u) ((fun (_ : Unit) => ([(ks2, .boolean)] : List (ClassId × FieldType))) u) t) A
set_option maxHeartbeats 4000000 in
set_option maxRecDepth 100000 in
theorem c_isOpenN (l : Launch) (D : va_G) (ks : Nat × Nat × Option Nat) (sz : Nat) (sk : Nat) (s0 : Nat) (s1 : Nat) (s2 : Nat) (s3 : Nat) (s4 : Nat) (s5 : Nat) (s6 : Nat) (s7 : Nat) (s8 : Nat) (s9 : Nat) (s10 : Nat) (s11 : Nat) (ks2 : ClassId) (p0 : Int32) (h0 : ¬ p0 = 0) : Met l yX8_isOpen (Cond.code yX8_isOpen cX8_isOpen 2 (some .boolean) :: GW) r_c_isOpenN (va_Pc [.ref sk, .int p0] (gp D ks [(sk, .inr (8, [.ref s0, .ref s1, .ref s2, .ref s3, .ref s4, .ref s5, .ref s6, .ref s7, .ref s8, .ref s9, .ref s10, .ref s11, .int 1, .int 0, .int 0, .int 0])), (s2, .inl (ks2, 40, .inl (upd (fun _ => 0) 0 1)))] [(ks2, .boolean)] sz)) (q_c_isOpenN D sk s0 s1 s2 s3 s4 s5 s6 s7 s8 s9 s10 s11 ks2 p0 (va_A [(sk, .inr (8, [.ref s0, .ref s1, .ref s2, .ref s3, .ref s4, .ref s5, .ref s6, .ref s7, .ref s8, .ref s9, .ref s10, .ref s11, .int 1, .int 0, .int 0, .int 0])), (s2, .inl (ks2, 40, .inl (upd (fun _ => 0) 0 1)))] sz)) 0 0 (va_A [(sk, .inr (8, [.ref s0, .ref s1, .ref s2, .ref s3, .ref s4, .ref s5, .ref s6, .ref s7, .ref s8, .ref s9, .ref s10, .ref s11, .int 1, .int 0, .int 0, .int 0])), (s2, .inl (ks2, 40, .inl (upd (fun _ => 0) 0 1)))] sz) := by
  refine g_met (q_c_isOpenN D sk s0 s1 s2 s3 s4 s5 s6 s7 s8 s9 s10 s11 ks2 p0) (by decide) (Nat.le_of_ble_eq_true rfl) ?_
  intro p e s m below meth c A ls H locs hx hb hr hml hown hg hlocks hin hnw hgk hP hK hD hS hA hl
  have hown : s.vm.findClass RX8 = some m.cls := hown
  have hl : lv_has ls 2 [(0, .ref sk), (1, .int p0)] := hl
  refine lv_iload_n hx hb dX8_isOpen_0 rfl (lv_at hl 1 rfl) ?_
  refine lv_if_lt (tgt := 25) hx hb dX8_isOpen_1 (by decide) (fun vc1 => ?_) (fun vc1 => ?_)
  · skip
    refine lv_iconst (v := 0) hx hb dX8_isOpen_25 (by decide) ?_
    refine W.widen (k := 0) (n := 0) (Nat.le_of_ble_eq_true rfl) (Nat.le_of_ble_eq_true rfl) ?_
    have hP9 := hP.sub (ws' := [(sk, .inr (8, [.ref s0, .ref s1, .ref s2, .ref s3, .ref s4, .ref s5, .ref s6, .ref s7, .ref s8, .ref s9, .ref s10, .ref s11, .int 1, .int 0, .int 0, .int 0])), (s2, .inl (ks2, 40, .inl (upd (fun _ => 0) 0 1)))]) [0, 1] rfl
    have hD9 := hD.sub (ws' := [(sk, .inr (8, [.ref s0, .ref s1, .ref s2, .ref s3, .ref s4, .ref s5, .ref s6, .ref s7, .ref s8, .ref s9, .ref s10, .ref s11, .int 1, .int 0, .int 0, .int 0])), (s2, .inl (ks2, 40, .inl (upd (fun _ => 0) 0 1)))]) [0, 1] (by decide) rfl
    have hK9 := hK.sub (tys' := [(ks2, .boolean)]) [0] rfl
    exact W.zret (v := 0) hx hb hr rfl (fun t ht hW => ⟨⟨0, (), rfl, (by first | rfl | trivial | assumption | decide), by rw [ht]; exact hP9, va_K.moved hW.alike hK9, hD9⟩, hS.F ht⟩) hS.2.2 dX8_isOpen_26
  · skip
    refine lv_iload_n hx hb dX8_isOpen_4 rfl (lv_at hl 1 rfl) ?_
    refine lv_aload_n hx hb dX8_isOpen_5 rfl (lv_at hl 0 rfl) ?_
    refine va_get (D := D) (ci := 8) (v := .int 1) (C := RX8) (T := TX8) (N := 16) hx hb hg inX8 hown hK hP 0 rfl rfl 12 (by decide) (hg _ w390) (fun _ h9 => h9) rfl dX8_isOpen_6 ?_
    refine lv_icmp_ge (tgt := 25) hx hb dX8_isOpen_9 (by decide) (fun _ => ?_) (fun q => absurd (i_ge1 vc1 h0) q)
    refine lv_iconst (v := 0) hx hb dX8_isOpen_25 (by decide) ?_
    refine W.widen (k := 0) (n := 0) (Nat.le_of_ble_eq_true rfl) (Nat.le_of_ble_eq_true rfl) ?_
    have hP9 := hP.sub (ws' := [(sk, .inr (8, [.ref s0, .ref s1, .ref s2, .ref s3, .ref s4, .ref s5, .ref s6, .ref s7, .ref s8, .ref s9, .ref s10, .ref s11, .int 1, .int 0, .int 0, .int 0])), (s2, .inl (ks2, 40, .inl (upd (fun _ => 0) 0 1)))]) [0, 1] rfl
    have hD9 := hD.sub (ws' := [(sk, .inr (8, [.ref s0, .ref s1, .ref s2, .ref s3, .ref s4, .ref s5, .ref s6, .ref s7, .ref s8, .ref s9, .ref s10, .ref s11, .int 1, .int 0, .int 0, .int 0])), (s2, .inl (ks2, 40, .inl (upd (fun _ => 0) 0 1)))]) [0, 1] (by decide) rfl
    have hK9 := hK.sub (tys' := [(ks2, .boolean)]) [0] rfl
    exact W.zret (v := 0) hx hb hr rfl (fun t ht hW => ⟨⟨0, (), rfl, (by first | rfl | trivial | assumption | decide), by rw [ht]; exact hP9, va_K.moved hW.alike hK9, hD9⟩, hS.F ht⟩) hS.2.2 dX8_isOpen_26
abbrev r_c_isOpen_shut : Room := { frames := 0, cells := 0, slots := 0, locals := 0 }
abbrev q_c_isOpen_shut (D : va_G) (sk : Nat) (s0 : Nat) (s1 : Nat) (s2 : Nat) (s3 : Nat) (s4 : Nat) (s5 : Nat) (s6 : Nat) (s7 : Nat) (s8 : Nat) (s9 : Nat) (s10 : Nat) (s11 : Nat) (ks2 : ClassId) (fo : Nat → Int32) (A : Nat → Prop) : Array Value → State → Outcome → State → Prop := va_Qi (fun (r : Int32) (_ : Unit) => r = 0) (fun u t => gq D A ((fun (_ : Unit) => [(sk, .inr (8, [.ref s0, .ref s1, .ref s2, .ref s3, .ref s4, .ref s5, .ref s6, .ref s7, .ref s8, .ref s9, .ref s10, .ref s11, .int 1, .int 0, .int 0, .int 0])), (s2, .inl (ks2, 40, .inl (fo)))]) u) ((fun (_ : Unit) => ([(ks2, .boolean)] : List (ClassId × FieldType))) u) t) A
set_option maxHeartbeats 4000000 in
set_option maxRecDepth 100000 in
theorem c_isOpen_shut (l : Launch) (D : va_G) (ks : Nat × Nat × Option Nat) (sz : Nat) (sk : Nat) (s0 : Nat) (s1 : Nat) (s2 : Nat) (s3 : Nat) (s4 : Nat) (s5 : Nat) (s6 : Nat) (s7 : Nat) (s8 : Nat) (s9 : Nat) (s10 : Nat) (s11 : Nat) (ks2 : ClassId) (fo : Nat → Int32) (h00 : fo 0 = 0) : Met l yX8_isOpen (Cond.code yX8_isOpen cX8_isOpen 2 (some .boolean) :: GW) r_c_isOpen_shut (va_Pc [.ref sk, .int 0] (gp D ks [(sk, .inr (8, [.ref s0, .ref s1, .ref s2, .ref s3, .ref s4, .ref s5, .ref s6, .ref s7, .ref s8, .ref s9, .ref s10, .ref s11, .int 1, .int 0, .int 0, .int 0])), (s2, .inl (ks2, 40, .inl (fo)))] [(ks2, .boolean)] sz)) (q_c_isOpen_shut D sk s0 s1 s2 s3 s4 s5 s6 s7 s8 s9 s10 s11 ks2 fo (va_A [(sk, .inr (8, [.ref s0, .ref s1, .ref s2, .ref s3, .ref s4, .ref s5, .ref s6, .ref s7, .ref s8, .ref s9, .ref s10, .ref s11, .int 1, .int 0, .int 0, .int 0])), (s2, .inl (ks2, 40, .inl (fo)))] sz)) 0 0 (va_A [(sk, .inr (8, [.ref s0, .ref s1, .ref s2, .ref s3, .ref s4, .ref s5, .ref s6, .ref s7, .ref s8, .ref s9, .ref s10, .ref s11, .int 1, .int 0, .int 0, .int 0])), (s2, .inl (ks2, 40, .inl (fo)))] sz) := by
  refine g_met (q_c_isOpen_shut D sk s0 s1 s2 s3 s4 s5 s6 s7 s8 s9 s10 s11 ks2 fo) (by decide) (Nat.le_of_ble_eq_true rfl) ?_
  intro p e s m below meth c A ls H locs hx hb hr hml hown hg hlocks hin hnw hgk hP hK hD hS hA hl
  have hown : s.vm.findClass RX8 = some m.cls := hown
  have hl : lv_has ls 2 [(0, .ref sk), (1, .int 0)] := hl
  refine lv_iload_n hx hb dX8_isOpen_0 rfl (lv_at hl 1 rfl) ?_
  refine lv_if_lt (tgt := 25) hx hb dX8_isOpen_1 (by decide) (fun q => absurd q (by decide)) (fun _ => ?_)
  refine lv_iload_n hx hb dX8_isOpen_4 rfl (lv_at hl 1 rfl) ?_
  refine lv_aload_n hx hb dX8_isOpen_5 rfl (lv_at hl 0 rfl) ?_
  refine va_get (D := D) (ci := 8) (v := .int 1) (C := RX8) (T := TX8) (N := 16) hx hb hg inX8 hown hK hP 0 rfl rfl 12 (by decide) (hg _ w390) (fun _ h9 => h9) rfl dX8_isOpen_6 ?_
  refine lv_icmp_ge (tgt := 25) hx hb dX8_isOpen_9 (by decide) (fun q => absurd q (by decide)) (fun _ => ?_)
  refine lv_aload_n hx hb dX8_isOpen_12 rfl (lv_at hl 0 rfl) ?_
  refine va_get (D := D) (ci := 8) (v := .ref s2) (C := RX8) (T := TX8) (N := 16) hx hb hg inX8 hown hK hP 0 rfl rfl 2 (by decide) (hg _ w376) (fun _ h9 => h9) rfl dX8_isOpen_13 ?_
  refine lv_iload_n hx hb dX8_isOpen_16 rfl (lv_at hl 1 rfl) ?_
  refine va_zald (D := D) (i := 0) hx hb hK hP 1 0 rfl rfl (vp_in_nI (n := 0) (N := 40) (by decide) (by decide)) dX8_isOpen_17 ?_
  refine lv_if_eq (tgt := 25) hx hb dX8_isOpen_18 (by decide) (fun _ => ?_) (fun q => absurd (show fo (Int32.toNatClampNeg 0) = 0 from h00) q)
  refine lv_iconst (v := 0) hx hb dX8_isOpen_25 (by decide) ?_
  refine W.widen (k := 0) (n := 0) (Nat.le_of_ble_eq_true rfl) (Nat.le_of_ble_eq_true rfl) ?_
  have hP9 := hP.sub (ws' := [(sk, .inr (8, [.ref s0, .ref s1, .ref s2, .ref s3, .ref s4, .ref s5, .ref s6, .ref s7, .ref s8, .ref s9, .ref s10, .ref s11, .int 1, .int 0, .int 0, .int 0])), (s2, .inl (ks2, 40, .inl (fo)))]) [0, 1] rfl
  have hD9 := hD.sub (ws' := [(sk, .inr (8, [.ref s0, .ref s1, .ref s2, .ref s3, .ref s4, .ref s5, .ref s6, .ref s7, .ref s8, .ref s9, .ref s10, .ref s11, .int 1, .int 0, .int 0, .int 0])), (s2, .inl (ks2, 40, .inl (fo)))]) [0, 1] (by decide) rfl
  have hK9 := hK.sub (tys' := [(ks2, .boolean)]) [0] rfl
  exact W.zret (v := 0) hx hb hr rfl (fun t ht hW => ⟨⟨0, (), rfl, (by first | rfl | trivial | assumption | decide), by rw [ht]; exact hP9, va_K.moved hW.alike hK9, hD9⟩, hS.F ht⟩) hS.2.2 dX8_isOpen_26
abbrev r_c_shut0 : Room := { frames := 0, cells := 0, slots := 0, locals := 0 }
abbrev q_c_shut0 (D : va_G) (sk : Nat) (s0 : Nat) (s1 : Nat) (s2 : Nat) (s3 : Nat) (s4 : Nat) (s5 : Nat) (s6 : Nat) (s7 : Nat) (s8 : Nat) (s9 : Nat) (s10 : Nat) (s11 : Nat) (ks2 : ClassId) (ks3 : ClassId) (A : Nat → Prop) : Array Value → State → Outcome → State → Prop := va_Qv (fun (u : Nat → Int32) => u 0 = 0) (fun u t => gq D A ((fun (u : Nat → Int32) => [(sk, .inr (8, [.ref s0, .ref s1, .ref s2, .ref s3, .ref s4, .ref s5, .ref s6, .ref s7, .ref s8, .ref s9, .ref s10, .ref s11, .int 1, .int 0, .int 0, .int 0])), (s2, .inl (ks2, 40, .inl (u)))]) u) ((fun (u : Nat → Int32) => ([(ks2, .boolean)] : List (ClassId × FieldType))) u) t) A
set_option maxHeartbeats 4000000 in
set_option maxRecDepth 100000 in
theorem c_shut0 (l : Launch) (D : va_G) (ks : Nat × Nat × Option Nat) (sz : Nat) (sk : Nat) (s0 : Nat) (s1 : Nat) (s2 : Nat) (s3 : Nat) (s4 : Nat) (s5 : Nat) (s6 : Nat) (s7 : Nat) (s8 : Nat) (s9 : Nat) (s10 : Nat) (s11 : Nat) (ks2 : ClassId) (ks3 : ClassId) : Met l yX8_shut (Cond.code yX8_shut cX8_shut 2 none :: GW) r_c_shut0 (va_Pc [.ref sk, .int 0] (gp D ks [(sk, .inr (8, [.ref s0, .ref s1, .ref s2, .ref s3, .ref s4, .ref s5, .ref s6, .ref s7, .ref s8, .ref s9, .ref s10, .ref s11, .int 1, .int 0, .int 0, .int 0])), (s2, .inl (ks2, 40, .inl (upd (fun _ => 0) 0 1))), (s3, .inl (ks3, 40, .inl (fun _ => 0)))] [(ks2, .boolean), (ks3, .int)] sz)) (q_c_shut0 D sk s0 s1 s2 s3 s4 s5 s6 s7 s8 s9 s10 s11 ks2 ks3 (va_A [(sk, .inr (8, [.ref s0, .ref s1, .ref s2, .ref s3, .ref s4, .ref s5, .ref s6, .ref s7, .ref s8, .ref s9, .ref s10, .ref s11, .int 1, .int 0, .int 0, .int 0])), (s2, .inl (ks2, 40, .inl (upd (fun _ => 0) 0 1))), (s3, .inl (ks3, 40, .inl (fun _ => 0)))] sz)) 0 0 (va_A [(sk, .inr (8, [.ref s0, .ref s1, .ref s2, .ref s3, .ref s4, .ref s5, .ref s6, .ref s7, .ref s8, .ref s9, .ref s10, .ref s11, .int 1, .int 0, .int 0, .int 0])), (s2, .inl (ks2, 40, .inl (upd (fun _ => 0) 0 1))), (s3, .inl (ks3, 40, .inl (fun _ => 0)))] sz) := by
  refine g_met (q_c_shut0 D sk s0 s1 s2 s3 s4 s5 s6 s7 s8 s9 s10 s11 ks2 ks3) (by decide) (Nat.le_of_ble_eq_true rfl) ?_
  intro p e s m below meth c A ls H locs hx hb hr hml hown hg hlocks hin hnw hgk hP hK hD hS hA hl
  have hown : s.vm.findClass RX8 = some m.cls := hown
  have hl : lv_has ls 2 [(0, .ref sk), (1, .int 0)] := hl
  refine lv_aload_n hx hb dX8_shut_0 rfl (lv_at hl 0 rfl) ?_
  refine va_get (D := D) (ci := 8) (v := .ref s2) (C := RX8) (T := TX8) (N := 16) hx hb hg inX8 hown hK hP 0 rfl rfl 2 (by decide) (hg _ w376) (fun _ h9 => h9) rfl dX8_shut_1 ?_
  refine lv_iload_n hx hb dX8_shut_4 rfl (lv_at hl 1 rfl) ?_
  refine lv_iconst (v := 0) hx hb dX8_shut_5 (by decide) ?_
  refine va_zast (D := D) (i := 0) (x := 0) hx hb hK hP hD hS 1 0 rfl rfl (vp_in_nI (n := 0) (N := 40) (by decide) (by decide)) dX8_shut_6 (fun H locs hP hD hS => ?_)
  obtain ⟨vf1, hP, hD, hvf1⟩ : ∃ vf1 : Nat → Int32, va_P D vwCl [(sk, .inr (8, [.ref s0, .ref s1, .ref s2, .ref s3, .ref s4, .ref s5, .ref s6, .ref s7, .ref s8, .ref s9, .ref s10, .ref s11, .int 1, .int 0, .int 0, .int 0])), (s2, .inl (ks2, 40, .inl (vf1))), (s3, .inl (ks3, 40, .inl (fun _ => 0)))] H ∧ va_D A [(sk, .inr (8, [.ref s0, .ref s1, .ref s2, .ref s3, .ref s4, .ref s5, .ref s6, .ref s7, .ref s8, .ref s9, .ref s10, .ref s11, .int 1, .int 0, .int 0, .int 0])), (s2, .inl (ks2, 40, .inl (vf1))), (s3, .inl (ks3, 40, .inl (fun _ => 0)))] ∧ vf1 0 = 0 := ⟨_, hP, hD, rfl⟩
  refine lv_aload_n hx hb dX8_shut_7 rfl (lv_at hl 0 rfl) ?_
  refine va_get (D := D) (ci := 8) (v := .ref s3) (C := RX8) (T := TX8) (N := 16) hx hb hg inX8 hown hK hP 0 rfl rfl 3 (by decide) (hg _ w377) (fun _ h9 => h9) rfl dX8_shut_8 ?_
  refine lv_iload_n hx hb dX8_shut_11 rfl (lv_at hl 1 rfl) ?_
  refine lv_iconst (v := 0) hx hb dX8_shut_12 (by decide) ?_
  refine va_iast (D := D) (i := 0) (x := 0) hx hb hK hP hD hS 2 1 rfl rfl (vp_in_nI (n := 0) (N := 40) (by decide) (by decide)) dX8_shut_13 (fun H locs hP hD hS => ?_)
  rw [show upd (fun _ => 0) (Int32.toNatClampNeg 0) 0 = (fun _ => 0) from by funext j; simp only [upd]; split <;> rfl] at hP hD
  have hP : va_P D vwCl [(sk, .inr (8, [.ref s0, .ref s1, .ref s2, .ref s3, .ref s4, .ref s5, .ref s6, .ref s7, .ref s8, .ref s9, .ref s10, .ref s11, .int 1, .int 0, .int 0, .int 0])), (s2, .inl (ks2, 40, .inl (vf1))), (s3, .inl (ks3, 40, .inl (fun _ => 0)))] H := hP
  have hD : va_D A [(sk, .inr (8, [.ref s0, .ref s1, .ref s2, .ref s3, .ref s4, .ref s5, .ref s6, .ref s7, .ref s8, .ref s9, .ref s10, .ref s11, .int 1, .int 0, .int 0, .int 0])), (s2, .inl (ks2, 40, .inl (vf1))), (s3, .inl (ks3, 40, .inl (fun _ => 0)))] := hD
  refine W.widen (k := 0) (n := 0) (Nat.le_of_ble_eq_true rfl) (Nat.le_of_ble_eq_true rfl) ?_
  have hP9 := hP.sub (ws' := [(sk, .inr (8, [.ref s0, .ref s1, .ref s2, .ref s3, .ref s4, .ref s5, .ref s6, .ref s7, .ref s8, .ref s9, .ref s10, .ref s11, .int 1, .int 0, .int 0, .int 0])), (s2, .inl (ks2, 40, .inl (vf1)))]) [0, 1] rfl
  have hD9 := hD.sub (ws' := [(sk, .inr (8, [.ref s0, .ref s1, .ref s2, .ref s3, .ref s4, .ref s5, .ref s6, .ref s7, .ref s8, .ref s9, .ref s10, .ref s11, .int 1, .int 0, .int 0, .int 0])), (s2, .inl (ks2, 40, .inl (vf1)))]) [0, 1] (by decide) rfl
  have hK9 := hK.sub (tys' := [(ks2, .boolean)]) [0] rfl
  exact W.vret hx hb hr (fun t ht hW => ⟨⟨(vf1), rfl, hvf1, by rw [ht]; exact hP9, va_K.moved hW.alike hK9, hD9⟩, hS.F ht⟩) hS.2.2 dX8_shut_14
abbrev r_c_reopen : Room := { frames := 0, cells := 0, slots := 0, locals := 0 }
abbrev q_c_reopen (D : va_G) (sk : Nat) (s0 : Nat) (s1 : Nat) (s2 : Nat) (s3 : Nat) (s4 : Nat) (s5 : Nat) (s6 : Nat) (s7 : Nat) (s8 : Nat) (s9 : Nat) (s10 : Nat) (s11 : Nat) (ks2 : ClassId) (fo : Nat → Int32) (A : Nat → Prop) : Array Value → State → Outcome → State → Prop := va_Qv (fun (_ : Unit) => True) (fun u t => gq D A ((fun (_ : Unit) => []) u) ((fun (_ : Unit) => ([] : List (ClassId × FieldType))) u) t) A
set_option maxHeartbeats 4000000 in
set_option maxRecDepth 100000 in
theorem c_reopen (l : Launch) (D : va_G) (ks : Nat × Nat × Option Nat) (sz : Nat) (sk : Nat) (s0 : Nat) (s1 : Nat) (s2 : Nat) (s3 : Nat) (s4 : Nat) (s5 : Nat) (s6 : Nat) (s7 : Nat) (s8 : Nat) (s9 : Nat) (s10 : Nat) (s11 : Nat) (ks2 : ClassId) (fo : Nat → Int32) : Met l yX8_reopenHouse (Cond.code yX8_reopenHouse cX8_reopenHouse 1 none :: GW) r_c_reopen (va_Pc [.ref sk] (gp D ks [(sk, .inr (8, [.ref s0, .ref s1, .ref s2, .ref s3, .ref s4, .ref s5, .ref s6, .ref s7, .ref s8, .ref s9, .ref s10, .ref s11, .int 1, .int 0, .int 0, .int 0])), (s2, .inl (ks2, 40, .inl (fo)))] [(ks2, .boolean)] sz)) (q_c_reopen D sk s0 s1 s2 s3 s4 s5 s6 s7 s8 s9 s10 s11 ks2 fo (va_A [(sk, .inr (8, [.ref s0, .ref s1, .ref s2, .ref s3, .ref s4, .ref s5, .ref s6, .ref s7, .ref s8, .ref s9, .ref s10, .ref s11, .int 1, .int 0, .int 0, .int 0])), (s2, .inl (ks2, 40, .inl (fo)))] sz)) 0 0 (va_A [(sk, .inr (8, [.ref s0, .ref s1, .ref s2, .ref s3, .ref s4, .ref s5, .ref s6, .ref s7, .ref s8, .ref s9, .ref s10, .ref s11, .int 1, .int 0, .int 0, .int 0])), (s2, .inl (ks2, 40, .inl (fo)))] sz) := by
  refine g_met (q_c_reopen D sk s0 s1 s2 s3 s4 s5 s6 s7 s8 s9 s10 s11 ks2 fo) (by decide) (Nat.le_of_ble_eq_true rfl) ?_
  intro p e s m below meth c A ls H locs hx hb hr hml hown hg hlocks hin hnw hgk hP hK hD hS hA hl
  have hown : s.vm.findClass RX8 = some m.cls := hown
  have hl : lv_has ls 1 [(0, .ref sk)] := hl
  refine lv_aload_n hx hb dX8_reopenHouse_0 rfl (lv_at hl 0 rfl) ?_
  refine va_get (D := D) (ci := 8) (v := .ref s2) (C := RX8) (T := TX8) (N := 16) hx hb hg inX8 hown hK hP 0 rfl rfl 2 (by decide) (hg _ w376) (fun _ h9 => h9) rfl dX8_reopenHouse_1 ?_
  refine lv_iconst (v := 0) hx hb dX8_reopenHouse_4 (by decide) ?_
  refine lv_iconst (v := 1) hx hb dX8_reopenHouse_5 (by decide) ?_
  refine va_zast (D := D) (i := 0) (x := 1) hx hb hK hP hD hS 1 0 rfl rfl (vp_in_nI (n := 0) (N := 40) (by decide) (by decide)) dX8_reopenHouse_6 (fun H locs hP hD hS => ?_)
  obtain ⟨vf1, hP, hD, hvf1⟩ : ∃ vf1 : Nat → Int32, va_P D vwCl [(sk, .inr (8, [.ref s0, .ref s1, .ref s2, .ref s3, .ref s4, .ref s5, .ref s6, .ref s7, .ref s8, .ref s9, .ref s10, .ref s11, .int 1, .int 0, .int 0, .int 0])), (s2, .inl (ks2, 40, .inl (vf1)))] H ∧ va_D A [(sk, .inr (8, [.ref s0, .ref s1, .ref s2, .ref s3, .ref s4, .ref s5, .ref s6, .ref s7, .ref s8, .ref s9, .ref s10, .ref s11, .int 1, .int 0, .int 0, .int 0])), (s2, .inl (ks2, 40, .inl (vf1)))] ∧ vf1 0 = 1 := ⟨_, hP, hD, rfl⟩
  refine W.widen (k := 0) (n := 0) (Nat.le_of_ble_eq_true rfl) (Nat.le_of_ble_eq_true rfl) ?_
  have hP9 := hP.sub (ws' := []) [] rfl
  have hD9 := hD.sub (ws' := []) [] (by decide) rfl
  have hK9 := hK.sub (tys' := []) [] rfl
  exact W.vret hx hb hr (fun t ht hW => ⟨⟨(), rfl, (by first | rfl | trivial | assumption | decide), by rw [ht]; exact hP9, va_K.moved hW.alike hK9, hD9⟩, hS.F ht⟩) hS.2.2 dX8_reopenHouse_7
abbrev r_c_latestOpen0 : Room := { frames := 0, cells := 0, slots := 0, locals := 0 }
abbrev q_c_latestOpen0 (D : va_G) (sk : Nat) (s0 : Nat) (s1 : Nat) (s2 : Nat) (s3 : Nat) (s4 : Nat) (s5 : Nat) (s6 : Nat) (s7 : Nat) (s8 : Nat) (s9 : Nat) (s10 : Nat) (s11 : Nat) (p0 : Int32) (p1 : Int32) (A : Nat → Prop) : Array Value → State → Outcome → State → Prop := va_Qi (fun (r : Int32) (_ : Unit) => r = -1) (fun u t => gq D A ((fun (_ : Unit) => [(sk, .inr (8, [.ref s0, .ref s1, .ref s2, .ref s3, .ref s4, .ref s5, .ref s6, .ref s7, .ref s8, .ref s9, .ref s10, .ref s11, .int 1, .int 0, .int 0, .int 0]))]) u) ((fun (_ : Unit) => ([] : List (ClassId × FieldType))) u) t) A
set_option maxHeartbeats 4000000 in
set_option maxRecDepth 100000 in
theorem c_latestOpen0 (l : Launch) (D : va_G) (ks : Nat × Nat × Option Nat) (sz : Nat) (sk : Nat) (s0 : Nat) (s1 : Nat) (s2 : Nat) (s3 : Nat) (s4 : Nat) (s5 : Nat) (s6 : Nat) (s7 : Nat) (s8 : Nat) (s9 : Nat) (s10 : Nat) (s11 : Nat) (p0 : Int32) (p1 : Int32) : Met l yX8_latestOpen (Cond.code yX8_latestOpen cX8_latestOpen 4 (some .int) :: GW) r_c_latestOpen0 (va_Pc [.ref sk, .int p0, .int p1] (gp D ks [(sk, .inr (8, [.ref s0, .ref s1, .ref s2, .ref s3, .ref s4, .ref s5, .ref s6, .ref s7, .ref s8, .ref s9, .ref s10, .ref s11, .int 1, .int 0, .int 0, .int 0]))] [] sz)) (q_c_latestOpen0 D sk s0 s1 s2 s3 s4 s5 s6 s7 s8 s9 s10 s11 p0 p1 (va_A [(sk, .inr (8, [.ref s0, .ref s1, .ref s2, .ref s3, .ref s4, .ref s5, .ref s6, .ref s7, .ref s8, .ref s9, .ref s10, .ref s11, .int 1, .int 0, .int 0, .int 0]))] sz)) 0 0 (va_A [(sk, .inr (8, [.ref s0, .ref s1, .ref s2, .ref s3, .ref s4, .ref s5, .ref s6, .ref s7, .ref s8, .ref s9, .ref s10, .ref s11, .int 1, .int 0, .int 0, .int 0]))] sz) := by
  refine g_met (q_c_latestOpen0 D sk s0 s1 s2 s3 s4 s5 s6 s7 s8 s9 s10 s11 p0 p1) (by decide) (Nat.le_of_ble_eq_true rfl) ?_
  intro p e s m below meth c A ls H locs hx hb hr hml hown hg hlocks hin hnw hgk hP hK hD hS hA hl
  have hown : s.vm.findClass RX8 = some m.cls := hown
  have hl : lv_has ls 4 [(0, .ref sk), (1, .int p0), (2, .int p1)] := hl
  refine lv_aload_n hx hb dX8_latestOpen_0 rfl (lv_at hl 0 rfl) ?_
  refine va_get (D := D) (ci := 8) (v := .int 1) (C := RX8) (T := TX8) (N := 16) hx hb hg inX8 hown hK hP 0 rfl rfl 12 (by decide) (hg _ w390) (fun _ h9 => h9) rfl dX8_latestOpen_1 ?_
  refine lv_iconst (v := 1) hx hb dX8_latestOpen_4 (by decide) ?_
  refine lv_isub hx hb dX8_latestOpen_5 ?_
  refine g_top (v := 0) (by decide) ?_
  refine lv_istore_n (lv' := [(3, .int 0), (0, .ref sk), (1, .int p0), (2, .int p1)]) hx hb dX8_latestOpen_6 rfl hl (by decide) rfl (fun ls hl => ?_)
  refine lv_iload_n hx hb dX8_latestOpen_7 rfl (lv_at hl 0 rfl) ?_
  refine lv_if_le (tgt := 48) hx hb dX8_latestOpen_8 (by decide) (fun _ => ?_) (fun q => absurd (by decide) q)
  refine lv_iconst (v := (-1)) hx hb dX8_latestOpen_48 (by decide) ?_
  refine W.widen (k := 0) (n := 0) (Nat.le_of_ble_eq_true rfl) (Nat.le_of_ble_eq_true rfl) ?_
  have hP9 := hP.sub (ws' := [(sk, .inr (8, [.ref s0, .ref s1, .ref s2, .ref s3, .ref s4, .ref s5, .ref s6, .ref s7, .ref s8, .ref s9, .ref s10, .ref s11, .int 1, .int 0, .int 0, .int 0]))]) [0] rfl
  have hD9 := hD.sub (ws' := [(sk, .inr (8, [.ref s0, .ref s1, .ref s2, .ref s3, .ref s4, .ref s5, .ref s6, .ref s7, .ref s8, .ref s9, .ref s10, .ref s11, .int 1, .int 0, .int 0, .int 0]))]) [0] (by decide) rfl
  have hK9 := hK.sub (tys' := []) [] rfl
  exact W.iret (v := (-1)) hx hb hr (fun t ht hW => ⟨⟨(-1), (), rfl, (by first | rfl | trivial | assumption | decide), by rw [ht]; exact hP9, va_K.moved hW.alike hK9, hD9⟩, hS.F ht⟩) hS.2.2 dX8_latestOpen_49
abbrev r_c_innermost0 : Room := { frames := 1, cells := 0, slots := 0, locals := 23 }
abbrev q_c_innermost0 (D : va_G) (sk : Nat) (s0 : Nat) (s1 : Nat) (s2 : Nat) (s3 : Nat) (s4 : Nat) (s5 : Nat) (s6 : Nat) (s7 : Nat) (s8 : Nat) (s9 : Nat) (s10 : Nat) (s11 : Nat) (A : Nat → Prop) : Array Value → State → Outcome → State → Prop := va_Qi (fun (r : Int32) (_ : Unit) => r = 0) (fun u t => gq D A ((fun (_ : Unit) => [(sk, .inr (8, [.ref s0, .ref s1, .ref s2, .ref s3, .ref s4, .ref s5, .ref s6, .ref s7, .ref s8, .ref s9, .ref s10, .ref s11, .int 1, .int 0, .int 0, .int 0]))]) u) ((fun (_ : Unit) => ([] : List (ClassId × FieldType))) u) t) A
set_option maxHeartbeats 4000000 in
set_option maxRecDepth 100000 in
theorem c_innermost0 (l : Launch) (D : va_G) (ks : Nat × Nat × Option Nat) (sz : Nat) (sk : Nat) (s0 : Nat) (s1 : Nat) (s2 : Nat) (s3 : Nat) (s4 : Nat) (s5 : Nat) (s6 : Nat) (s7 : Nat) (s8 : Nat) (s9 : Nat) (s10 : Nat) (s11 : Nat) : Met l yX8_innermost (Cond.code yX8_innermost cX8_innermost 4 (some .int) :: GW) r_c_innermost0 (va_Pc [.ref sk, .int 0] (gp D ks [(sk, .inr (8, [.ref s0, .ref s1, .ref s2, .ref s3, .ref s4, .ref s5, .ref s6, .ref s7, .ref s8, .ref s9, .ref s10, .ref s11, .int 1, .int 0, .int 0, .int 0]))] [] sz)) (q_c_innermost0 D sk s0 s1 s2 s3 s4 s5 s6 s7 s8 s9 s10 s11 (va_A [(sk, .inr (8, [.ref s0, .ref s1, .ref s2, .ref s3, .ref s4, .ref s5, .ref s6, .ref s7, .ref s8, .ref s9, .ref s10, .ref s11, .int 1, .int 0, .int 0, .int 0]))] sz)) 0 0 (va_A [(sk, .inr (8, [.ref s0, .ref s1, .ref s2, .ref s3, .ref s4, .ref s5, .ref s6, .ref s7, .ref s8, .ref s9, .ref s10, .ref s11, .int 1, .int 0, .int 0, .int 0]))] sz) := by
  refine g_met (q_c_innermost0 D sk s0 s1 s2 s3 s4 s5 s6 s7 s8 s9 s10 s11) (by decide) (Nat.le_of_ble_eq_true rfl) ?_
  intro p e s m below meth c A ls H locs hx hb hr hml hown hg hlocks hin hnw hgk hP hK hD hS hA hl
  have hown : s.vm.findClass RX8 = some m.cls := hown
  have hl : lv_has ls 4 [(0, .ref sk), (1, .int 0)] := hl
  refine lv_iload_n hx hb dX8_innermost_0 rfl (lv_at hl 1 rfl) ?_
  refine lv_istore_n (lv' := [(2, .int 0), (0, .ref sk), (1, .int 0)]) hx hb dX8_innermost_1 rfl hl (by decide) rfl (fun ls hl => ?_)
  refine lv_iload_n hx hb dX8_innermost_2 rfl (lv_at hl 2 rfl) ?_
  refine lv_if_ne (tgt := 13) hx hb dX8_innermost_3 (by decide) (fun q => absurd rfl q) (fun _ => ?_)
  refine lv_aload_n hx hb dX8_innermost_6 rfl (lv_at hl 1 rfl) ?_
  refine lv_iconst (v := 1) hx hb dX8_innermost_7 (by decide) ?_
  refine lv_iconst (v := 0) hx hb dX8_innermost_8 (by decide) ?_
  refine g_int (wr := []) (tr := []) (g_runV (As := [.int 1, .int 0]) (rest := []) (wc := [(sk, .inr (8, [.ref s0, .ref s1, .ref s2, .ref s3, .ref s4, .ref s5, .ref s6, .ref s7, .ref s8, .ref s9, .ref s10, .ref s11, .int 1, .int 0, .int 0, .int 0]))]) (tc := []) (ci := 8) (q0 := 0) hx hb hml hown hg gw_self hP hD hK hS hA hnw hgk [0] [] (by decide) rfl rfl (c_latestOpen0 l D ks H.size sk s0 s1 s2 s3 s4 s5 s6 s7 s8 s9 s10 s11 1 0) w1528 w1530 w79 w164 w1531 rfl rfl hdV_yX8_latestOpen ⟨Nat.le_of_ble_eq_true rfl, Nat.le_of_ble_eq_true rfl⟩ rfl hl.1 rfl (Nat.le_of_ble_eq_true rfl) dX8_innermost_9 ⟨Nat.le_of_ble_eq_true rfl, Nat.le_of_ble_eq_true rfl⟩) hP hD hK hS hA [0] [] [] rfl rfl (by decide) (by decide) rfl (fun vr3 vu2 H locs vhw1 hP hD hK hS => ?_)
  have vhw1 : vr3 = -1 := vhw1
  subst vhw1
  have hP : va_P D vwCl [(sk, .inr (8, [.ref s0, .ref s1, .ref s2, .ref s3, .ref s4, .ref s5, .ref s6, .ref s7, .ref s8, .ref s9, .ref s10, .ref s11, .int 1, .int 0, .int 0, .int 0]))] H := hP
  have hD : va_D A [(sk, .inr (8, [.ref s0, .ref s1, .ref s2, .ref s3, .ref s4, .ref s5, .ref s6, .ref s7, .ref s8, .ref s9, .ref s10, .ref s11, .int 1, .int 0, .int 0, .int 0]))] := hD
  have hK : va_K D vwCl [] s := hK
  refine lv_istore_n (lv' := [(2, .int (-1)), (0, .ref sk), (1, .int 0)]) hx hb dX8_innermost_12 rfl hl (by decide) rfl (fun ls hl => ?_)
  refine lv_aload_n hx hb dX8_innermost_13 rfl (lv_at hl 1 rfl) ?_
  refine lv_iconst (v := 2) hx hb dX8_innermost_14 (by decide) ?_
  refine lv_iload_n hx hb dX8_innermost_15 rfl (lv_at hl 0 rfl) ?_
  refine g_int (wr := []) (tr := []) (g_runV (As := [.int 2, .int (-1)]) (rest := []) (wc := [(sk, .inr (8, [.ref s0, .ref s1, .ref s2, .ref s3, .ref s4, .ref s5, .ref s6, .ref s7, .ref s8, .ref s9, .ref s10, .ref s11, .int 1, .int 0, .int 0, .int 0]))]) (tc := []) (ci := 8) (q0 := 0) hx hb hml hown hg gw_self hP hD hK hS hA hnw hgk [0] [] (by decide) rfl rfl (c_latestOpen0 l D ks H.size sk s0 s1 s2 s3 s4 s5 s6 s7 s8 s9 s10 s11 2 (-1)) w1528 w1530 w79 w164 w1531 rfl rfl hdV_yX8_latestOpen ⟨Nat.le_of_ble_eq_true rfl, Nat.le_of_ble_eq_true rfl⟩ rfl hl.1 rfl (Nat.le_of_ble_eq_true rfl) dX8_innermost_16 ⟨Nat.le_of_ble_eq_true rfl, Nat.le_of_ble_eq_true rfl⟩) hP hD hK hS hA [0] [] [] rfl rfl (by decide) (by decide) rfl (fun vr6 vu5 H locs vhw4 hP hD hK hS => ?_)
  have vhw4 : vr6 = -1 := vhw4
  subst vhw4
  have hP : va_P D vwCl [(sk, .inr (8, [.ref s0, .ref s1, .ref s2, .ref s3, .ref s4, .ref s5, .ref s6, .ref s7, .ref s8, .ref s9, .ref s10, .ref s11, .int 1, .int 0, .int 0, .int 0]))] H := hP
  have hD : va_D A [(sk, .inr (8, [.ref s0, .ref s1, .ref s2, .ref s3, .ref s4, .ref s5, .ref s6, .ref s7, .ref s8, .ref s9, .ref s10, .ref s11, .int 1, .int 0, .int 0, .int 0]))] := hD
  have hK : va_K D vwCl [] s := hK
  refine lv_istore_n (lv' := [(3, .int (-1)), (2, .int (-1)), (0, .ref sk), (1, .int 0)]) hx hb dX8_innermost_19 rfl hl (by decide) rfl (fun ls hl => ?_)
  refine lv_iload_n hx hb dX8_innermost_20 rfl (lv_at hl 0 rfl) ?_
  refine lv_iconst (v := (-1)) hx hb dX8_innermost_21 (by decide) ?_
  refine lv_icmp_eq (tgt := 29) hx hb dX8_innermost_22 (by decide) (fun _ => ?_) (fun q => absurd (by decide) q)
  refine lv_iload_n hx hb dX8_innermost_29 rfl (lv_at hl 1 rfl) ?_
  refine lv_iconst (v := (-1)) hx hb dX8_innermost_30 (by decide) ?_
  refine lv_icmp_eq (tgt := 38) hx hb dX8_innermost_31 (by decide) (fun _ => ?_) (fun q => absurd (by decide) q)
  refine lv_iload_n hx hb dX8_innermost_38 rfl (lv_at hl 3 rfl) ?_
  refine W.widen (k := 0) (n := 0) (Nat.le_of_ble_eq_true rfl) (Nat.le_of_ble_eq_true rfl) ?_
  have hP9 := hP.sub (ws' := [(sk, .inr (8, [.ref s0, .ref s1, .ref s2, .ref s3, .ref s4, .ref s5, .ref s6, .ref s7, .ref s8, .ref s9, .ref s10, .ref s11, .int 1, .int 0, .int 0, .int 0]))]) [0] rfl
  have hD9 := hD.sub (ws' := [(sk, .inr (8, [.ref s0, .ref s1, .ref s2, .ref s3, .ref s4, .ref s5, .ref s6, .ref s7, .ref s8, .ref s9, .ref s10, .ref s11, .int 1, .int 0, .int 0, .int 0]))]) [0] (by decide) rfl
  have hK9 := hK.sub (tys' := []) [] rfl
  exact W.iret (v := 0) hx hb hr (fun t ht hW => ⟨⟨0, (), rfl, (by first | rfl | trivial | assumption | decide), by rw [ht]; exact hP9, va_K.moved hW.alike hK9, hD9⟩, hS.F ht⟩) hS.2.2 dX8_innermost_39
abbrev r_c_latestMade0 : Room := { frames := 0, cells := 0, slots := 0, locals := 0 }
abbrev q_c_latestMade0 (D : va_G) (sk : Nat) (s0 : Nat) (s1 : Nat) (s2 : Nat) (s3 : Nat) (s4 : Nat) (s5 : Nat) (s6 : Nat) (s7 : Nat) (s8 : Nat) (s9 : Nat) (s10 : Nat) (s11 : Nat) (p0 : Int32) (A : Nat → Prop) : Array Value → State → Outcome → State → Prop := va_Qi (fun (r : Int32) (_ : Unit) => r = -1) (fun u t => gq D A ((fun (_ : Unit) => [(sk, .inr (8, [.ref s0, .ref s1, .ref s2, .ref s3, .ref s4, .ref s5, .ref s6, .ref s7, .ref s8, .ref s9, .ref s10, .ref s11, .int 1, .int 0, .int 0, .int 0]))]) u) ((fun (_ : Unit) => ([] : List (ClassId × FieldType))) u) t) A
set_option maxHeartbeats 4000000 in
set_option maxRecDepth 100000 in
theorem c_latestMade0 (l : Launch) (D : va_G) (ks : Nat × Nat × Option Nat) (sz : Nat) (sk : Nat) (s0 : Nat) (s1 : Nat) (s2 : Nat) (s3 : Nat) (s4 : Nat) (s5 : Nat) (s6 : Nat) (s7 : Nat) (s8 : Nat) (s9 : Nat) (s10 : Nat) (s11 : Nat) (p0 : Int32) : Met l yX8_latestMade (Cond.code yX8_latestMade cX8_latestMade 5 (some .int) :: GW) r_c_latestMade0 (va_Pc [.ref sk, .int p0] (gp D ks [(sk, .inr (8, [.ref s0, .ref s1, .ref s2, .ref s3, .ref s4, .ref s5, .ref s6, .ref s7, .ref s8, .ref s9, .ref s10, .ref s11, .int 1, .int 0, .int 0, .int 0]))] [] sz)) (q_c_latestMade0 D sk s0 s1 s2 s3 s4 s5 s6 s7 s8 s9 s10 s11 p0 (va_A [(sk, .inr (8, [.ref s0, .ref s1, .ref s2, .ref s3, .ref s4, .ref s5, .ref s6, .ref s7, .ref s8, .ref s9, .ref s10, .ref s11, .int 1, .int 0, .int 0, .int 0]))] sz)) 0 0 (va_A [(sk, .inr (8, [.ref s0, .ref s1, .ref s2, .ref s3, .ref s4, .ref s5, .ref s6, .ref s7, .ref s8, .ref s9, .ref s10, .ref s11, .int 1, .int 0, .int 0, .int 0]))] sz) := by
  refine g_met (q_c_latestMade0 D sk s0 s1 s2 s3 s4 s5 s6 s7 s8 s9 s10 s11 p0) (by decide) (Nat.le_of_ble_eq_true rfl) ?_
  intro p e s m below meth c A ls H locs hx hb hr hml hown hg hlocks hin hnw hgk hP hK hD hS hA hl
  have hown : s.vm.findClass RX8 = some m.cls := hown
  have hl : lv_has ls 5 [(0, .ref sk), (1, .int p0)] := hl
  refine lv_iconst (v := (-1)) hx hb dX8_latestMade_0 (by decide) ?_
  refine lv_istore_n (lv' := [(2, .int (-1)), (0, .ref sk), (1, .int p0)]) hx hb dX8_latestMade_1 rfl hl (by decide) rfl (fun ls hl => ?_)
  refine lv_iconst (v := 0) hx hb dX8_latestMade_2 (by decide) ?_
  refine lv_istore_n (lv' := [(3, .int 0), (2, .int (-1)), (0, .ref sk), (1, .int p0)]) hx hb dX8_latestMade_3 rfl hl (by decide) rfl (fun ls hl => ?_)
  refine lv_iload_n hx hb dX8_latestMade_4 rfl (lv_at hl 0 rfl) ?_
  refine lv_aload_n hx hb dX8_latestMade_5 rfl (lv_at hl 2 rfl) ?_
  refine va_get (D := D) (ci := 8) (v := .int 0) (C := RX8) (T := TX8) (N := 16) hx hb hg inX8 hown hK hP 0 rfl rfl 13 (by decide) (hg _ w391) (fun _ h9 => h9) rfl dX8_latestMade_6 ?_
  refine lv_icmp_ge (tgt := 72) hx hb dX8_latestMade_9 (by decide) (fun _ => ?_) (fun q => absurd (by decide) q)
  refine lv_iload_n hx hb dX8_latestMade_72 rfl (lv_at hl 1 rfl) ?_
  refine W.widen (k := 0) (n := 0) (Nat.le_of_ble_eq_true rfl) (Nat.le_of_ble_eq_true rfl) ?_
  have hP9 := hP.sub (ws' := [(sk, .inr (8, [.ref s0, .ref s1, .ref s2, .ref s3, .ref s4, .ref s5, .ref s6, .ref s7, .ref s8, .ref s9, .ref s10, .ref s11, .int 1, .int 0, .int 0, .int 0]))]) [0] rfl
  have hD9 := hD.sub (ws' := [(sk, .inr (8, [.ref s0, .ref s1, .ref s2, .ref s3, .ref s4, .ref s5, .ref s6, .ref s7, .ref s8, .ref s9, .ref s10, .ref s11, .int 1, .int 0, .int 0, .int 0]))]) [0] (by decide) rfl
  have hK9 := hK.sub (tys' := []) [] rfl
  exact W.iret (v := (-1)) hx hb hr (fun t ht hW => ⟨⟨(-1), (), rfl, (by first | rfl | trivial | assumption | decide), by rw [ht]; exact hP9, va_K.moved hW.alike hK9, hD9⟩, hS.F ht⟩) hS.2.2 dX8_latestMade_73
abbrev r_c_openScopes0 : Room := { frames := 0, cells := 0, slots := 0, locals := 0 }
abbrev q_c_openScopes0 (D : va_G) (sk : Nat) (s0 : Nat) (s1 : Nat) (s2 : Nat) (s3 : Nat) (s4 : Nat) (s5 : Nat) (s6 : Nat) (s7 : Nat) (s8 : Nat) (s9 : Nat) (s10 : Nat) (s11 : Nat) (ks2 : ClassId) (A : Nat → Prop) : Array Value → State → Outcome → State → Prop := va_Qi (fun (r : Int32) (_ : Unit) => r = 1) (fun u t => gq D A ((fun (_ : Unit) => []) u) ((fun (_ : Unit) => ([] : List (ClassId × FieldType))) u) t) A
set_option maxHeartbeats 4000000 in
set_option maxRecDepth 100000 in
theorem c_openScopes0 (l : Launch) (D : va_G) (ks : Nat × Nat × Option Nat) (sz : Nat) (sk : Nat) (s0 : Nat) (s1 : Nat) (s2 : Nat) (s3 : Nat) (s4 : Nat) (s5 : Nat) (s6 : Nat) (s7 : Nat) (s8 : Nat) (s9 : Nat) (s10 : Nat) (s11 : Nat) (ks2 : ClassId) : Met l yX8_openScopes (Cond.code yX8_openScopes cX8_openScopes 3 (some .int) :: GW) r_c_openScopes0 (va_Pc [.ref sk] (gp D ks [(sk, .inr (8, [.ref s0, .ref s1, .ref s2, .ref s3, .ref s4, .ref s5, .ref s6, .ref s7, .ref s8, .ref s9, .ref s10, .ref s11, .int 1, .int 0, .int 0, .int 0])), (s2, .inl (ks2, 40, .inl (upd (fun _ => 0) 0 1)))] [(ks2, .boolean)] sz)) (q_c_openScopes0 D sk s0 s1 s2 s3 s4 s5 s6 s7 s8 s9 s10 s11 ks2 (va_A [(sk, .inr (8, [.ref s0, .ref s1, .ref s2, .ref s3, .ref s4, .ref s5, .ref s6, .ref s7, .ref s8, .ref s9, .ref s10, .ref s11, .int 1, .int 0, .int 0, .int 0])), (s2, .inl (ks2, 40, .inl (upd (fun _ => 0) 0 1)))] sz)) 0 0 (va_A [(sk, .inr (8, [.ref s0, .ref s1, .ref s2, .ref s3, .ref s4, .ref s5, .ref s6, .ref s7, .ref s8, .ref s9, .ref s10, .ref s11, .int 1, .int 0, .int 0, .int 0])), (s2, .inl (ks2, 40, .inl (upd (fun _ => 0) 0 1)))] sz) := by
  refine g_met (q_c_openScopes0 D sk s0 s1 s2 s3 s4 s5 s6 s7 s8 s9 s10 s11 ks2) (by decide) (Nat.le_of_ble_eq_true rfl) ?_
  intro p e s m below meth c A ls H locs hx hb hr hml hown hg hlocks hin hnw hgk hP hK hD hS hA hl
  have hown : s.vm.findClass RX8 = some m.cls := hown
  have hl : lv_has ls 3 [(0, .ref sk)] := hl
  refine lv_iconst (v := 0) hx hb dX8_openScopes_0 (by decide) ?_
  refine lv_istore_n (lv' := [(1, .int 0), (0, .ref sk)]) hx hb dX8_openScopes_1 rfl hl (by decide) rfl (fun ls hl => ?_)
  refine lv_iconst (v := 0) hx hb dX8_openScopes_2 (by decide) ?_
  refine lv_istore_n (lv' := [(2, .int 0), (1, .int 0), (0, .ref sk)]) hx hb dX8_openScopes_3 rfl hl (by decide) rfl (fun ls hl => ?_)
  refine lv_iload_n hx hb dX8_openScopes_4 rfl (lv_at hl 0 rfl) ?_
  refine lv_aload_n hx hb dX8_openScopes_5 rfl (lv_at hl 2 rfl) ?_
  refine va_get (D := D) (ci := 8) (v := .int 1) (C := RX8) (T := TX8) (N := 16) hx hb hg inX8 hown hK hP 0 rfl rfl 12 (by decide) (hg _ w390) (fun _ h9 => h9) rfl dX8_openScopes_6 ?_
  refine lv_icmp_ge (tgt := 35) hx hb dX8_openScopes_9 (by decide) (fun q => absurd q (by decide)) (fun _ => ?_)
  refine lv_iload_n hx hb dX8_openScopes_12 rfl (lv_at hl 1 rfl) ?_
  refine lv_aload_n hx hb dX8_openScopes_13 rfl (lv_at hl 2 rfl) ?_
  refine va_get (D := D) (ci := 8) (v := .ref s2) (C := RX8) (T := TX8) (N := 16) hx hb hg inX8 hown hK hP 0 rfl rfl 2 (by decide) (hg _ w376) (fun _ h9 => h9) rfl dX8_openScopes_14 ?_
  refine lv_iload_n hx hb dX8_openScopes_17 rfl (lv_at hl 0 rfl) ?_
  refine va_zald (D := D) (i := 0) hx hb hK hP 1 0 rfl rfl (vp_in_nI (n := 0) (N := 40) (by decide) (by decide)) dX8_openScopes_18 ?_
  refine g_top (v := 1) (by decide) ?_
  refine lv_if_eq (tgt := 26) hx hb dX8_openScopes_19 (by decide) (fun q => absurd q (by decide)) (fun _ => ?_)
  refine lv_iconst (v := 1) hx hb dX8_openScopes_22 (by decide) ?_
  refine lv_goto (tgt := 27) hx hb dX8_openScopes_23 (by decide) ?_
  refine lv_iadd hx hb dX8_openScopes_27 ?_
  refine g_top (v := 1) (by decide) ?_
  refine lv_istore_n (lv' := [(1, .int 1), (2, .int 0), (0, .ref sk)]) hx hb dX8_openScopes_28 rfl hl (by decide) rfl (fun ls hl => ?_)
  refine lv_iinc (v := 1) (lv' := [(2, .int 1), (1, .int 1), (0, .ref sk)]) hx hb dX8_openScopes_29 hl (k := 1) rfl (by decide) (by decide) rfl (fun ls hl => ?_)
  refine lv_goto (tgt := 4) hx hb dX8_openScopes_32 (by decide) ?_
  refine lv_iload_n hx hb dX8_openScopes_4 rfl (lv_at hl 0 rfl) ?_
  refine lv_aload_n hx hb dX8_openScopes_5 rfl (lv_at hl 2 rfl) ?_
  refine va_get (D := D) (ci := 8) (v := .int 1) (C := RX8) (T := TX8) (N := 16) hx hb hg inX8 hown hK hP 0 rfl rfl 12 (by decide) (hg _ w390) (fun _ h9 => h9) rfl dX8_openScopes_6 ?_
  refine lv_icmp_ge (tgt := 35) hx hb dX8_openScopes_9 (by decide) (fun _ => ?_) (fun q => absurd (by decide) q)
  refine lv_iload_n hx hb dX8_openScopes_35 rfl (lv_at hl 1 rfl) ?_
  refine W.widen (k := 0) (n := 0) (Nat.le_of_ble_eq_true rfl) (Nat.le_of_ble_eq_true rfl) ?_
  have hP9 := hP.sub (ws' := []) [] rfl
  have hD9 := hD.sub (ws' := []) [] (by decide) rfl
  have hK9 := hK.sub (tys' := []) [] rfl
  exact W.iret (v := 1) hx hb hr (fun t ht hW => ⟨⟨1, (), rfl, (by first | rfl | trivial | assumption | decide), by rw [ht]; exact hP9, va_K.moved hW.alike hK9, hD9⟩, hS.F ht⟩) hS.2.2 dX8_openScopes_36
abbrev r_c_madeObjects0 : Room := { frames := 0, cells := 0, slots := 0, locals := 0 }
abbrev q_c_madeObjects0 (D : va_G) (sk : Nat) (s0 : Nat) (s1 : Nat) (s2 : Nat) (s3 : Nat) (s4 : Nat) (s5 : Nat) (s6 : Nat) (s7 : Nat) (s8 : Nat) (s9 : Nat) (s10 : Nat) (s11 : Nat) (A : Nat → Prop) : Array Value → State → Outcome → State → Prop := va_Qi (fun (r : Int32) (_ : Unit) => r = 0) (fun u t => gq D A ((fun (_ : Unit) => []) u) ((fun (_ : Unit) => ([] : List (ClassId × FieldType))) u) t) A
set_option maxHeartbeats 4000000 in
set_option maxRecDepth 100000 in
theorem c_madeObjects0 (l : Launch) (D : va_G) (ks : Nat × Nat × Option Nat) (sz : Nat) (sk : Nat) (s0 : Nat) (s1 : Nat) (s2 : Nat) (s3 : Nat) (s4 : Nat) (s5 : Nat) (s6 : Nat) (s7 : Nat) (s8 : Nat) (s9 : Nat) (s10 : Nat) (s11 : Nat) : Met l yX8_madeObjects (Cond.code yX8_madeObjects cX8_madeObjects 3 (some .int) :: GW) r_c_madeObjects0 (va_Pc [.ref sk] (gp D ks [(sk, .inr (8, [.ref s0, .ref s1, .ref s2, .ref s3, .ref s4, .ref s5, .ref s6, .ref s7, .ref s8, .ref s9, .ref s10, .ref s11, .int 1, .int 0, .int 0, .int 0]))] [] sz)) (q_c_madeObjects0 D sk s0 s1 s2 s3 s4 s5 s6 s7 s8 s9 s10 s11 (va_A [(sk, .inr (8, [.ref s0, .ref s1, .ref s2, .ref s3, .ref s4, .ref s5, .ref s6, .ref s7, .ref s8, .ref s9, .ref s10, .ref s11, .int 1, .int 0, .int 0, .int 0]))] sz)) 0 0 (va_A [(sk, .inr (8, [.ref s0, .ref s1, .ref s2, .ref s3, .ref s4, .ref s5, .ref s6, .ref s7, .ref s8, .ref s9, .ref s10, .ref s11, .int 1, .int 0, .int 0, .int 0]))] sz) := by
  refine g_met (q_c_madeObjects0 D sk s0 s1 s2 s3 s4 s5 s6 s7 s8 s9 s10 s11) (by decide) (Nat.le_of_ble_eq_true rfl) ?_
  intro p e s m below meth c A ls H locs hx hb hr hml hown hg hlocks hin hnw hgk hP hK hD hS hA hl
  have hown : s.vm.findClass RX8 = some m.cls := hown
  have hl : lv_has ls 3 [(0, .ref sk)] := hl
  refine lv_iconst (v := 0) hx hb dX8_madeObjects_0 (by decide) ?_
  refine lv_istore_n (lv' := [(1, .int 0), (0, .ref sk)]) hx hb dX8_madeObjects_1 rfl hl (by decide) rfl (fun ls hl => ?_)
  refine lv_iconst (v := 0) hx hb dX8_madeObjects_2 (by decide) ?_
  refine lv_istore_n (lv' := [(2, .int 0), (1, .int 0), (0, .ref sk)]) hx hb dX8_madeObjects_3 rfl hl (by decide) rfl (fun ls hl => ?_)
  refine lv_iload_n hx hb dX8_madeObjects_4 rfl (lv_at hl 0 rfl) ?_
  refine lv_aload_n hx hb dX8_madeObjects_5 rfl (lv_at hl 2 rfl) ?_
  refine va_get (D := D) (ci := 8) (v := .int 0) (C := RX8) (T := TX8) (N := 16) hx hb hg inX8 hown hK hP 0 rfl rfl 13 (by decide) (hg _ w391) (fun _ h9 => h9) rfl dX8_madeObjects_6 ?_
  refine lv_icmp_ge (tgt := 36) hx hb dX8_madeObjects_9 (by decide) (fun _ => ?_) (fun q => absurd (by decide) q)
  refine lv_iload_n hx hb dX8_madeObjects_36 rfl (lv_at hl 1 rfl) ?_
  refine W.widen (k := 0) (n := 0) (Nat.le_of_ble_eq_true rfl) (Nat.le_of_ble_eq_true rfl) ?_
  have hP9 := hP.sub (ws' := []) [] rfl
  have hD9 := hD.sub (ws' := []) [] (by decide) rfl
  have hK9 := hK.sub (tys' := []) [] rfl
  exact W.iret (v := 0) hx hb hr (fun t ht hW => ⟨⟨0, (), rfl, (by first | rfl | trivial | assumption | decide), by rw [ht]; exact hP9, va_K.moved hW.alike hK9, hD9⟩, hS.F ht⟩) hS.2.2 dX8_madeObjects_37
abbrev r_c_Stock_has0 : Room := { frames := 0, cells := 0, slots := 0, locals := 0 }
abbrev q_c_Stock_has0 (D : va_G) (sk : Nat) (s0 : Nat) (s1 : Nat) (s2 : Nat) (s3 : Nat) (s4 : Nat) (s5 : Nat) (s6 : Nat) (s7 : Nat) (s8 : Nat) (s9 : Nat) (s10 : Nat) (s11 : Nat) (p0 : Int32) (A : Nat → Prop) : Array Value → State → Outcome → State → Prop := va_Qi (fun (r : Int32) (_ : Unit) => r = 0) (fun u t => gq D A ((fun (_ : Unit) => [(sk, .inr (8, [.ref s0, .ref s1, .ref s2, .ref s3, .ref s4, .ref s5, .ref s6, .ref s7, .ref s8, .ref s9, .ref s10, .ref s11, .int 1, .int 0, .int 0, .int 0]))]) u) ((fun (_ : Unit) => ([] : List (ClassId × FieldType))) u) t) A
set_option maxHeartbeats 4000000 in
set_option maxRecDepth 100000 in
theorem c_Stock_has0 (l : Launch) (D : va_G) (ks : Nat × Nat × Option Nat) (sz : Nat) (sk : Nat) (s0 : Nat) (s1 : Nat) (s2 : Nat) (s3 : Nat) (s4 : Nat) (s5 : Nat) (s6 : Nat) (s7 : Nat) (s8 : Nat) (s9 : Nat) (s10 : Nat) (s11 : Nat) (p0 : Int32) : Met l yX8_has (Cond.code yX8_has cX8_has 2 (some .boolean) :: GW) r_c_Stock_has0 (va_Pc [.ref sk, .int p0] (gp D ks [(sk, .inr (8, [.ref s0, .ref s1, .ref s2, .ref s3, .ref s4, .ref s5, .ref s6, .ref s7, .ref s8, .ref s9, .ref s10, .ref s11, .int 1, .int 0, .int 0, .int 0]))] [] sz)) (q_c_Stock_has0 D sk s0 s1 s2 s3 s4 s5 s6 s7 s8 s9 s10 s11 p0 (va_A [(sk, .inr (8, [.ref s0, .ref s1, .ref s2, .ref s3, .ref s4, .ref s5, .ref s6, .ref s7, .ref s8, .ref s9, .ref s10, .ref s11, .int 1, .int 0, .int 0, .int 0]))] sz)) 0 0 (va_A [(sk, .inr (8, [.ref s0, .ref s1, .ref s2, .ref s3, .ref s4, .ref s5, .ref s6, .ref s7, .ref s8, .ref s9, .ref s10, .ref s11, .int 1, .int 0, .int 0, .int 0]))] sz) := by
  refine g_met (q_c_Stock_has0 D sk s0 s1 s2 s3 s4 s5 s6 s7 s8 s9 s10 s11 p0) (by decide) (Nat.le_of_ble_eq_true rfl) ?_
  intro p e s m below meth c A ls H locs hx hb hr hml hown hg hlocks hin hnw hgk hP hK hD hS hA hl
  have hown : s.vm.findClass RX8 = some m.cls := hown
  have hl : lv_has ls 2 [(0, .ref sk), (1, .int p0)] := hl
  refine lv_iload_n hx hb dX8_has_0 rfl (lv_at hl 1 rfl) ?_
  refine lv_if_lt (tgt := 16) hx hb dX8_has_1 (by decide) (fun vc1 => ?_) (fun vc1 => ?_)
  · skip
    refine lv_iconst (v := 0) hx hb dX8_has_16 (by decide) ?_
    refine W.widen (k := 0) (n := 0) (Nat.le_of_ble_eq_true rfl) (Nat.le_of_ble_eq_true rfl) ?_
    have hP9 := hP.sub (ws' := [(sk, .inr (8, [.ref s0, .ref s1, .ref s2, .ref s3, .ref s4, .ref s5, .ref s6, .ref s7, .ref s8, .ref s9, .ref s10, .ref s11, .int 1, .int 0, .int 0, .int 0]))]) [0] rfl
    have hD9 := hD.sub (ws' := [(sk, .inr (8, [.ref s0, .ref s1, .ref s2, .ref s3, .ref s4, .ref s5, .ref s6, .ref s7, .ref s8, .ref s9, .ref s10, .ref s11, .int 1, .int 0, .int 0, .int 0]))]) [0] (by decide) rfl
    have hK9 := hK.sub (tys' := []) [] rfl
    exact W.zret (v := 0) hx hb hr rfl (fun t ht hW => ⟨⟨0, (), rfl, (by first | rfl | trivial | assumption | decide), by rw [ht]; exact hP9, va_K.moved hW.alike hK9, hD9⟩, hS.F ht⟩) hS.2.2 dX8_has_17
  · skip
    refine lv_iload_n hx hb dX8_has_4 rfl (lv_at hl 1 rfl) ?_
    refine lv_aload_n hx hb dX8_has_5 rfl (lv_at hl 0 rfl) ?_
    refine va_get (D := D) (ci := 8) (v := .int 0) (C := RX8) (T := TX8) (N := 16) hx hb hg inX8 hown hK hP 0 rfl rfl 13 (by decide) (hg _ w391) (fun _ h9 => h9) rfl dX8_has_6 ?_
    refine lv_icmp_ge (tgt := 16) hx hb dX8_has_9 (by decide) (fun _ => ?_) (fun q => absurd (Int32.not_lt.mp vc1) q)
    refine lv_iconst (v := 0) hx hb dX8_has_16 (by decide) ?_
    refine W.widen (k := 0) (n := 0) (Nat.le_of_ble_eq_true rfl) (Nat.le_of_ble_eq_true rfl) ?_
    have hP9 := hP.sub (ws' := [(sk, .inr (8, [.ref s0, .ref s1, .ref s2, .ref s3, .ref s4, .ref s5, .ref s6, .ref s7, .ref s8, .ref s9, .ref s10, .ref s11, .int 1, .int 0, .int 0, .int 0]))]) [0] rfl
    have hD9 := hD.sub (ws' := [(sk, .inr (8, [.ref s0, .ref s1, .ref s2, .ref s3, .ref s4, .ref s5, .ref s6, .ref s7, .ref s8, .ref s9, .ref s10, .ref s11, .int 1, .int 0, .int 0, .int 0]))]) [0] (by decide) rfl
    have hK9 := hK.sub (tys' := []) [] rfl
    exact W.zret (v := 0) hx hb hr rfl (fun t ht hW => ⟨⟨0, (), rfl, (by first | rfl | trivial | assumption | decide), by rw [ht]; exact hP9, va_K.moved hW.alike hK9, hD9⟩, hS.F ht⟩) hS.2.2 dX8_has_17
abbrev r_c_isMade0 : Room := { frames := 1, cells := 0, slots := 0, locals := 21 }
abbrev q_c_isMade0 (D : va_G) (sk : Nat) (s0 : Nat) (s1 : Nat) (s2 : Nat) (s3 : Nat) (s4 : Nat) (s5 : Nat) (s6 : Nat) (s7 : Nat) (s8 : Nat) (s9 : Nat) (s10 : Nat) (s11 : Nat) (p0 : Int32) (A : Nat → Prop) : Array Value → State → Outcome → State → Prop := va_Qi (fun (r : Int32) (_ : Unit) => r = 0) (fun u t => gq D A ((fun (_ : Unit) => [(sk, .inr (8, [.ref s0, .ref s1, .ref s2, .ref s3, .ref s4, .ref s5, .ref s6, .ref s7, .ref s8, .ref s9, .ref s10, .ref s11, .int 1, .int 0, .int 0, .int 0]))]) u) ((fun (_ : Unit) => ([] : List (ClassId × FieldType))) u) t) A
set_option maxHeartbeats 4000000 in
set_option maxRecDepth 100000 in
theorem c_isMade0 (l : Launch) (D : va_G) (ks : Nat × Nat × Option Nat) (sz : Nat) (sk : Nat) (s0 : Nat) (s1 : Nat) (s2 : Nat) (s3 : Nat) (s4 : Nat) (s5 : Nat) (s6 : Nat) (s7 : Nat) (s8 : Nat) (s9 : Nat) (s10 : Nat) (s11 : Nat) (p0 : Int32) : Met l yX8_isMade (Cond.code yX8_isMade cX8_isMade 2 (some .boolean) :: GW) r_c_isMade0 (va_Pc [.ref sk, .int p0] (gp D ks [(sk, .inr (8, [.ref s0, .ref s1, .ref s2, .ref s3, .ref s4, .ref s5, .ref s6, .ref s7, .ref s8, .ref s9, .ref s10, .ref s11, .int 1, .int 0, .int 0, .int 0]))] [] sz)) (q_c_isMade0 D sk s0 s1 s2 s3 s4 s5 s6 s7 s8 s9 s10 s11 p0 (va_A [(sk, .inr (8, [.ref s0, .ref s1, .ref s2, .ref s3, .ref s4, .ref s5, .ref s6, .ref s7, .ref s8, .ref s9, .ref s10, .ref s11, .int 1, .int 0, .int 0, .int 0]))] sz)) 0 0 (va_A [(sk, .inr (8, [.ref s0, .ref s1, .ref s2, .ref s3, .ref s4, .ref s5, .ref s6, .ref s7, .ref s8, .ref s9, .ref s10, .ref s11, .int 1, .int 0, .int 0, .int 0]))] sz) := by
  refine g_met (q_c_isMade0 D sk s0 s1 s2 s3 s4 s5 s6 s7 s8 s9 s10 s11 p0) (by decide) (Nat.le_of_ble_eq_true rfl) ?_
  intro p e s m below meth c A ls H locs hx hb hr hml hown hg hlocks hin hnw hgk hP hK hD hS hA hl
  have hown : s.vm.findClass RX8 = some m.cls := hown
  have hl : lv_has ls 2 [(0, .ref sk), (1, .int p0)] := hl
  refine lv_aload_n hx hb dX8_isMade_0 rfl (lv_at hl 0 rfl) ?_
  refine lv_iload_n hx hb dX8_isMade_1 rfl (lv_at hl 1 rfl) ?_
  refine g_int (wr := []) (tr := []) (g_runV (As := [.int p0]) (rest := []) (wc := [(sk, .inr (8, [.ref s0, .ref s1, .ref s2, .ref s3, .ref s4, .ref s5, .ref s6, .ref s7, .ref s8, .ref s9, .ref s10, .ref s11, .int 1, .int 0, .int 0, .int 0]))]) (tc := []) (ci := 8) (q0 := 0) hx hb hml hown hg gw_self hP hD hK hS hA hnw hgk [0] [] (by decide) rfl rfl (c_Stock_has0 l D ks H.size sk s0 s1 s2 s3 s4 s5 s6 s7 s8 s9 s10 s11 p0) w1300 w1301 w1302 w164 w1303 rfl rfl hdV_yX8_has ⟨Nat.le_of_ble_eq_true rfl, Nat.le_of_ble_eq_true rfl⟩ rfl hl.1 rfl (Nat.le_of_ble_eq_true rfl) dX8_isMade_2 ⟨Nat.le_of_ble_eq_true rfl, Nat.le_of_ble_eq_true rfl⟩) hP hD hK hS hA [0] [] [] rfl rfl (by decide) (by decide) rfl (fun vr3 vu2 H locs vhw1 hP hD hK hS => ?_)
  have vhw1 : vr3 = 0 := vhw1
  subst vhw1
  have hP : va_P D vwCl [(sk, .inr (8, [.ref s0, .ref s1, .ref s2, .ref s3, .ref s4, .ref s5, .ref s6, .ref s7, .ref s8, .ref s9, .ref s10, .ref s11, .int 1, .int 0, .int 0, .int 0]))] H := hP
  have hD : va_D A [(sk, .inr (8, [.ref s0, .ref s1, .ref s2, .ref s3, .ref s4, .ref s5, .ref s6, .ref s7, .ref s8, .ref s9, .ref s10, .ref s11, .int 1, .int 0, .int 0, .int 0]))] := hD
  have hK : va_K D vwCl [] s := hK
  refine lv_if_eq (tgt := 22) hx hb dX8_isMade_5 (by decide) (fun _ => ?_) (fun q => absurd (by decide) q)
  refine lv_iconst (v := 0) hx hb dX8_isMade_22 (by decide) ?_
  refine W.widen (k := 0) (n := 0) (Nat.le_of_ble_eq_true rfl) (Nat.le_of_ble_eq_true rfl) ?_
  have hP9 := hP.sub (ws' := [(sk, .inr (8, [.ref s0, .ref s1, .ref s2, .ref s3, .ref s4, .ref s5, .ref s6, .ref s7, .ref s8, .ref s9, .ref s10, .ref s11, .int 1, .int 0, .int 0, .int 0]))]) [0] rfl
  have hD9 := hD.sub (ws' := [(sk, .inr (8, [.ref s0, .ref s1, .ref s2, .ref s3, .ref s4, .ref s5, .ref s6, .ref s7, .ref s8, .ref s9, .ref s10, .ref s11, .int 1, .int 0, .int 0, .int 0]))]) [0] (by decide) rfl
  have hK9 := hK.sub (tys' := []) [] rfl
  exact W.zret (v := 0) hx hb hr rfl (fun t ht hW => ⟨⟨0, (), rfl, (by first | rfl | trivial | assumption | decide), by rw [ht]; exact hP9, va_K.moved hW.alike hK9, hD9⟩, hS.F ht⟩) hS.2.2 dX8_isMade_23
abbrev r_c_joinedTo0 : Room := { frames := 1, cells := 0, slots := 0, locals := 21 }
abbrev q_c_joinedTo0 (D : va_G) (sk : Nat) (s0 : Nat) (s1 : Nat) (s2 : Nat) (s3 : Nat) (s4 : Nat) (s5 : Nat) (s6 : Nat) (s7 : Nat) (s8 : Nat) (s9 : Nat) (s10 : Nat) (s11 : Nat) (p0 : Int32) (p1 : Int32) (p2 : Int32) (A : Nat → Prop) : Array Value → State → Outcome → State → Prop := va_Qi (fun (r : Int32) (_ : Unit) => r = -1) (fun u t => gq D A ((fun (_ : Unit) => []) u) ((fun (_ : Unit) => ([] : List (ClassId × FieldType))) u) t) A
set_option maxHeartbeats 4000000 in
set_option maxRecDepth 100000 in
theorem c_joinedTo0 (l : Launch) (D : va_G) (ks : Nat × Nat × Option Nat) (sz : Nat) (sk : Nat) (s0 : Nat) (s1 : Nat) (s2 : Nat) (s3 : Nat) (s4 : Nat) (s5 : Nat) (s6 : Nat) (s7 : Nat) (s8 : Nat) (s9 : Nat) (s10 : Nat) (s11 : Nat) (p0 : Int32) (p1 : Int32) (p2 : Int32) : Met l yX8_joinedTo (Cond.code yX8_joinedTo cX8_joinedTo 6 (some .int) :: GW) r_c_joinedTo0 (va_Pc [.ref sk, .int p0, .int p1, .int p2] (gp D ks [(sk, .inr (8, [.ref s0, .ref s1, .ref s2, .ref s3, .ref s4, .ref s5, .ref s6, .ref s7, .ref s8, .ref s9, .ref s10, .ref s11, .int 1, .int 0, .int 0, .int 0]))] [] sz)) (q_c_joinedTo0 D sk s0 s1 s2 s3 s4 s5 s6 s7 s8 s9 s10 s11 p0 p1 p2 (va_A [(sk, .inr (8, [.ref s0, .ref s1, .ref s2, .ref s3, .ref s4, .ref s5, .ref s6, .ref s7, .ref s8, .ref s9, .ref s10, .ref s11, .int 1, .int 0, .int 0, .int 0]))] sz)) 0 0 (va_A [(sk, .inr (8, [.ref s0, .ref s1, .ref s2, .ref s3, .ref s4, .ref s5, .ref s6, .ref s7, .ref s8, .ref s9, .ref s10, .ref s11, .int 1, .int 0, .int 0, .int 0]))] sz) := by
  refine g_met (q_c_joinedTo0 D sk s0 s1 s2 s3 s4 s5 s6 s7 s8 s9 s10 s11 p0 p1 p2) (by decide) (Nat.le_of_ble_eq_true rfl) ?_
  intro p e s m below meth c A ls H locs hx hb hr hml hown hg hlocks hin hnw hgk hP hK hD hS hA hl
  have hown : s.vm.findClass RX8 = some m.cls := hown
  have hl : lv_has ls 6 [(0, .ref sk), (1, .int p0), (2, .int p1), (3, .int p2)] := hl
  refine lv_aload_n hx hb dX8_joinedTo_0 rfl (lv_at hl 0 rfl) ?_
  refine lv_iload_n hx hb dX8_joinedTo_1 rfl (lv_at hl 1 rfl) ?_
  refine g_int (wr := []) (tr := []) (g_runV (As := [.int p0]) (rest := []) (wc := [(sk, .inr (8, [.ref s0, .ref s1, .ref s2, .ref s3, .ref s4, .ref s5, .ref s6, .ref s7, .ref s8, .ref s9, .ref s10, .ref s11, .int 1, .int 0, .int 0, .int 0]))]) (tc := []) (ci := 8) (q0 := 0) hx hb hml hown hg gw_self hP hD hK hS hA hnw hgk [0] [] (by decide) rfl rfl (c_Stock_has0 l D ks H.size sk s0 s1 s2 s3 s4 s5 s6 s7 s8 s9 s10 s11 p0) w1300 w1301 w1302 w164 w1303 rfl rfl hdV_yX8_has ⟨Nat.le_of_ble_eq_true rfl, Nat.le_of_ble_eq_true rfl⟩ rfl hl.1 rfl (Nat.le_of_ble_eq_true rfl) dX8_joinedTo_2 ⟨Nat.le_of_ble_eq_true rfl, Nat.le_of_ble_eq_true rfl⟩) hP hD hK hS hA [0] [] [] rfl rfl (by decide) (by decide) rfl (fun vr3 vu2 H locs vhw1 hP hD hK hS => ?_)
  have vhw1 : vr3 = 0 := vhw1
  subst vhw1
  have hP : va_P D vwCl [(sk, .inr (8, [.ref s0, .ref s1, .ref s2, .ref s3, .ref s4, .ref s5, .ref s6, .ref s7, .ref s8, .ref s9, .ref s10, .ref s11, .int 1, .int 0, .int 0, .int 0]))] H := hP
  have hD : va_D A [(sk, .inr (8, [.ref s0, .ref s1, .ref s2, .ref s3, .ref s4, .ref s5, .ref s6, .ref s7, .ref s8, .ref s9, .ref s10, .ref s11, .int 1, .int 0, .int 0, .int 0]))] := hD
  have hK : va_K D vwCl [] s := hK
  refine lv_if_eq (tgt := 22) hx hb dX8_joinedTo_5 (by decide) (fun _ => ?_) (fun q => absurd (by decide) q)
  refine lv_iconst (v := (-1)) hx hb dX8_joinedTo_22 (by decide) ?_
  refine W.widen (k := 0) (n := 0) (Nat.le_of_ble_eq_true rfl) (Nat.le_of_ble_eq_true rfl) ?_
  have hP9 := hP.sub (ws' := []) [] rfl
  have hD9 := hD.sub (ws' := []) [] (by decide) rfl
  have hK9 := hK.sub (tys' := []) [] rfl
  exact W.iret (v := (-1)) hx hb hr (fun t ht hW => ⟨⟨(-1), (), rfl, (by first | rfl | trivial | assumption | decide), by rw [ht]; exact hP9, va_K.moved hW.alike hK9, hD9⟩, hS.F ht⟩) hS.2.2 dX8_joinedTo_23
abbrev r_c_noteCause0 : Room := { frames := 0, cells := 0, slots := 0, locals := 0 }
abbrev q_c_noteCause0 (D : va_G) (nt : Nat) (n0 : Nat) (n1 : Nat) (n2 : Nat) (n3 : Nat) (n4 : Nat) (A : Nat → Prop) : Array Value → State → Outcome → State → Prop := va_Qv (fun (_ : Unit) => True) (fun u t => gq D A ((fun (_ : Unit) => [(nt, .inr (7, [.ref n0, .ref n1, .ref n2, .ref n3, .ref n4, .int 0, .int 0, .int 0, .int 0, .int 0]))]) u) ((fun (_ : Unit) => ([] : List (ClassId × FieldType))) u) t) A
set_option maxHeartbeats 4000000 in
set_option maxRecDepth 100000 in
theorem c_noteCause0 (l : Launch) (D : va_G) (ks : Nat × Nat × Option Nat) (sz : Nat) (nt : Nat) (n0 : Nat) (n1 : Nat) (n2 : Nat) (n3 : Nat) (n4 : Nat) : Met l yX7_noteCause (Cond.code yX7_noteCause cX7_noteCause 3 none :: GW) r_c_noteCause0 (va_Pc [.ref nt, .int 0, .int 0] (gp D ks [(nt, .inr (7, [.ref n0, .ref n1, .ref n2, .ref n3, .ref n4, .int 0, .int 0, .int 0, .int 0, .int 0]))] [] sz)) (q_c_noteCause0 D nt n0 n1 n2 n3 n4 (va_A [(nt, .inr (7, [.ref n0, .ref n1, .ref n2, .ref n3, .ref n4, .int 0, .int 0, .int 0, .int 0, .int 0]))] sz)) 0 0 (va_A [(nt, .inr (7, [.ref n0, .ref n1, .ref n2, .ref n3, .ref n4, .int 0, .int 0, .int 0, .int 0, .int 0]))] sz) := by
  refine g_met (q_c_noteCause0 D nt n0 n1 n2 n3 n4) (by decide) (Nat.le_of_ble_eq_true rfl) ?_
  intro p e s m below meth c A ls H locs hx hb hr hml hown hg hlocks hin hnw hgk hP hK hD hS hA hl
  have hown : s.vm.findClass RX7 = some m.cls := hown
  have hl : lv_has ls 3 [(0, .ref nt), (1, .int 0), (2, .int 0)] := hl
  refine lv_aload_n hx hb dX7_noteCause_0 rfl (lv_at hl 0 rfl) ?_
  refine lv_iload_n hx hb dX7_noteCause_1 rfl (lv_at hl 1 rfl) ?_
  refine va_put (D := D) (ci := 7) (v := .int 0) (ty := tyX7 7) (C := RX7) (T := TX7) (N := 10) hx hb hg inX7 tyX7 tyX7_ok nmX7 hown hK hP hD hS 0 rfl rfl 7 (by decide) (hg _ w442) (fun _ h9 => h9) rfl (tyX7_ok 7 (by decide)) rfl rfl (Nat.le_of_ble_eq_true rfl) dX7_noteCause_2 (fun H locs hP hD hS => ?_)
  have hP : va_P D vwCl [(nt, .inr (7, [.ref n0, .ref n1, .ref n2, .ref n3, .ref n4, .int 0, .int 0, .int 0, .int 0, .int 0]))] H := hP
  have hD : va_D A [(nt, .inr (7, [.ref n0, .ref n1, .ref n2, .ref n3, .ref n4, .int 0, .int 0, .int 0, .int 0, .int 0]))] := hD
  refine lv_aload_n hx hb dX7_noteCause_5 rfl (lv_at hl 0 rfl) ?_
  refine lv_iload_n hx hb dX7_noteCause_6 rfl (lv_at hl 2 rfl) ?_
  refine va_put (D := D) (ci := 7) (v := .int 0) (ty := tyX7 8) (C := RX7) (T := TX7) (N := 10) hx hb hg inX7 tyX7 tyX7_ok nmX7 hown hK hP hD hS 0 rfl rfl 8 (by decide) (hg _ w443) (fun _ h9 => h9) rfl (tyX7_ok 8 (by decide)) rfl rfl (Nat.le_of_ble_eq_true rfl) dX7_noteCause_7 (fun H locs hP hD hS => ?_)
  have hP : va_P D vwCl [(nt, .inr (7, [.ref n0, .ref n1, .ref n2, .ref n3, .ref n4, .int 0, .int 0, .int 0, .int 0, .int 0]))] H := hP
  have hD : va_D A [(nt, .inr (7, [.ref n0, .ref n1, .ref n2, .ref n3, .ref n4, .int 0, .int 0, .int 0, .int 0, .int 0]))] := hD
  refine W.widen (k := 0) (n := 0) (Nat.le_of_ble_eq_true rfl) (Nat.le_of_ble_eq_true rfl) ?_
  have hP9 := hP.sub (ws' := [(nt, .inr (7, [.ref n0, .ref n1, .ref n2, .ref n3, .ref n4, .int 0, .int 0, .int 0, .int 0, .int 0]))]) [0] rfl
  have hD9 := hD.sub (ws' := [(nt, .inr (7, [.ref n0, .ref n1, .ref n2, .ref n3, .ref n4, .int 0, .int 0, .int 0, .int 0, .int 0]))]) [0] (by decide) rfl
  have hK9 := hK.sub (tys' := []) [] rfl
  exact W.vret hx hb hr (fun t ht hW => ⟨⟨(), rfl, (by first | rfl | trivial | assumption | decide), by rw [ht]; exact hP9, va_K.moved hW.alike hK9, hD9⟩, hS.F ht⟩) hS.2.2 dX7_noteCause_10
abbrev r_c_forgetThings0 : Room := { frames := 0, cells := 0, slots := 0, locals := 0 }
abbrev q_c_forgetThings0 (D : va_G) (nt : Nat) (n0 : Nat) (n1 : Nat) (n2 : Nat) (n3 : Nat) (n4 : Nat) (A : Nat → Prop) : Array Value → State → Outcome → State → Prop := va_Qv (fun (_ : Unit) => True) (fun u t => gq D A ((fun (_ : Unit) => [(nt, .inr (7, [.ref n0, .ref n1, .ref n2, .ref n3, .ref n4, .int 0, .int 0, .int 0, .int 0, .int 0]))]) u) ((fun (_ : Unit) => ([] : List (ClassId × FieldType))) u) t) A
set_option maxHeartbeats 4000000 in
set_option maxRecDepth 100000 in
theorem c_forgetThings0 (l : Launch) (D : va_G) (ks : Nat × Nat × Option Nat) (sz : Nat) (nt : Nat) (n0 : Nat) (n1 : Nat) (n2 : Nat) (n3 : Nat) (n4 : Nat) : Met l yX7_forgetThings (Cond.code yX7_forgetThings cX7_forgetThings 1 none :: GW) r_c_forgetThings0 (va_Pc [.ref nt] (gp D ks [(nt, .inr (7, [.ref n0, .ref n1, .ref n2, .ref n3, .ref n4, .int 0, .int 0, .int 0, .int 0, .int 0]))] [] sz)) (q_c_forgetThings0 D nt n0 n1 n2 n3 n4 (va_A [(nt, .inr (7, [.ref n0, .ref n1, .ref n2, .ref n3, .ref n4, .int 0, .int 0, .int 0, .int 0, .int 0]))] sz)) 0 0 (va_A [(nt, .inr (7, [.ref n0, .ref n1, .ref n2, .ref n3, .ref n4, .int 0, .int 0, .int 0, .int 0, .int 0]))] sz) := by
  refine g_met (q_c_forgetThings0 D nt n0 n1 n2 n3 n4) (by decide) (Nat.le_of_ble_eq_true rfl) ?_
  intro p e s m below meth c A ls H locs hx hb hr hml hown hg hlocks hin hnw hgk hP hK hD hS hA hl
  have hown : s.vm.findClass RX7 = some m.cls := hown
  have hl : lv_has ls 1 [(0, .ref nt)] := hl
  refine lv_aload_n hx hb dX7_forgetThings_0 rfl (lv_at hl 0 rfl) ?_
  refine lv_iconst (v := 0) hx hb dX7_forgetThings_1 (by decide) ?_
  refine va_put (D := D) (ci := 7) (v := .int 0) (ty := tyX7 5) (C := RX7) (T := TX7) (N := 10) hx hb hg inX7 tyX7 tyX7_ok nmX7 hown hK hP hD hS 0 rfl rfl 5 (by decide) (hg _ w440) (fun _ h9 => h9) rfl (tyX7_ok 5 (by decide)) rfl rfl (Nat.le_of_ble_eq_true rfl) dX7_forgetThings_2 (fun H locs hP hD hS => ?_)
  have hP : va_P D vwCl [(nt, .inr (7, [.ref n0, .ref n1, .ref n2, .ref n3, .ref n4, .int 0, .int 0, .int 0, .int 0, .int 0]))] H := hP
  have hD : va_D A [(nt, .inr (7, [.ref n0, .ref n1, .ref n2, .ref n3, .ref n4, .int 0, .int 0, .int 0, .int 0, .int 0]))] := hD
  refine W.widen (k := 0) (n := 0) (Nat.le_of_ble_eq_true rfl) (Nat.le_of_ble_eq_true rfl) ?_
  have hP9 := hP.sub (ws' := [(nt, .inr (7, [.ref n0, .ref n1, .ref n2, .ref n3, .ref n4, .int 0, .int 0, .int 0, .int 0, .int 0]))]) [0] rfl
  have hD9 := hD.sub (ws' := [(nt, .inr (7, [.ref n0, .ref n1, .ref n2, .ref n3, .ref n4, .int 0, .int 0, .int 0, .int 0, .int 0]))]) [0] (by decide) rfl
  have hK9 := hK.sub (tys' := []) [] rfl
  exact W.vret hx hb hr (fun t ht hW => ⟨⟨(), rfl, (by first | rfl | trivial | assumption | decide), by rw [ht]; exact hP9, va_K.moved hW.alike hK9, hD9⟩, hS.F ht⟩) hS.2.2 dX7_forgetThings_5
abbrev r_c_kindOfCause0 : Room := { frames := 0, cells := 0, slots := 0, locals := 0 }
abbrev q_c_kindOfCause0 (D : va_G) (nt : Nat) (n0 : Nat) (n1 : Nat) (n2 : Nat) (n3 : Nat) (n4 : Nat) (p0 : Int32) (A : Nat → Prop) : Array Value → State → Outcome → State → Prop := va_Qi (fun (r : Int32) (_ : Unit) => r = 0) (fun u t => gq D A ((fun (_ : Unit) => []) u) ((fun (_ : Unit) => ([] : List (ClassId × FieldType))) u) t) A
set_option maxHeartbeats 4000000 in
set_option maxRecDepth 100000 in
theorem c_kindOfCause0 (l : Launch) (D : va_G) (ks : Nat × Nat × Option Nat) (sz : Nat) (nt : Nat) (n0 : Nat) (n1 : Nat) (n2 : Nat) (n3 : Nat) (n4 : Nat) (p0 : Int32) : Met l yX7_kindOfCause (Cond.code yX7_kindOfCause cX7_kindOfCause 2 (some .int) :: GW) r_c_kindOfCause0 (va_Pc [.ref nt, .int p0] (gp D ks [(nt, .inr (7, [.ref n0, .ref n1, .ref n2, .ref n3, .ref n4, .int 0, .int 0, .int 0, .int 0, .int 0]))] [] sz)) (q_c_kindOfCause0 D nt n0 n1 n2 n3 n4 p0 (va_A [(nt, .inr (7, [.ref n0, .ref n1, .ref n2, .ref n3, .ref n4, .int 0, .int 0, .int 0, .int 0, .int 0]))] sz)) 0 0 (va_A [(nt, .inr (7, [.ref n0, .ref n1, .ref n2, .ref n3, .ref n4, .int 0, .int 0, .int 0, .int 0, .int 0]))] sz) := by
  refine g_met (q_c_kindOfCause0 D nt n0 n1 n2 n3 n4 p0) (by decide) (Nat.le_of_ble_eq_true rfl) ?_
  intro p e s m below meth c A ls H locs hx hb hr hml hown hg hlocks hin hnw hgk hP hK hD hS hA hl
  have hown : s.vm.findClass RX7 = some m.cls := hown
  have hl : lv_has ls 2 [(0, .ref nt), (1, .int p0)] := hl
  refine lv_iload_n hx hb dX7_kindOfCause_0 rfl (lv_at hl 1 rfl) ?_
  refine lv_if_lt (tgt := 12) hx hb dX7_kindOfCause_1 (by decide) (fun vc1 => ?_) (fun vc1 => ?_)
  · skip
    refine lv_iconst (v := 0) hx hb dX7_kindOfCause_12 (by decide) ?_
    refine W.widen (k := 0) (n := 0) (Nat.le_of_ble_eq_true rfl) (Nat.le_of_ble_eq_true rfl) ?_
    have hP9 := hP.sub (ws' := []) [] rfl
    have hD9 := hD.sub (ws' := []) [] (by decide) rfl
    have hK9 := hK.sub (tys' := []) [] rfl
    exact W.iret (v := 0) hx hb hr (fun t ht hW => ⟨⟨0, (), rfl, (by first | rfl | trivial | assumption | decide), by rw [ht]; exact hP9, va_K.moved hW.alike hK9, hD9⟩, hS.F ht⟩) hS.2.2 dX7_kindOfCause_13
  · skip
    refine lv_iload_n hx hb dX7_kindOfCause_4 rfl (lv_at hl 1 rfl) ?_
    refine lv_aload_n hx hb dX7_kindOfCause_5 rfl (lv_at hl 0 rfl) ?_
    refine va_get (D := D) (ci := 7) (v := .int 0) (C := RX7) (T := TX7) (N := 10) hx hb hg inX7 hown hK hP 0 rfl rfl 7 (by decide) (hg _ w442) (fun _ h9 => h9) rfl dX7_kindOfCause_6 ?_
    refine lv_icmp_le (tgt := 14) hx hb dX7_kindOfCause_9 (by decide) (fun vc2 => ?_) (fun vc2 => ?_)
    · skip
      refine lv_iload_n hx hb dX7_kindOfCause_14 rfl (lv_at hl 1 rfl) ?_
      refine lv_aload_n hx hb dX7_kindOfCause_15 rfl (lv_at hl 0 rfl) ?_
      refine va_get (D := D) (ci := 7) (v := .int 0) (C := RX7) (T := TX7) (N := 10) hx hb hg inX7 hown hK hP 0 rfl rfl 7 (by decide) (hg _ w442) (fun _ h9 => h9) rfl dX7_kindOfCause_16 ?_
      refine lv_icmp_ge (tgt := 27) hx hb dX7_kindOfCause_19 (by decide) (fun _ => ?_) (fun q => absurd (Int32.not_lt.mp vc1) q)
      refine lv_aload_n hx hb dX7_kindOfCause_27 rfl (lv_at hl 0 rfl) ?_
      refine va_get (D := D) (ci := 7) (v := .int 0) (C := RX7) (T := TX7) (N := 10) hx hb hg inX7 hown hK hP 0 rfl rfl 8 (by decide) (hg _ w443) (fun _ h9 => h9) rfl dX7_kindOfCause_28 ?_
      refine W.widen (k := 0) (n := 0) (Nat.le_of_ble_eq_true rfl) (Nat.le_of_ble_eq_true rfl) ?_
      have hP9 := hP.sub (ws' := []) [] rfl
      have hD9 := hD.sub (ws' := []) [] (by decide) rfl
      have hK9 := hK.sub (tys' := []) [] rfl
      exact W.iret (v := 0) hx hb hr (fun t ht hW => ⟨⟨0, (), rfl, (by first | rfl | trivial | assumption | decide), by rw [ht]; exact hP9, va_K.moved hW.alike hK9, hD9⟩, hS.F ht⟩) hS.2.2 dX7_kindOfCause_31
    · skip
      refine lv_iconst (v := 0) hx hb dX7_kindOfCause_12 (by decide) ?_
      refine W.widen (k := 0) (n := 0) (Nat.le_of_ble_eq_true rfl) (Nat.le_of_ble_eq_true rfl) ?_
      have hP9 := hP.sub (ws' := []) [] rfl
      have hD9 := hD.sub (ws' := []) [] (by decide) rfl
      have hK9 := hK.sub (tys' := []) [] rfl
      exact W.iret (v := 0) hx hb hr (fun t ht hW => ⟨⟨0, (), rfl, (by first | rfl | trivial | assumption | decide), by rw [ht]; exact hP9, va_K.moved hW.alike hK9, hD9⟩, hS.F ht⟩) hS.2.2 dX7_kindOfCause_13
abbrev r_c_ofThing0 : Room := { frames := 0, cells := 0, slots := 0, locals := 0 }
abbrev q_c_ofThing0 (D : va_G) (nt : Nat) (n0 : Nat) (n1 : Nat) (n2 : Nat) (n3 : Nat) (n4 : Nat) (p0 : Int32) (p1 : Int32) (A : Nat → Prop) : Array Value → State → Outcome → State → Prop := va_Qi (fun (r : Int32) (_ : Unit) => r = -1) (fun u t => gq D A ((fun (_ : Unit) => []) u) ((fun (_ : Unit) => ([] : List (ClassId × FieldType))) u) t) A
set_option maxHeartbeats 4000000 in
set_option maxRecDepth 100000 in
theorem c_ofThing0 (l : Launch) (D : va_G) (ks : Nat × Nat × Option Nat) (sz : Nat) (nt : Nat) (n0 : Nat) (n1 : Nat) (n2 : Nat) (n3 : Nat) (n4 : Nat) (p0 : Int32) (p1 : Int32) : Met l yX7_ofThing (Cond.code yX7_ofThing cX7_ofThing 3 (some .int) :: GW) r_c_ofThing0 (va_Pc [.ref nt, .int p0, .int p1] (gp D ks [(nt, .inr (7, [.ref n0, .ref n1, .ref n2, .ref n3, .ref n4, .int 0, .int 0, .int 0, .int 0, .int 0]))] [] sz)) (q_c_ofThing0 D nt n0 n1 n2 n3 n4 p0 p1 (va_A [(nt, .inr (7, [.ref n0, .ref n1, .ref n2, .ref n3, .ref n4, .int 0, .int 0, .int 0, .int 0, .int 0]))] sz)) 0 0 (va_A [(nt, .inr (7, [.ref n0, .ref n1, .ref n2, .ref n3, .ref n4, .int 0, .int 0, .int 0, .int 0, .int 0]))] sz) := by
  refine g_met (q_c_ofThing0 D nt n0 n1 n2 n3 n4 p0 p1) (by decide) (Nat.le_of_ble_eq_true rfl) ?_
  intro p e s m below meth c A ls H locs hx hb hr hml hown hg hlocks hin hnw hgk hP hK hD hS hA hl
  have hown : s.vm.findClass RX7 = some m.cls := hown
  have hl : lv_has ls 3 [(0, .ref nt), (1, .int p0), (2, .int p1)] := hl
  refine lv_iload_n hx hb dX7_ofThing_0 rfl (lv_at hl 1 rfl) ?_
  refine lv_if_lt (tgt := 12) hx hb dX7_ofThing_1 (by decide) (fun vc1 => ?_) (fun vc1 => ?_)
  · skip
    refine lv_iconst (v := (-1)) hx hb dX7_ofThing_12 (by decide) ?_
    refine W.widen (k := 0) (n := 0) (Nat.le_of_ble_eq_true rfl) (Nat.le_of_ble_eq_true rfl) ?_
    have hP9 := hP.sub (ws' := []) [] rfl
    have hD9 := hD.sub (ws' := []) [] (by decide) rfl
    have hK9 := hK.sub (tys' := []) [] rfl
    exact W.iret (v := (-1)) hx hb hr (fun t ht hW => ⟨⟨(-1), (), rfl, (by first | rfl | trivial | assumption | decide), by rw [ht]; exact hP9, va_K.moved hW.alike hK9, hD9⟩, hS.F ht⟩) hS.2.2 dX7_ofThing_13
  · skip
    refine lv_iload_n hx hb dX7_ofThing_4 rfl (lv_at hl 1 rfl) ?_
    refine lv_aload_n hx hb dX7_ofThing_5 rfl (lv_at hl 0 rfl) ?_
    refine va_get (D := D) (ci := 7) (v := .int 0) (C := RX7) (T := TX7) (N := 10) hx hb hg inX7 hown hK hP 0 rfl rfl 5 (by decide) (hg _ w440) (fun _ h9 => h9) rfl dX7_ofThing_6 ?_
    refine lv_icmp_lt (tgt := 14) hx hb dX7_ofThing_9 (by decide) (fun q => absurd q vc1) (fun _ => ?_)
    refine lv_iconst (v := (-1)) hx hb dX7_ofThing_12 (by decide) ?_
    refine W.widen (k := 0) (n := 0) (Nat.le_of_ble_eq_true rfl) (Nat.le_of_ble_eq_true rfl) ?_
    have hP9 := hP.sub (ws' := []) [] rfl
    have hD9 := hD.sub (ws' := []) [] (by decide) rfl
    have hK9 := hK.sub (tys' := []) [] rfl
    exact W.iret (v := (-1)) hx hb hr (fun t ht hW => ⟨⟨(-1), (), rfl, (by first | rfl | trivial | assumption | decide), by rw [ht]; exact hP9, va_K.moved hW.alike hK9, hD9⟩, hS.F ht⟩) hS.2.2 dX7_ofThing_13
abbrev r_c_ofClosing0 : Room := { frames := 0, cells := 0, slots := 0, locals := 0 }
abbrev q_c_ofClosing0 (D : va_G) (nt : Nat) (n0 : Nat) (n1 : Nat) (n2 : Nat) (n3 : Nat) (n4 : Nat) (p0 : Int32) (p1 : Int32) (A : Nat → Prop) : Array Value → State → Outcome → State → Prop := va_Qi (fun (r : Int32) (_ : Unit) => r = -1) (fun u t => gq D A ((fun (_ : Unit) => []) u) ((fun (_ : Unit) => ([] : List (ClassId × FieldType))) u) t) A
set_option maxHeartbeats 4000000 in
set_option maxRecDepth 100000 in
theorem c_ofClosing0 (l : Launch) (D : va_G) (ks : Nat × Nat × Option Nat) (sz : Nat) (nt : Nat) (n0 : Nat) (n1 : Nat) (n2 : Nat) (n3 : Nat) (n4 : Nat) (p0 : Int32) (p1 : Int32) : Met l yX7_ofClosing (Cond.code yX7_ofClosing cX7_ofClosing 3 (some .int) :: GW) r_c_ofClosing0 (va_Pc [.ref nt, .int p0, .int p1] (gp D ks [(nt, .inr (7, [.ref n0, .ref n1, .ref n2, .ref n3, .ref n4, .int 0, .int 0, .int 0, .int 0, .int 0]))] [] sz)) (q_c_ofClosing0 D nt n0 n1 n2 n3 n4 p0 p1 (va_A [(nt, .inr (7, [.ref n0, .ref n1, .ref n2, .ref n3, .ref n4, .int 0, .int 0, .int 0, .int 0, .int 0]))] sz)) 0 0 (va_A [(nt, .inr (7, [.ref n0, .ref n1, .ref n2, .ref n3, .ref n4, .int 0, .int 0, .int 0, .int 0, .int 0]))] sz) := by
  refine g_met (q_c_ofClosing0 D nt n0 n1 n2 n3 n4 p0 p1) (by decide) (Nat.le_of_ble_eq_true rfl) ?_
  intro p e s m below meth c A ls H locs hx hb hr hml hown hg hlocks hin hnw hgk hP hK hD hS hA hl
  have hown : s.vm.findClass RX7 = some m.cls := hown
  have hl : lv_has ls 3 [(0, .ref nt), (1, .int p0), (2, .int p1)] := hl
  refine lv_iload_n hx hb dX7_ofClosing_0 rfl (lv_at hl 1 rfl) ?_
  refine lv_if_lt (tgt := 12) hx hb dX7_ofClosing_1 (by decide) (fun vc1 => ?_) (fun vc1 => ?_)
  · skip
    refine lv_iconst (v := (-1)) hx hb dX7_ofClosing_12 (by decide) ?_
    refine W.widen (k := 0) (n := 0) (Nat.le_of_ble_eq_true rfl) (Nat.le_of_ble_eq_true rfl) ?_
    have hP9 := hP.sub (ws' := []) [] rfl
    have hD9 := hD.sub (ws' := []) [] (by decide) rfl
    have hK9 := hK.sub (tys' := []) [] rfl
    exact W.iret (v := (-1)) hx hb hr (fun t ht hW => ⟨⟨(-1), (), rfl, (by first | rfl | trivial | assumption | decide), by rw [ht]; exact hP9, va_K.moved hW.alike hK9, hD9⟩, hS.F ht⟩) hS.2.2 dX7_ofClosing_13
  · skip
    refine lv_iload_n hx hb dX7_ofClosing_4 rfl (lv_at hl 1 rfl) ?_
    refine lv_aload_n hx hb dX7_ofClosing_5 rfl (lv_at hl 0 rfl) ?_
    refine va_get (D := D) (ci := 7) (v := .int 0) (C := RX7) (T := TX7) (N := 10) hx hb hg inX7 hown hK hP 0 rfl rfl 6 (by decide) (hg _ w441) (fun _ h9 => h9) rfl dX7_ofClosing_6 ?_
    refine lv_icmp_lt (tgt := 14) hx hb dX7_ofClosing_9 (by decide) (fun q => absurd q vc1) (fun _ => ?_)
    refine lv_iconst (v := (-1)) hx hb dX7_ofClosing_12 (by decide) ?_
    refine W.widen (k := 0) (n := 0) (Nat.le_of_ble_eq_true rfl) (Nat.le_of_ble_eq_true rfl) ?_
    have hP9 := hP.sub (ws' := []) [] rfl
    have hD9 := hD.sub (ws' := []) [] (by decide) rfl
    have hK9 := hK.sub (tys' := []) [] rfl
    exact W.iret (v := (-1)) hx hb hr (fun t ht hW => ⟨⟨(-1), (), rfl, (by first | rfl | trivial | assumption | decide), by rw [ht]; exact hP9, va_K.moved hW.alike hK9, hD9⟩, hS.F ht⟩) hS.2.2 dX7_ofClosing_13
abbrev r_c_tells0 : Room := { frames := 0, cells := 0, slots := 0, locals := 0 }
abbrev q_c_tells0 (D : va_G) (ck : Nat) (c0 : Nat) (c1 : Nat) (c2 : Nat) (c3 : Nat) (c4 : Nat) (c5 : Nat) (p0 : Int32) (A : Nat → Prop) : Array Value → State → Outcome → State → Prop := va_Qi (fun (r : Int32) (_ : Unit) => r = 0) (fun u t => gq D A ((fun (_ : Unit) => [(ck, .inr (2, [.ref c0, .ref c1, .ref c2, .ref c3, .ref c4, .ref c5, .null, .int 0]))]) u) ((fun (_ : Unit) => ([] : List (ClassId × FieldType))) u) t) A
set_option maxHeartbeats 4000000 in
set_option maxRecDepth 100000 in
theorem c_tells0 (l : Launch) (D : va_G) (ks : Nat × Nat × Option Nat) (sz : Nat) (ck : Nat) (c0 : Nat) (c1 : Nat) (c2 : Nat) (c3 : Nat) (c4 : Nat) (c5 : Nat) (p0 : Int32) : Met l yX2_tells (Cond.code yX2_tells cX2_tells 2 (some .boolean) :: GW) r_c_tells0 (va_Pc [.ref ck, .int p0] (gp D ks [(ck, .inr (2, [.ref c0, .ref c1, .ref c2, .ref c3, .ref c4, .ref c5, .null, .int 0]))] [] sz)) (q_c_tells0 D ck c0 c1 c2 c3 c4 c5 p0 (va_A [(ck, .inr (2, [.ref c0, .ref c1, .ref c2, .ref c3, .ref c4, .ref c5, .null, .int 0]))] sz)) 0 0 (va_A [(ck, .inr (2, [.ref c0, .ref c1, .ref c2, .ref c3, .ref c4, .ref c5, .null, .int 0]))] sz) := by
  refine g_met (q_c_tells0 D ck c0 c1 c2 c3 c4 c5 p0) (by decide) (Nat.le_of_ble_eq_true rfl) ?_
  intro p e s m below meth c A ls H locs hx hb hr hml hown hg hlocks hin hnw hgk hP hK hD hS hA hl
  have hown : s.vm.findClass RX2 = some m.cls := hown
  have hl : lv_has ls 2 [(0, .ref ck), (1, .int p0)] := hl
  refine lv_iload_n hx hb dX2_tells_0 rfl (lv_at hl 1 rfl) ?_
  refine lv_if_lt (tgt := 22) hx hb dX2_tells_1 (by decide) (fun vc1 => ?_) (fun vc1 => ?_)
  · skip
    refine lv_iconst (v := 0) hx hb dX2_tells_22 (by decide) ?_
    refine W.widen (k := 0) (n := 0) (Nat.le_of_ble_eq_true rfl) (Nat.le_of_ble_eq_true rfl) ?_
    have hP9 := hP.sub (ws' := [(ck, .inr (2, [.ref c0, .ref c1, .ref c2, .ref c3, .ref c4, .ref c5, .null, .int 0]))]) [0] rfl
    have hD9 := hD.sub (ws' := [(ck, .inr (2, [.ref c0, .ref c1, .ref c2, .ref c3, .ref c4, .ref c5, .null, .int 0]))]) [0] (by decide) rfl
    have hK9 := hK.sub (tys' := []) [] rfl
    exact W.zret (v := 0) hx hb hr rfl (fun t ht hW => ⟨⟨0, (), rfl, (by first | rfl | trivial | assumption | decide), by rw [ht]; exact hP9, va_K.moved hW.alike hK9, hD9⟩, hS.F ht⟩) hS.2.2 dX2_tells_23
  · skip
    refine lv_iload_n hx hb dX2_tells_4 rfl (lv_at hl 1 rfl) ?_
    refine lv_aload_n hx hb dX2_tells_5 rfl (lv_at hl 0 rfl) ?_
    refine va_get (D := D) (ci := 2) (v := .int 0) (C := RX2) (T := TX2) (N := 8) hx hb hg inX2 hown hK hP 0 rfl rfl 7 (by decide) (hg _ w345) (fun _ h9 => h9) rfl dX2_tells_6 ?_
    refine lv_icmp_ge (tgt := 22) hx hb dX2_tells_9 (by decide) (fun _ => ?_) (fun q => absurd (Int32.not_lt.mp vc1) q)
    refine lv_iconst (v := 0) hx hb dX2_tells_22 (by decide) ?_
    refine W.widen (k := 0) (n := 0) (Nat.le_of_ble_eq_true rfl) (Nat.le_of_ble_eq_true rfl) ?_
    have hP9 := hP.sub (ws' := [(ck, .inr (2, [.ref c0, .ref c1, .ref c2, .ref c3, .ref c4, .ref c5, .null, .int 0]))]) [0] rfl
    have hD9 := hD.sub (ws' := [(ck, .inr (2, [.ref c0, .ref c1, .ref c2, .ref c3, .ref c4, .ref c5, .null, .int 0]))]) [0] (by decide) rfl
    have hK9 := hK.sub (tys' := []) [] rfl
    exact W.zret (v := 0) hx hb hr rfl (fun t ht hW => ⟨⟨0, (), rfl, (by first | rfl | trivial | assumption | decide), by rw [ht]; exact hP9, va_K.moved hW.alike hK9, hD9⟩, hS.F ht⟩) hS.2.2 dX2_tells_23
abbrev r_c_tell0 : Room := { frames := 1, cells := 0, slots := 0, locals := 21 }
abbrev q_c_tell0 (D : va_G) (ck : Nat) (c0 : Nat) (c1 : Nat) (c2 : Nat) (c3 : Nat) (c4 : Nat) (c5 : Nat) (p0 : Int32) (p1 : Int32) (A : Nat → Prop) : Array Value → State → Outcome → State → Prop := va_Qi (fun (r : Int32) (_ : Unit) => r = -1) (fun u t => gq D A ((fun (_ : Unit) => []) u) ((fun (_ : Unit) => ([] : List (ClassId × FieldType))) u) t) A
set_option maxHeartbeats 4000000 in
set_option maxRecDepth 100000 in
theorem c_tell0 (l : Launch) (D : va_G) (ks : Nat × Nat × Option Nat) (sz : Nat) (ck : Nat) (c0 : Nat) (c1 : Nat) (c2 : Nat) (c3 : Nat) (c4 : Nat) (c5 : Nat) (p0 : Int32) (p1 : Int32) : Met l yX2_tell (Cond.code yX2_tell cX2_tell 3 (some .int) :: GW) r_c_tell0 (va_Pc [.ref ck, .int p0, .int p1] (gp D ks [(ck, .inr (2, [.ref c0, .ref c1, .ref c2, .ref c3, .ref c4, .ref c5, .null, .int 0]))] [] sz)) (q_c_tell0 D ck c0 c1 c2 c3 c4 c5 p0 p1 (va_A [(ck, .inr (2, [.ref c0, .ref c1, .ref c2, .ref c3, .ref c4, .ref c5, .null, .int 0]))] sz)) 0 0 (va_A [(ck, .inr (2, [.ref c0, .ref c1, .ref c2, .ref c3, .ref c4, .ref c5, .null, .int 0]))] sz) := by
  refine g_met (q_c_tell0 D ck c0 c1 c2 c3 c4 c5 p0 p1) (by decide) (Nat.le_of_ble_eq_true rfl) ?_
  intro p e s m below meth c A ls H locs hx hb hr hml hown hg hlocks hin hnw hgk hP hK hD hS hA hl
  have hown : s.vm.findClass RX2 = some m.cls := hown
  have hl : lv_has ls 3 [(0, .ref ck), (1, .int p0), (2, .int p1)] := hl
  refine lv_aload_n hx hb dX2_tell_0 rfl (lv_at hl 0 rfl) ?_
  refine lv_iload_n hx hb dX2_tell_1 rfl (lv_at hl 1 rfl) ?_
  refine g_int (wr := []) (tr := []) (g_runV (As := [.int p0]) (rest := []) (wc := [(ck, .inr (2, [.ref c0, .ref c1, .ref c2, .ref c3, .ref c4, .ref c5, .null, .int 0]))]) (tc := []) (ci := 2) (q0 := 0) hx hb hml hown hg gw_self hP hD hK hS hA hnw hgk [0] [] (by decide) rfl rfl (c_tells0 l D ks H.size ck c0 c1 c2 c3 c4 c5 p0) w1121 w1123 w41 w163 w1124 rfl rfl hdV_yX2_tells ⟨Nat.le_of_ble_eq_true rfl, Nat.le_of_ble_eq_true rfl⟩ rfl hl.1 rfl (Nat.le_of_ble_eq_true rfl) dX2_tell_2 ⟨Nat.le_of_ble_eq_true rfl, Nat.le_of_ble_eq_true rfl⟩) hP hD hK hS hA [0] [] [] rfl rfl (by decide) (by decide) rfl (fun vr3 vu2 H locs vhw1 hP hD hK hS => ?_)
  have vhw1 : vr3 = 0 := vhw1
  subst vhw1
  have hP : va_P D vwCl [(ck, .inr (2, [.ref c0, .ref c1, .ref c2, .ref c3, .ref c4, .ref c5, .null, .int 0]))] H := hP
  have hD : va_D A [(ck, .inr (2, [.ref c0, .ref c1, .ref c2, .ref c3, .ref c4, .ref c5, .null, .int 0]))] := hD
  have hK : va_K D vwCl [] s := hK
  refine lv_if_ne (tgt := 10) hx hb dX2_tell_5 (by decide) (fun q => absurd rfl q) (fun _ => ?_)
  refine lv_iconst (v := (-1)) hx hb dX2_tell_8 (by decide) ?_
  refine W.widen (k := 0) (n := 0) (Nat.le_of_ble_eq_true rfl) (Nat.le_of_ble_eq_true rfl) ?_
  have hP9 := hP.sub (ws' := []) [] rfl
  have hD9 := hD.sub (ws' := []) [] (by decide) rfl
  have hK9 := hK.sub (tys' := []) [] rfl
  exact W.iret (v := (-1)) hx hb hr (fun t ht hW => ⟨⟨(-1), (), rfl, (by first | rfl | trivial | assumption | decide), by rw [ht]; exact hP9, va_K.moved hW.alike hK9, hD9⟩, hS.F ht⟩) hS.2.2 dX2_tell_9
abbrev r_c_onRing0 : Room := { frames := 1, cells := 0, slots := 0, locals := 21 }
abbrev q_c_onRing0 (D : va_G) (ck : Nat) (c0 : Nat) (c1 : Nat) (c2 : Nat) (c3 : Nat) (c4 : Nat) (c5 : Nat) (p0 : Int32) (p1 : Int32) (A : Nat → Prop) : Array Value → State → Outcome → State → Prop := va_Qi (fun (r : Int32) (_ : Unit) => r = -1) (fun u t => gq D A ((fun (_ : Unit) => []) u) ((fun (_ : Unit) => ([] : List (ClassId × FieldType))) u) t) A
set_option maxHeartbeats 4000000 in
set_option maxRecDepth 100000 in
theorem c_onRing0 (l : Launch) (D : va_G) (ks : Nat × Nat × Option Nat) (sz : Nat) (ck : Nat) (c0 : Nat) (c1 : Nat) (c2 : Nat) (c3 : Nat) (c4 : Nat) (c5 : Nat) (p0 : Int32) (p1 : Int32) : Met l yX2_onRing (Cond.code yX2_onRing cX2_onRing 4 (some .int) :: GW) r_c_onRing0 (va_Pc [.ref ck, .int p0, .int p1] (gp D ks [(ck, .inr (2, [.ref c0, .ref c1, .ref c2, .ref c3, .ref c4, .ref c5, .null, .int 0]))] [] sz)) (q_c_onRing0 D ck c0 c1 c2 c3 c4 c5 p0 p1 (va_A [(ck, .inr (2, [.ref c0, .ref c1, .ref c2, .ref c3, .ref c4, .ref c5, .null, .int 0]))] sz)) 0 0 (va_A [(ck, .inr (2, [.ref c0, .ref c1, .ref c2, .ref c3, .ref c4, .ref c5, .null, .int 0]))] sz) := by
  refine g_met (q_c_onRing0 D ck c0 c1 c2 c3 c4 c5 p0 p1) (by decide) (Nat.le_of_ble_eq_true rfl) ?_
  intro p e s m below meth c A ls H locs hx hb hr hml hown hg hlocks hin hnw hgk hP hK hD hS hA hl
  have hown : s.vm.findClass RX2 = some m.cls := hown
  have hl : lv_has ls 4 [(0, .ref ck), (1, .int p0), (2, .int p1)] := hl
  refine lv_aload_n hx hb dX2_onRing_0 rfl (lv_at hl 0 rfl) ?_
  refine lv_iload_n hx hb dX2_onRing_1 rfl (lv_at hl 1 rfl) ?_
  refine g_int (wr := []) (tr := []) (g_runV (As := [.int p0]) (rest := []) (wc := [(ck, .inr (2, [.ref c0, .ref c1, .ref c2, .ref c3, .ref c4, .ref c5, .null, .int 0]))]) (tc := []) (ci := 2) (q0 := 0) hx hb hml hown hg gw_self hP hD hK hS hA hnw hgk [0] [] (by decide) rfl rfl (c_tells0 l D ks H.size ck c0 c1 c2 c3 c4 c5 p0) w1121 w1123 w41 w163 w1124 rfl rfl hdV_yX2_tells ⟨Nat.le_of_ble_eq_true rfl, Nat.le_of_ble_eq_true rfl⟩ rfl hl.1 rfl (Nat.le_of_ble_eq_true rfl) dX2_onRing_2 ⟨Nat.le_of_ble_eq_true rfl, Nat.le_of_ble_eq_true rfl⟩) hP hD hK hS hA [0] [] [] rfl rfl (by decide) (by decide) rfl (fun vr3 vu2 H locs vhw1 hP hD hK hS => ?_)
  have vhw1 : vr3 = 0 := vhw1
  subst vhw1
  have hP : va_P D vwCl [(ck, .inr (2, [.ref c0, .ref c1, .ref c2, .ref c3, .ref c4, .ref c5, .null, .int 0]))] H := hP
  have hD : va_D A [(ck, .inr (2, [.ref c0, .ref c1, .ref c2, .ref c3, .ref c4, .ref c5, .null, .int 0]))] := hD
  have hK : va_K D vwCl [] s := hK
  refine lv_if_eq (tgt := 22) hx hb dX2_onRing_5 (by decide) (fun _ => ?_) (fun q => absurd (by decide) q)
  refine lv_iconst (v := 0) hx hb dX2_onRing_22 (by decide) ?_
  refine lv_istore_n (lv' := [(3, .int 0), (0, .ref ck), (1, .int p0), (2, .int p1)]) hx hb dX2_onRing_23 rfl hl (by decide) rfl (fun ls hl => ?_)
  refine lv_iload_n hx hb dX2_onRing_24 rfl (lv_at hl 0 rfl) ?_
  refine lv_if_eq (tgt := 56) hx hb dX2_onRing_25 (by decide) (fun _ => ?_) (fun q => absurd (by decide) q)
  refine lv_iconst (v := (-1)) hx hb dX2_onRing_56 (by decide) ?_
  refine W.widen (k := 0) (n := 0) (Nat.le_of_ble_eq_true rfl) (Nat.le_of_ble_eq_true rfl) ?_
  have hP9 := hP.sub (ws' := []) [] rfl
  have hD9 := hD.sub (ws' := []) [] (by decide) rfl
  have hK9 := hK.sub (tys' := []) [] rfl
  exact W.iret (v := (-1)) hx hb hr (fun t ht hW => ⟨⟨(-1), (), rfl, (by first | rfl | trivial | assumption | decide), by rw [ht]; exact hP9, va_K.moved hW.alike hK9, hD9⟩, hS.F ht⟩) hS.2.2 dX2_onRing_57
abbrev r_c_examine0 : Room := { frames := 1, cells := 0, slots := 0, locals := 23 }
abbrev q_c_examine0 (D : va_G) (ck : Nat) (c0 : Nat) (c1 : Nat) (c2 : Nat) (c3 : Nat) (c4 : Nat) (c5 : Nat) (kc5 : ClassId) (sh : Nat) (b0 : Nat) (b1 : Nat) (b2 : Nat) (b3 : Nat) (b4 : Nat) (d5 : Nat) (d6 : Nat) (d7 : Nat) (d8 : Nat) (d9 : Nat) (d10 : Nat) (e2 : Nat) (A : Nat → Prop) : Array Value → State → Outcome → State → Prop := va_Qi (fun (r : Int32) (_ : Unit) => r = 0) (fun u t => gq D A ((fun (_ : Unit) => []) u) ((fun (_ : Unit) => ([] : List (ClassId × FieldType))) u) t) A
set_option maxHeartbeats 4000000 in
set_option maxRecDepth 100000 in
theorem c_examine0 (l : Launch) (D : va_G) (ks : Nat × Nat × Option Nat) (sz : Nat) (ck : Nat) (c0 : Nat) (c1 : Nat) (c2 : Nat) (c3 : Nat) (c4 : Nat) (c5 : Nat) (kc5 : ClassId) (sh : Nat) (b0 : Nat) (b1 : Nat) (b2 : Nat) (b3 : Nat) (b4 : Nat) (d5 : Nat) (d6 : Nat) (d7 : Nat) (d8 : Nat) (d9 : Nat) (d10 : Nat) (e2 : Nat) : Met l yX2_examine (Cond.code yX2_examine cX2_examine 3 (some .int) :: GW) r_c_examine0 (va_Pc [.ref ck, .ref sh] (gp D ks [(ck, .inr (2, [.ref c0, .ref c1, .ref c2, .ref c3, .ref c4, .ref c5, .null, .int 0])), (c5, .inl (kc5, 24, .inl (fun _ => 0))), (sh, .inr (0, [.ref b0, .ref b1, .ref b2, .ref b3, .ref b4, .ref d5, .ref d6, .ref d7, .ref d8, .ref d9, .ref d10, .int 0, .int 0])), (b2, .inr (6, [.ref e2, .int 0]))] [(kc5, .int)] sz)) (q_c_examine0 D ck c0 c1 c2 c3 c4 c5 kc5 sh b0 b1 b2 b3 b4 d5 d6 d7 d8 d9 d10 e2 (va_A [(ck, .inr (2, [.ref c0, .ref c1, .ref c2, .ref c3, .ref c4, .ref c5, .null, .int 0])), (c5, .inl (kc5, 24, .inl (fun _ => 0))), (sh, .inr (0, [.ref b0, .ref b1, .ref b2, .ref b3, .ref b4, .ref d5, .ref d6, .ref d7, .ref d8, .ref d9, .ref d10, .int 0, .int 0])), (b2, .inr (6, [.ref e2, .int 0]))] sz)) 0 0 (va_A [(ck, .inr (2, [.ref c0, .ref c1, .ref c2, .ref c3, .ref c4, .ref c5, .null, .int 0])), (c5, .inl (kc5, 24, .inl (fun _ => 0))), (sh, .inr (0, [.ref b0, .ref b1, .ref b2, .ref b3, .ref b4, .ref d5, .ref d6, .ref d7, .ref d8, .ref d9, .ref d10, .int 0, .int 0])), (b2, .inr (6, [.ref e2, .int 0]))] sz) := by
  refine g_met (q_c_examine0 D ck c0 c1 c2 c3 c4 c5 kc5 sh b0 b1 b2 b3 b4 d5 d6 d7 d8 d9 d10 e2) (by decide) (Nat.le_of_ble_eq_true rfl) ?_
  intro p e s m below meth c A ls H locs hx hb hr hml hown hg hlocks hin hnw hgk hP hK hD hS hA hl
  have hown : s.vm.findClass RX2 = some m.cls := hown
  have hl : lv_has ls 3 [(0, .ref ck), (1, .ref sh)] := hl
  refine lv_aload_n hx hb dX2_examine_0 rfl (lv_at hl 0 rfl) ?_
  refine lv_aload_n hx hb dX2_examine_1 rfl (lv_at hl 1 rfl) ?_
  refine va_put (D := D) (ci := 2) (v := .ref sh) (ty := tyX2 6) (C := RX2) (T := TX2) (N := 8) hx hb hg inX2 tyX2 tyX2_ok nmX2 hown hK hP hD hS 0 rfl rfl 6 (by decide) (hg _ w344) (fun _ h9 => h9) rfl (tyX2_ok 6 (by decide)) rfl rfl (Nat.le_of_ble_eq_true rfl) dX2_examine_2 (fun H locs hP hD hS => ?_)
  have hP : va_P D vwCl [(ck, .inr (2, [.ref c0, .ref c1, .ref c2, .ref c3, .ref c4, .ref c5, .ref sh, .int 0])), (c5, .inl (kc5, 24, .inl (fun _ => 0))), (sh, .inr (0, [.ref b0, .ref b1, .ref b2, .ref b3, .ref b4, .ref d5, .ref d6, .ref d7, .ref d8, .ref d9, .ref d10, .int 0, .int 0])), (b2, .inr (6, [.ref e2, .int 0]))] H := hP
  have hD : va_D A [(ck, .inr (2, [.ref c0, .ref c1, .ref c2, .ref c3, .ref c4, .ref c5, .ref sh, .int 0])), (c5, .inl (kc5, 24, .inl (fun _ => 0))), (sh, .inr (0, [.ref b0, .ref b1, .ref b2, .ref b3, .ref b4, .ref d5, .ref d6, .ref d7, .ref d8, .ref d9, .ref d10, .int 0, .int 0])), (b2, .inr (6, [.ref e2, .int 0]))] := hD
  refine lv_aload_n hx hb dX2_examine_5 rfl (lv_at hl 0 rfl) ?_
  refine lv_iconst (v := 0) hx hb dX2_examine_6 (by decide) ?_
  refine va_put (D := D) (ci := 2) (v := .int 0) (ty := tyX2 7) (C := RX2) (T := TX2) (N := 8) hx hb hg inX2 tyX2 tyX2_ok nmX2 hown hK hP hD hS 0 rfl rfl 7 (by decide) (hg _ w345) (fun _ h9 => h9) rfl (tyX2_ok 7 (by decide)) rfl rfl (Nat.le_of_ble_eq_true rfl) dX2_examine_7 (fun H locs hP hD hS => ?_)
  have hP : va_P D vwCl [(ck, .inr (2, [.ref c0, .ref c1, .ref c2, .ref c3, .ref c4, .ref c5, .ref sh, .int 0])), (c5, .inl (kc5, 24, .inl (fun _ => 0))), (sh, .inr (0, [.ref b0, .ref b1, .ref b2, .ref b3, .ref b4, .ref d5, .ref d6, .ref d7, .ref d8, .ref d9, .ref d10, .int 0, .int 0])), (b2, .inr (6, [.ref e2, .int 0]))] H := hP
  have hD : va_D A [(ck, .inr (2, [.ref c0, .ref c1, .ref c2, .ref c3, .ref c4, .ref c5, .ref sh, .int 0])), (c5, .inl (kc5, 24, .inl (fun _ => 0))), (sh, .inr (0, [.ref b0, .ref b1, .ref b2, .ref b3, .ref b4, .ref d5, .ref d6, .ref d7, .ref d8, .ref d9, .ref d10, .int 0, .int 0])), (b2, .inr (6, [.ref e2, .int 0]))] := hD
  refine lv_iconst (v := 0) hx hb dX2_examine_10 (by decide) ?_
  refine lv_istore_n (lv' := [(2, .int 0), (0, .ref ck), (1, .ref sh)]) hx hb dX2_examine_11 rfl hl (by decide) rfl (fun ls hl => ?_)
  refine lv_iload_n hx hb dX2_examine_12 rfl (lv_at hl 0 rfl) ?_
  refine lv_aload_n hx hb dX2_examine_13 rfl (lv_at hl 1 rfl) ?_
  refine va_get (D := D) (ci := 2) (v := .ref sh) (C := RX2) (T := TX2) (N := 8) hx hb hg inX2 hown hK hP 0 rfl rfl 6 (by decide) (hg _ w344) (fun _ h9 => h9) rfl dX2_examine_14 ?_
  refine va_getN (D := D) (ci := 0) (v := .ref b2) (C := RX0) (T := TX0) (N := 13) hx hb hg inX0 hown hK hP 2 rfl rfl 2 (by decide) (hnw.use 600 n600 rfl) (fun _ h9 => h9) rfl dX2_examine_17 ?_
  refine va_getN (D := D) (ci := 6) (v := .int 0) (C := RX6) (T := TX6) (N := 2) hx hb hg inX6 hown hK hP 3 rfl rfl 1 (by decide) (hnw.use 482 n482 rfl) (fun _ h9 => h9) rfl dX2_examine_20 ?_
  refine lv_icmp_ge (tgt := 48) hx hb dX2_examine_23 (by decide) (fun _ => ?_) (fun q => absurd (by decide) q)
  refine lv_aload_n hx hb dX2_examine_48 rfl (lv_at hl 1 rfl) ?_
  refine va_get (D := D) (ci := 2) (v := .ref c5) (C := RX2) (T := TX2) (N := 8) hx hb hg inX2 hown hK hP 0 rfl rfl 5 (by decide) (hg _ w343) (fun _ h9 => h9) rfl dX2_examine_49 ?_
  refine lv_iconst (v := (-1)) hx hb dX2_examine_52 (by decide) ?_
  refine g_void (wr := [(ck, .inr (2, [.ref c0, .ref c1, .ref c2, .ref c3, .ref c4, .ref c5, .ref sh, .int 0])), (sh, .inr (0, [.ref b0, .ref b1, .ref b2, .ref b3, .ref b4, .ref d5, .ref d6, .ref d7, .ref d8, .ref d9, .ref d10, .int 0, .int 0])), (b2, .inr (6, [.ref e2, .int 0]))]) (tr := []) (g_runS (As := [.ref c5, .int (-1)]) (rest := []) (wc := [(c5, .inl (kc5, 24, .inl ((fun _ => 0))))]) (tc := [(kc5, .int)]) hx hb hml hown hg gw_self hP hD hK hS hA hnw hgk [1] [0] (by decide) rfl rfl (c_fill l D ks H.size c5 kc5 24 (fun _ => 0) (-1) (by decide)) w1100 w371 w165 w372 hdS_yJ7_fill_53178 ⟨Nat.le_of_ble_eq_true rfl, Nat.le_of_ble_eq_true rfl⟩ rfl hl.1 rfl (Nat.le_of_ble_eq_true rfl) dX2_examine_53 ⟨Nat.le_of_ble_eq_true rfl, Nat.le_of_ble_eq_true rfl⟩) hP hD hK hS hA [1] [0, 2, 3] [] rfl rfl (by decide) (by decide) rfl (fun vu3 H locs vhw2 hP hD hK hS => ?_)
  obtain ⟨vg_1, rfl⟩ : ∃ z, z = vu3 := ⟨_, rfl⟩
  have hP : va_P D vwCl [(ck, .inr (2, [.ref c0, .ref c1, .ref c2, .ref c3, .ref c4, .ref c5, .ref sh, .int 0])), (sh, .inr (0, [.ref b0, .ref b1, .ref b2, .ref b3, .ref b4, .ref d5, .ref d6, .ref d7, .ref d8, .ref d9, .ref d10, .int 0, .int 0])), (b2, .inr (6, [.ref e2, .int 0])), (c5, .inl (kc5, 24, .inl (vg_1)))] H := hP
  have hD : va_D A [(ck, .inr (2, [.ref c0, .ref c1, .ref c2, .ref c3, .ref c4, .ref c5, .ref sh, .int 0])), (sh, .inr (0, [.ref b0, .ref b1, .ref b2, .ref b3, .ref b4, .ref d5, .ref d6, .ref d7, .ref d8, .ref d9, .ref d10, .int 0, .int 0])), (b2, .inr (6, [.ref e2, .int 0])), (c5, .inl (kc5, 24, .inl (vg_1)))] := hD
  have hK : va_K D vwCl [(kc5, .int)] s := hK
  refine lv_iconst (v := 0) hx hb dX2_examine_56 (by decide) ?_
  refine lv_istore_n (lv' := [(2, .int 0), (0, .ref ck), (1, .ref sh)]) hx hb dX2_examine_57 rfl hl (by decide) rfl (fun ls hl => ?_)
  refine lv_iload_n hx hb dX2_examine_58 rfl (lv_at hl 0 rfl) ?_
  refine lv_aload_n hx hb dX2_examine_59 rfl (lv_at hl 1 rfl) ?_
  refine va_get (D := D) (ci := 2) (v := .ref sh) (C := RX2) (T := TX2) (N := 8) hx hb hg inX2 hown hK hP 0 rfl rfl 6 (by decide) (hg _ w344) (fun _ h9 => h9) rfl dX2_examine_60 ?_
  refine va_getN (D := D) (ci := 0) (v := .ref b2) (C := RX0) (T := TX0) (N := 13) hx hb hg inX0 hown hK hP 1 rfl rfl 2 (by decide) (hnw.use 600 n600 rfl) (fun _ h9 => h9) rfl dX2_examine_63 ?_
  refine va_getN (D := D) (ci := 6) (v := .int 0) (C := RX6) (T := TX6) (N := 2) hx hb hg inX6 hown hK hP 2 rfl rfl 1 (by decide) (hnw.use 482 n482 rfl) (fun _ h9 => h9) rfl dX2_examine_66 ?_
  refine lv_icmp_ge (tgt := 105) hx hb dX2_examine_69 (by decide) (fun _ => ?_) (fun q => absurd (by decide) q)
  refine lv_aload_n hx hb dX2_examine_105 rfl (lv_at hl 1 rfl) ?_
  refine va_get (D := D) (ci := 2) (v := .int 0) (C := RX2) (T := TX2) (N := 8) hx hb hg inX2 hown hK hP 0 rfl rfl 7 (by decide) (hg _ w345) (fun _ h9 => h9) rfl dX2_examine_106 ?_
  refine W.widen (k := 0) (n := 0) (Nat.le_of_ble_eq_true rfl) (Nat.le_of_ble_eq_true rfl) ?_
  have hP9 := hP.sub (ws' := []) [] rfl
  have hD9 := hD.sub (ws' := []) [] (by decide) rfl
  have hK9 := hK.sub (tys' := []) [] rfl
  exact W.iret (v := 0) hx hb hr (fun t ht hW => ⟨⟨0, (), rfl, (by first | rfl | trivial | assumption | decide), by rw [ht]; exact hP9, va_K.moved hW.alike hK9, hD9⟩, hS.F ht⟩) hS.2.2 dX2_examine_109
abbrev r_c_Book_has0 : Room := { frames := 0, cells := 0, slots := 0, locals := 0 }
abbrev q_c_Book_has0 (D : va_G) (sh : Nat) (b0 : Nat) (b1 : Nat) (b2 : Nat) (b3 : Nat) (b4 : Nat) (d5 : Nat) (d6 : Nat) (d7 : Nat) (d8 : Nat) (d9 : Nat) (d10 : Nat) (e2 : Nat) (p0 : Int32) (A : Nat → Prop) : Array Value → State → Outcome → State → Prop := va_Qi (fun (r : Int32) (_ : Unit) => r = 0) (fun u t => gq D A ((fun (_ : Unit) => [(sh, .inr (0, [.ref b0, .ref b1, .ref b2, .ref b3, .ref b4, .ref d5, .ref d6, .ref d7, .ref d8, .ref d9, .ref d10, .int 0, .int 0])), (b2, .inr (6, [.ref e2, .int 0]))]) u) ((fun (_ : Unit) => ([] : List (ClassId × FieldType))) u) t) A
set_option maxHeartbeats 4000000 in
set_option maxRecDepth 100000 in
theorem c_Book_has0 (l : Launch) (D : va_G) (ks : Nat × Nat × Option Nat) (sz : Nat) (sh : Nat) (b0 : Nat) (b1 : Nat) (b2 : Nat) (b3 : Nat) (b4 : Nat) (d5 : Nat) (d6 : Nat) (d7 : Nat) (d8 : Nat) (d9 : Nat) (d10 : Nat) (e2 : Nat) (p0 : Int32) : Met l yX0_has (Cond.code yX0_has cX0_has 2 (some .boolean) :: GW) r_c_Book_has0 (va_Pc [.ref sh, .int p0] (gp D ks [(sh, .inr (0, [.ref b0, .ref b1, .ref b2, .ref b3, .ref b4, .ref d5, .ref d6, .ref d7, .ref d8, .ref d9, .ref d10, .int 0, .int 0])), (b2, .inr (6, [.ref e2, .int 0]))] [] sz)) (q_c_Book_has0 D sh b0 b1 b2 b3 b4 d5 d6 d7 d8 d9 d10 e2 p0 (va_A [(sh, .inr (0, [.ref b0, .ref b1, .ref b2, .ref b3, .ref b4, .ref d5, .ref d6, .ref d7, .ref d8, .ref d9, .ref d10, .int 0, .int 0])), (b2, .inr (6, [.ref e2, .int 0]))] sz)) 0 0 (va_A [(sh, .inr (0, [.ref b0, .ref b1, .ref b2, .ref b3, .ref b4, .ref d5, .ref d6, .ref d7, .ref d8, .ref d9, .ref d10, .int 0, .int 0])), (b2, .inr (6, [.ref e2, .int 0]))] sz) := by
  refine g_met (q_c_Book_has0 D sh b0 b1 b2 b3 b4 d5 d6 d7 d8 d9 d10 e2 p0) (by decide) (Nat.le_of_ble_eq_true rfl) ?_
  intro p e s m below meth c A ls H locs hx hb hr hml hown hg hlocks hin hnw hgk hP hK hD hS hA hl
  have hown : s.vm.findClass RX0 = some m.cls := hown
  have hl : lv_has ls 2 [(0, .ref sh), (1, .int p0)] := hl
  refine lv_iload_n hx hb dX0_has_0 rfl (lv_at hl 1 rfl) ?_
  refine lv_if_lt (tgt := 19) hx hb dX0_has_1 (by decide) (fun vc1 => ?_) (fun vc1 => ?_)
  · skip
    refine lv_iconst (v := 0) hx hb dX0_has_19 (by decide) ?_
    refine W.widen (k := 0) (n := 0) (Nat.le_of_ble_eq_true rfl) (Nat.le_of_ble_eq_true rfl) ?_
    have hP9 := hP.sub (ws' := [(sh, .inr (0, [.ref b0, .ref b1, .ref b2, .ref b3, .ref b4, .ref d5, .ref d6, .ref d7, .ref d8, .ref d9, .ref d10, .int 0, .int 0])), (b2, .inr (6, [.ref e2, .int 0]))]) [0, 1] rfl
    have hD9 := hD.sub (ws' := [(sh, .inr (0, [.ref b0, .ref b1, .ref b2, .ref b3, .ref b4, .ref d5, .ref d6, .ref d7, .ref d8, .ref d9, .ref d10, .int 0, .int 0])), (b2, .inr (6, [.ref e2, .int 0]))]) [0, 1] (by decide) rfl
    have hK9 := hK.sub (tys' := []) [] rfl
    exact W.zret (v := 0) hx hb hr rfl (fun t ht hW => ⟨⟨0, (), rfl, (by first | rfl | trivial | assumption | decide), by rw [ht]; exact hP9, va_K.moved hW.alike hK9, hD9⟩, hS.F ht⟩) hS.2.2 dX0_has_20
  · skip
    refine lv_iload_n hx hb dX0_has_4 rfl (lv_at hl 1 rfl) ?_
    refine lv_aload_n hx hb dX0_has_5 rfl (lv_at hl 0 rfl) ?_
    refine va_get (D := D) (ci := 0) (v := .ref b2) (C := RX0) (T := TX0) (N := 13) hx hb hg inX0 hown hK hP 0 rfl rfl 2 (by decide) (hg _ w599) (fun _ h9 => h9) rfl dX0_has_6 ?_
    refine va_getN (D := D) (ci := 6) (v := .int 0) (C := RX6) (T := TX6) (N := 2) hx hb hg inX6 hown hK hP 1 rfl rfl 1 (by decide) (hnw.use 481 n481 rfl) (fun _ h9 => h9) rfl dX0_has_9 ?_
    refine lv_icmp_ge (tgt := 19) hx hb dX0_has_12 (by decide) (fun _ => ?_) (fun q => absurd (Int32.not_lt.mp vc1) q)
    refine lv_iconst (v := 0) hx hb dX0_has_19 (by decide) ?_
    refine W.widen (k := 0) (n := 0) (Nat.le_of_ble_eq_true rfl) (Nat.le_of_ble_eq_true rfl) ?_
    have hP9 := hP.sub (ws' := [(sh, .inr (0, [.ref b0, .ref b1, .ref b2, .ref b3, .ref b4, .ref d5, .ref d6, .ref d7, .ref d8, .ref d9, .ref d10, .int 0, .int 0])), (b2, .inr (6, [.ref e2, .int 0]))]) [0, 1] rfl
    have hD9 := hD.sub (ws' := [(sh, .inr (0, [.ref b0, .ref b1, .ref b2, .ref b3, .ref b4, .ref d5, .ref d6, .ref d7, .ref d8, .ref d9, .ref d10, .int 0, .int 0])), (b2, .inr (6, [.ref e2, .int 0]))]) [0, 1] (by decide) rfl
    have hK9 := hK.sub (tys' := []) [] rfl
    exact W.zret (v := 0) hx hb hr rfl (fun t ht hW => ⟨⟨0, (), rfl, (by first | rfl | trivial | assumption | decide), by rw [ht]; exact hP9, va_K.moved hW.alike hK9, hD9⟩, hS.F ht⟩) hS.2.2 dX0_has_20
abbrev r_c_ends : Room := { frames := 0, cells := 0, slots := 0, locals := 0 }
abbrev q_c_ends (D : va_G) (h0 : Nat) (tp : Nat) (rd : Nat) (ck : Nat) (sk : Nat) (nt : Nat) (mc : Nat) (sh : Nat) (sp : Nat) (p0 : Int32) (p1 : Int32) (A : Nat → Prop) : Array Value → State → Outcome → State → Prop := va_Qi (fun (r : Int32) (_ : Unit) => r = p1) (fun u t => gq D A ((fun (_ : Unit) => []) u) ((fun (_ : Unit) => ([] : List (ClassId × FieldType))) u) t) A
set_option maxHeartbeats 4000000 in
set_option maxRecDepth 100000 in
theorem c_ends (l : Launch) (D : va_G) (ks : Nat × Nat × Option Nat) (sz : Nat) (h0 : Nat) (tp : Nat) (rd : Nat) (ck : Nat) (sk : Nat) (nt : Nat) (mc : Nat) (sh : Nat) (sp : Nat) (p0 : Int32) (p1 : Int32) : Met l yX11_ends (Cond.code yX11_ends cX11_ends 3 (some .int) :: GW) r_c_ends (va_Pc [.ref h0, .int p0, .int p1] (gp D ks [(h0, .inr (11, [.ref tp, .ref rd, .ref ck, .ref sk, .ref nt, .ref mc, .ref sh, .ref sp, .int 0, .int 0]))] [] sz)) (q_c_ends D h0 tp rd ck sk nt mc sh sp p0 p1 (va_A [(h0, .inr (11, [.ref tp, .ref rd, .ref ck, .ref sk, .ref nt, .ref mc, .ref sh, .ref sp, .int 0, .int 0]))] sz)) 0 0 (va_A [(h0, .inr (11, [.ref tp, .ref rd, .ref ck, .ref sk, .ref nt, .ref mc, .ref sh, .ref sp, .int 0, .int 0]))] sz) := by
  refine g_met (q_c_ends D h0 tp rd ck sk nt mc sh sp p0 p1) (by decide) (Nat.le_of_ble_eq_true rfl) ?_
  intro p e s m below meth c A ls H locs hx hb hr hml hown hg hlocks hin hnw hgk hP hK hD hS hA hl
  have hown : s.vm.findClass RX11 = some m.cls := hown
  have hl : lv_has ls 3 [(0, .ref h0), (1, .int p0), (2, .int p1)] := hl
  refine lv_aload_n hx hb dX11_ends_0 rfl (lv_at hl 0 rfl) ?_
  refine lv_iload_n hx hb dX11_ends_1 rfl (lv_at hl 1 rfl) ?_
  refine va_put (D := D) (ci := 11) (v := .int p0) (ty := tyX11 9) (C := RX11) (T := TX11) (N := 10) hx hb hg inX11 tyX11 tyX11_ok nmX11 hown hK hP hD hS 0 rfl rfl 9 (by decide) (hg _ w724) (fun _ h9 => h9) rfl (tyX11_ok 9 (by decide)) rfl rfl (Nat.le_of_ble_eq_true rfl) dX11_ends_2 (fun H locs hP hD hS => ?_)
  have hP : va_P D vwCl [(h0, .inr (11, [.ref tp, .ref rd, .ref ck, .ref sk, .ref nt, .ref mc, .ref sh, .ref sp, .int 0, .int p0]))] H := hP
  have hD : va_D A [(h0, .inr (11, [.ref tp, .ref rd, .ref ck, .ref sk, .ref nt, .ref mc, .ref sh, .ref sp, .int 0, .int p0]))] := hD
  refine lv_iload_n hx hb dX11_ends_5 rfl (lv_at hl 2 rfl) ?_
  refine W.widen (k := 0) (n := 0) (Nat.le_of_ble_eq_true rfl) (Nat.le_of_ble_eq_true rfl) ?_
  have hP9 := hP.sub (ws' := []) [] rfl
  have hD9 := hD.sub (ws' := []) [] (by decide) rfl
  have hK9 := hK.sub (tys' := []) [] rfl
  exact W.iret (v := p1) hx hb hr (fun t ht hW => ⟨⟨p1, (), rfl, (by first | rfl | trivial | assumption | decide), by rw [ht]; exact hP9, va_K.moved hW.alike hK9, hD9⟩, hS.F ht⟩) hS.2.2 dX11_ends_6
