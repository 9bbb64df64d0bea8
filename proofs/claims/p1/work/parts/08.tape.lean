theorem w261 : Cond.fieldLink RX9 59 "WiringHouse$Tape" "looking" "I" ∈ GW := gw_mem 261 (by decide +kernel) rfl
theorem w264 : Cond.fieldLink RX9 65 "WiringHouse$Tape" "kind" "I" ∈ GW := gw_mem 264 (by decide +kernel) rfl
theorem w265 : Cond.fieldLink RX9 68 "WiringHouse$Tape" "start" "I" ∈ GW := gw_mem 265 (by decide +kernel) rfl
theorem w268 : Cond.fieldLink RX9 71 "WiringHouse$Tape" "value" "J" ∈ GW := gw_mem 268 (by decide +kernel) rfl
theorem w260 : Cond.fieldLink RX9 53 "WiringHouse$Tape" "tokens" "I" ∈ GW := gw_mem 260 (by decide +kernel) rfl
theorem w259 : Cond.fieldLink RX9 50 "WiringHouse$Tape" "position" "I" ∈ GW := gw_mem 259 (by decide +kernel) rfl
theorem w258 : Cond.fieldLink RX9 47 "WiringHouse$Tape" "length" "I" ∈ GW := gw_mem 258 (by decide +kernel) rfl
theorem w854 : Cond.code yX9_next cX9_next 1 none ∈ GW := gw_mem 854 (by decide +kernel) rfl
theorem w851 : Cond.methodLink RX9 62 yX9_next ∈ GW := gw_mem 851 (by decide +kernel) rfl
theorem w852 : Cond.instanceMethod yX9_next ∈ GW := gw_mem 852 (by decide +kernel) rfl
theorem w853 : Cond.selects RX9 yX9_next yX9_next ∈ GW := gw_mem 853 (by decide +kernel) rfl
theorem hdV_yX9_next : yX9_next.cls = RX9 ∧ yX9_next.cls ≠ "java/lang/invoke/MethodHandle" ∧ yX9_next.cls ≠ "java/lang/invoke/VarHandle" ∧ (parseMethodDescriptor yX9_next.desc).map (fun d => d.parameters.length) = some 0 := by decide +kernel
theorem n481 : lw_tbl[481]? = some (Cond.fieldLinkNest RX0 59 "WiringHouse$Names" "size" "I" "WiringHouse") := by decide +kernel
theorem w625 : Cond.fieldLink RX0 63 "WiringHouse$Book" "wrapCount" "I" ∈ GW := gw_mem 625 (by decide +kernel) rfl
theorem w629 : Cond.fieldLink RX0 66 "WiringHouse$Book" "codeLength" "I" ∈ GW := gw_mem 629 (by decide +kernel) rfl
theorem w305 : Cond.fieldLink RX1 15 "WiringHouse$BookReader" "book" "LWiringHouse$Book;" ∈ GW := gw_mem 305 (by decide +kernel) rfl
theorem w765 : Cond.code yX0_clear cX0_clear 1 none ∈ GW := gw_mem 765 (by decide +kernel) rfl
theorem w762 : Cond.methodLink RX1 19 yX0_clear ∈ GW := gw_mem 762 (by decide +kernel) rfl
theorem w763 : Cond.instanceMethod yX0_clear ∈ GW := gw_mem 763 (by decide +kernel) rfl
theorem w764 : Cond.selects RX0 yX0_clear yX0_clear ∈ GW := gw_mem 764 (by decide +kernel) rfl
theorem hdV_yX0_clear : yX0_clear.cls = RX0 ∧ yX0_clear.cls ≠ "java/lang/invoke/MethodHandle" ∧ yX0_clear.cls ≠ "java/lang/invoke/VarHandle" ∧ (parseMethodDescriptor yX0_clear.desc).map (fun d => d.parameters.length) = some 0 := by decide +kernel
theorem w306 : Cond.fieldLink RX1 24 "WiringHouse$BookReader" "owner" "LWiringHouse$Component;" ∈ GW := gw_mem 306 (by decide +kernel) rfl
theorem w307 : Cond.fieldLink RX1 28 "WiringHouse$BookReader" "fault" "I" ∈ GW := gw_mem 307 (by decide +kernel) rfl
theorem w769 : Cond.code yX9_begin cX9_begin 2 none ∈ GW := gw_mem 769 (by decide +kernel) rfl
theorem w766 : Cond.methodLink RX1 32 yX9_begin ∈ GW := gw_mem 766 (by decide +kernel) rfl
theorem w767 : Cond.instanceMethod yX9_begin ∈ GW := gw_mem 767 (by decide +kernel) rfl
theorem w768 : Cond.selects RX9 yX9_begin yX9_begin ∈ GW := gw_mem 768 (by decide +kernel) rfl
theorem hdV_yX9_begin : yX9_begin.cls = RX9 ∧ yX9_begin.cls ≠ "java/lang/invoke/MethodHandle" ∧ yX9_begin.cls ≠ "java/lang/invoke/VarHandle" ∧ (parseMethodDescriptor yX9_begin.desc).map (fun d => d.parameters.length) = some 0 := by decide +kernel
theorem n262 : lw_tbl[262]? = some (Cond.fieldLinkNest RX1 37 "WiringHouse$Tape" "kind" "I" "WiringHouse") := by decide +kernel
theorem w391 : Cond.fieldLink RX8 63 "WiringHouse$Stock" "objectCount" "I" ∈ GW := gw_mem 391 (by decide +kernel) rfl
theorem w393 : Cond.fieldLink RX8 66 "WiringHouse$Stock" "endCount" "I" ∈ GW := gw_mem 393 (by decide +kernel) rfl
theorem w394 : Cond.fieldLink RX8 69 "WiringHouse$Stock" "linkCount" "I" ∈ GW := gw_mem 394 (by decide +kernel) rfl
theorem w1030 : Cond.code yX8_shut cX8_shut 2 none ∈ GW := gw_mem 1030 (by decide +kernel) rfl
theorem w1027 : Cond.methodLink RX8 59 yX8_shut ∈ GW := gw_mem 1027 (by decide +kernel) rfl
theorem w1028 : Cond.instanceMethod yX8_shut ∈ GW := gw_mem 1028 (by decide +kernel) rfl
theorem w1029 : Cond.selects RX8 yX8_shut yX8_shut ∈ GW := gw_mem 1029 (by decide +kernel) rfl
theorem hdV_yX8_shut : yX8_shut.cls = RX8 ∧ yX8_shut.cls ≠ "java/lang/invoke/MethodHandle" ∧ yX8_shut.cls ≠ "java/lang/invoke/VarHandle" ∧ (parseMethodDescriptor yX8_shut.desc).map (fun d => d.parameters.length) = some 1 := by decide +kernel
theorem w440 : Cond.fieldLink RX7 27 "WiringHouse$Notes" "thingCount" "I" ∈ GW := gw_mem 440 (by decide +kernel) rfl
theorem w441 : Cond.fieldLink RX7 31 "WiringHouse$Notes" "closingCount" "I" ∈ GW := gw_mem 441 (by decide +kernel) rfl
theorem w442 : Cond.fieldLink RX7 34 "WiringHouse$Notes" "causeNeeds" "I" ∈ GW := gw_mem 442 (by decide +kernel) rfl
theorem w443 : Cond.fieldLink RX7 37 "WiringHouse$Notes" "causeKind" "I" ∈ GW := gw_mem 443 (by decide +kernel) rfl
theorem w345 : Cond.fieldLink RX2 30 "WiringHouse$Checker" "faults" "I" ∈ GW := gw_mem 345 (by decide +kernel) rfl
theorem w673 : Cond.fieldLink RX5 39 "WiringHouse$Machine" "depth" "I" ∈ GW := gw_mem 673 (by decide +kernel) rfl
theorem w674 : Cond.fieldLink RX5 43 "WiringHouse$Machine" "top" "I" ∈ GW := gw_mem 674 (by decide +kernel) rfl
theorem w675 : Cond.fieldLink RX5 46 "WiringHouse$Machine" "madeCount" "I" ∈ GW := gw_mem 675 (by decide +kernel) rfl
theorem w676 : Cond.fieldLink RX5 49 "WiringHouse$Machine" "signal" "I" ∈ GW := gw_mem 676 (by decide +kernel) rfl
theorem w680 : Cond.fieldLink RX5 52 "WiringHouse$Machine" "stepsNow" "I" ∈ GW := gw_mem 680 (by decide +kernel) rfl
theorem w1046 : Cond.code yX5_restart cX5_restart 1 none ∈ GW := gw_mem 1046 (by decide +kernel) rfl
theorem w1043 : Cond.methodLink RX5 36 yX5_restart ∈ GW := gw_mem 1043 (by decide +kernel) rfl
theorem w1044 : Cond.instanceMethod yX5_restart ∈ GW := gw_mem 1044 (by decide +kernel) rfl
theorem w1045 : Cond.selects RX5 yX5_restart yX5_restart ∈ GW := gw_mem 1045 (by decide +kernel) rfl
theorem hdV_yX5_restart : yX5_restart.cls = RX5 ∧ yX5_restart.cls ≠ "java/lang/invoke/MethodHandle" ∧ yX5_restart.cls ≠ "java/lang/invoke/VarHandle" ∧ (parseMethodDescriptor yX5_restart.desc).map (fun d => d.parameters.length) = some 0 := by decide +kernel
theorem dX9_next_0 : decode cX9_next 0 = .ok (.aload_n 0, 1) := by decide +kernel
theorem dX9_next_1 : decode cX9_next 1 = .ok (.aload_n 0, 1) := by decide +kernel
theorem dX9_next_2 : decode cX9_next 2 = .ok (.getfield 19, 3) := by decide +kernel
theorem dX9_next_5 : decode cX9_next 5 = .ok (.aload_n 0, 1) := by decide +kernel
theorem dX9_next_6 : decode cX9_next 6 = .ok (.getfield 59, 3) := by decide +kernel
theorem dX9_next_9 : decode cX9_next 9 = .ok (.iaload, 1) := by decide +kernel
theorem dX9_next_10 : decode cX9_next 10 = .ok (.putfield 65, 3) := by decide +kernel
theorem dX9_next_13 : decode cX9_next 13 = .ok (.aload_n 0, 1) := by decide +kernel
theorem dX9_next_14 : decode cX9_next 14 = .ok (.aload_n 0, 1) := by decide +kernel
theorem dX9_next_15 : decode cX9_next 15 = .ok (.getfield 23, 3) := by decide +kernel
theorem dX9_next_18 : decode cX9_next 18 = .ok (.aload_n 0, 1) := by decide +kernel
theorem dX9_next_19 : decode cX9_next 19 = .ok (.getfield 59, 3) := by decide +kernel
theorem dX9_next_22 : decode cX9_next 22 = .ok (.iaload, 1) := by decide +kernel
theorem dX9_next_23 : decode cX9_next 23 = .ok (.putfield 68, 3) := by decide +kernel
theorem dX9_next_26 : decode cX9_next 26 = .ok (.aload_n 0, 1) := by decide +kernel
theorem dX9_next_27 : decode cX9_next 27 = .ok (.aload_n 0, 1) := by decide +kernel
theorem dX9_next_28 : decode cX9_next 28 = .ok (.getfield 26, 3) := by decide +kernel
theorem dX9_next_31 : decode cX9_next 31 = .ok (.aload_n 0, 1) := by decide +kernel
theorem dX9_next_32 : decode cX9_next 32 = .ok (.getfield 59, 3) := by decide +kernel
theorem dX9_next_35 : decode cX9_next 35 = .ok (.laload, 1) := by decide +kernel
theorem dX9_next_36 : decode cX9_next 36 = .ok (.putfield 71, 3) := by decide +kernel
theorem dX9_next_39 : decode cX9_next 39 = .ok (.aload_n 0, 1) := by decide +kernel
theorem dX9_next_40 : decode cX9_next 40 = .ok (.getfield 59, 3) := by decide +kernel
theorem dX9_next_43 : decode cX9_next 43 = .ok (.aload_n 0, 1) := by decide +kernel
theorem dX9_next_44 : decode cX9_next 44 = .ok (.getfield 53, 3) := by decide +kernel
theorem dX9_next_47 : decode cX9_next 47 = .ok (.if_icmp .ge 13, 3) := by decide +kernel
theorem dX9_next_60 : decode cX9_next 60 = .ok (.return_, 1) := by decide +kernel
theorem dX9_begin_0 : decode cX9_begin 0 = .ok (.aload_n 0, 1) := by decide +kernel
theorem dX9_begin_1 : decode cX9_begin 1 = .ok (.iconst 0, 1) := by decide +kernel
theorem dX9_begin_2 : decode cX9_begin 2 = .ok (.putfield 50, 3) := by decide +kernel
theorem dX9_begin_5 : decode cX9_begin 5 = .ok (.aload_n 0, 1) := by decide +kernel
theorem dX9_begin_6 : decode cX9_begin 6 = .ok (.iconst 0, 1) := by decide +kernel
theorem dX9_begin_7 : decode cX9_begin 7 = .ok (.putfield 53, 3) := by decide +kernel
theorem dX9_begin_10 : decode cX9_begin 10 = .ok (.iconst 0, 1) := by decide +kernel
theorem dX9_begin_11 : decode cX9_begin 11 = .ok (.istore_n 1, 1) := by decide +kernel
theorem dX9_begin_12 : decode cX9_begin 12 = .ok (.iload_n 1, 1) := by decide +kernel
theorem dX9_begin_13 : decode cX9_begin 13 = .ok (.sipush 4000, 3) := by decide +kernel
theorem dX9_begin_16 : decode cX9_begin 16 = .ok (.if_icmp .ge 65, 3) := by decide +kernel
theorem dX9_begin_19 : decode cX9_begin 19 = .ok (.aload_n 0, 1) := by decide +kernel
theorem dX9_begin_20 : decode cX9_begin 20 = .ok (.getfield 50, 3) := by decide +kernel
theorem dX9_begin_23 : decode cX9_begin 23 = .ok (.aload_n 0, 1) := by decide +kernel
theorem dX9_begin_24 : decode cX9_begin 24 = .ok (.getfield 47, 3) := by decide +kernel
theorem dX9_begin_27 : decode cX9_begin 27 = .ok (.if_icmp .ge 54, 3) := by decide +kernel
theorem dX9_begin_81 : decode cX9_begin 81 = .ok (.aload_n 0, 1) := by decide +kernel
theorem dX9_begin_82 : decode cX9_begin 82 = .ok (.getfield 19, 3) := by decide +kernel
theorem dX9_begin_85 : decode cX9_begin 85 = .ok (.aload_n 0, 1) := by decide +kernel
theorem dX9_begin_86 : decode cX9_begin 86 = .ok (.getfield 53, 3) := by decide +kernel
theorem dX9_begin_89 : decode cX9_begin 89 = .ok (.iconst 0, 1) := by decide +kernel
theorem dX9_begin_90 : decode cX9_begin 90 = .ok (.iastore, 1) := by decide +kernel
theorem dX9_begin_91 : decode cX9_begin 91 = .ok (.aload_n 0, 1) := by decide +kernel
theorem dX9_begin_92 : decode cX9_begin 92 = .ok (.getfield 23, 3) := by decide +kernel
theorem dX9_begin_95 : decode cX9_begin 95 = .ok (.aload_n 0, 1) := by decide +kernel
theorem dX9_begin_96 : decode cX9_begin 96 = .ok (.getfield 53, 3) := by decide +kernel
theorem dX9_begin_99 : decode cX9_begin 99 = .ok (.aload_n 0, 1) := by decide +kernel
theorem dX9_begin_100 : decode cX9_begin 100 = .ok (.getfield 47, 3) := by decide +kernel
theorem dX9_begin_103 : decode cX9_begin 103 = .ok (.iastore, 1) := by decide +kernel
theorem dX9_begin_104 : decode cX9_begin 104 = .ok (.aload_n 0, 1) := by decide +kernel
theorem dX9_begin_105 : decode cX9_begin 105 = .ok (.getfield 26, 3) := by decide +kernel
theorem dX9_begin_108 : decode cX9_begin 108 = .ok (.aload_n 0, 1) := by decide +kernel
theorem dX9_begin_109 : decode cX9_begin 109 = .ok (.getfield 53, 3) := by decide +kernel
theorem dX9_begin_112 : decode cX9_begin 112 = .ok (.lconst 0, 1) := by decide +kernel
theorem dX9_begin_113 : decode cX9_begin 113 = .ok (.lastore, 1) := by decide +kernel
theorem dX9_begin_114 : decode cX9_begin 114 = .ok (.aload_n 0, 1) := by decide +kernel
theorem dX9_begin_115 : decode cX9_begin 115 = .ok (.iconst 0, 1) := by decide +kernel
theorem dX9_begin_116 : decode cX9_begin 116 = .ok (.putfield 59, 3) := by decide +kernel
theorem dX9_begin_119 : decode cX9_begin 119 = .ok (.aload_n 0, 1) := by decide +kernel
theorem dX9_begin_120 : decode cX9_begin 120 = .ok (.invokevirtual 62, 3) := by decide +kernel
theorem dX9_begin_123 : decode cX9_begin 123 = .ok (.return_, 1) := by decide +kernel
theorem dX9_empty_0 : decode cX9_empty 0 = .ok (.aload_n 0, 1) := by decide +kernel
theorem dX9_empty_1 : decode cX9_empty 1 = .ok (.iconst 0, 1) := by decide +kernel
theorem dX9_empty_2 : decode cX9_empty 2 = .ok (.putfield 47, 3) := by decide +kernel
theorem dX9_empty_5 : decode cX9_empty 5 = .ok (.return_, 1) := by decide +kernel
theorem dX0_clear_0 : decode cX0_clear 0 = .ok (.aload_n 0, 1) := by decide +kernel
theorem dX0_clear_1 : decode cX0_clear 1 = .ok (.getfield 14, 3) := by decide +kernel
theorem dX0_clear_4 : decode cX0_clear 4 = .ok (.iconst 0, 1) := by decide +kernel
theorem dX0_clear_5 : decode cX0_clear 5 = .ok (.putfield 59, 3) := by decide +kernel
theorem dX0_clear_8 : decode cX0_clear 8 = .ok (.aload_n 0, 1) := by decide +kernel
theorem dX0_clear_9 : decode cX0_clear 9 = .ok (.getfield 20, 3) := by decide +kernel
theorem dX0_clear_12 : decode cX0_clear 12 = .ok (.iconst 0, 1) := by decide +kernel
theorem dX0_clear_13 : decode cX0_clear 13 = .ok (.putfield 59, 3) := by decide +kernel
theorem dX0_clear_16 : decode cX0_clear 16 = .ok (.aload_n 0, 1) := by decide +kernel
theorem dX0_clear_17 : decode cX0_clear 17 = .ok (.getfield 23, 3) := by decide +kernel
theorem dX0_clear_20 : decode cX0_clear 20 = .ok (.iconst 0, 1) := by decide +kernel
theorem dX0_clear_21 : decode cX0_clear 21 = .ok (.putfield 59, 3) := by decide +kernel
theorem dX0_clear_24 : decode cX0_clear 24 = .ok (.aload_n 0, 1) := by decide +kernel
theorem dX0_clear_25 : decode cX0_clear 25 = .ok (.getfield 26, 3) := by decide +kernel
theorem dX0_clear_28 : decode cX0_clear 28 = .ok (.iconst 0, 1) := by decide +kernel
theorem dX0_clear_29 : decode cX0_clear 29 = .ok (.putfield 59, 3) := by decide +kernel
theorem dX0_clear_32 : decode cX0_clear 32 = .ok (.aload_n 0, 1) := by decide +kernel
theorem dX0_clear_33 : decode cX0_clear 33 = .ok (.getfield 29, 3) := by decide +kernel
theorem dX0_clear_36 : decode cX0_clear 36 = .ok (.iconst 0, 1) := by decide +kernel
theorem dX0_clear_37 : decode cX0_clear 37 = .ok (.putfield 59, 3) := by decide +kernel
theorem dX0_clear_40 : decode cX0_clear 40 = .ok (.aload_n 0, 1) := by decide +kernel
theorem dX0_clear_41 : decode cX0_clear 41 = .ok (.iconst 0, 1) := by decide +kernel
theorem dX0_clear_42 : decode cX0_clear 42 = .ok (.putfield 63, 3) := by decide +kernel
theorem dX0_clear_45 : decode cX0_clear 45 = .ok (.aload_n 0, 1) := by decide +kernel
theorem dX0_clear_46 : decode cX0_clear 46 = .ok (.iconst 0, 1) := by decide +kernel
theorem dX0_clear_47 : decode cX0_clear 47 = .ok (.putfield 66, 3) := by decide +kernel
theorem dX0_clear_50 : decode cX0_clear 50 = .ok (.return_, 1) := by decide +kernel
theorem dX1_read_0 : decode cX1_read 0 = .ok (.aload_n 0, 1) := by decide +kernel
theorem dX1_read_1 : decode cX1_read 1 = .ok (.aload_n 1, 1) := by decide +kernel
theorem dX1_read_2 : decode cX1_read 2 = .ok (.putfield 15, 3) := by decide +kernel
theorem dX1_read_5 : decode cX1_read 5 = .ok (.aload_n 0, 1) := by decide +kernel
theorem dX1_read_6 : decode cX1_read 6 = .ok (.getfield 15, 3) := by decide +kernel
theorem dX1_read_9 : decode cX1_read 9 = .ok (.invokevirtual 19, 3) := by decide +kernel
theorem dX1_read_12 : decode cX1_read 12 = .ok (.aload_n 0, 1) := by decide +kernel
theorem dX1_read_13 : decode cX1_read 13 = .ok (.aconst_null, 1) := by decide +kernel
theorem dX1_read_14 : decode cX1_read 14 = .ok (.putfield 24, 3) := by decide +kernel
theorem dX1_read_17 : decode cX1_read 17 = .ok (.aload_n 0, 1) := by decide +kernel
theorem dX1_read_18 : decode cX1_read 18 = .ok (.iconst 0, 1) := by decide +kernel
theorem dX1_read_19 : decode cX1_read 19 = .ok (.putfield 28, 3) := by decide +kernel
theorem dX1_read_22 : decode cX1_read 22 = .ok (.aload_n 0, 1) := by decide +kernel
theorem dX1_read_23 : decode cX1_read 23 = .ok (.getfield 9, 3) := by decide +kernel
theorem dX1_read_26 : decode cX1_read 26 = .ok (.invokevirtual 32, 3) := by decide +kernel
theorem dX1_read_29 : decode cX1_read 29 = .ok (.iconst 0, 1) := by decide +kernel
theorem dX1_read_30 : decode cX1_read 30 = .ok (.istore_n 2, 1) := by decide +kernel
theorem dX1_read_31 : decode cX1_read 31 = .ok (.iload_n 2, 1) := by decide +kernel
theorem dX1_read_32 : decode cX1_read 32 = .ok (.sipush 4000, 3) := by decide +kernel
theorem dX1_read_35 : decode cX1_read 35 = .ok (.if_icmp .ge 47, 3) := by decide +kernel
theorem dX1_read_38 : decode cX1_read 38 = .ok (.aload_n 0, 1) := by decide +kernel
theorem dX1_read_39 : decode cX1_read 39 = .ok (.getfield 9, 3) := by decide +kernel
theorem dX1_read_42 : decode cX1_read 42 = .ok (.getfield 37, 3) := by decide +kernel
theorem dX1_read_45 : decode cX1_read 45 = .ok (.ifCond .eq 37, 3) := by decide +kernel
theorem dX1_read_82 : decode cX1_read 82 = .ok (.aload_n 0, 1) := by decide +kernel
theorem dX1_read_83 : decode cX1_read 83 = .ok (.getfield 24, 3) := by decide +kernel
theorem dX1_read_86 : decode cX1_read 86 = .ok (.ifnull 9, 3) := by decide +kernel
theorem dX1_read_95 : decode cX1_read 95 = .ok (.aload_n 0, 1) := by decide +kernel
theorem dX1_read_96 : decode cX1_read 96 = .ok (.getfield 28, 3) := by decide +kernel
theorem dX1_read_99 : decode cX1_read 99 = .ok (.ireturn, 1) := by decide +kernel
theorem dX8_shut_0 : decode cX8_shut 0 = .ok (.aload_n 0, 1) := by decide +kernel
theorem dX8_shut_1 : decode cX8_shut 1 = .ok (.getfield 18, 3) := by decide +kernel
theorem dX8_shut_4 : decode cX8_shut 4 = .ok (.iload_n 1, 1) := by decide +kernel
theorem dX8_shut_5 : decode cX8_shut 5 = .ok (.iconst 0, 1) := by decide +kernel
theorem dX8_shut_6 : decode cX8_shut 6 = .ok (.bastore, 1) := by decide +kernel
theorem dX8_shut_7 : decode cX8_shut 7 = .ok (.aload_n 0, 1) := by decide +kernel
theorem dX8_shut_8 : decode cX8_shut 8 = .ok (.getfield 22, 3) := by decide +kernel
theorem dX8_shut_11 : decode cX8_shut 11 = .ok (.iload_n 1, 1) := by decide +kernel
theorem dX8_shut_12 : decode cX8_shut 12 = .ok (.iconst 0, 1) := by decide +kernel
theorem dX8_shut_13 : decode cX8_shut 13 = .ok (.iastore, 1) := by decide +kernel
theorem dX8_shut_14 : decode cX8_shut 14 = .ok (.return_, 1) := by decide +kernel
theorem dX8_clear_0 : decode cX8_clear 0 = .ok (.aload_n 0, 1) := by decide +kernel
theorem dX8_clear_1 : decode cX8_clear 1 = .ok (.getfield 25, 3) := by decide +kernel
theorem dX8_clear_4 : decode cX8_clear 4 = .ok (.iconst (-1), 1) := by decide +kernel
theorem dX8_clear_5 : decode cX8_clear 5 = .ok (.invokestatic 49, 3) := by decide +kernel
theorem dX8_clear_8 : decode cX8_clear 8 = .ok (.iconst 0, 1) := by decide +kernel
theorem dX8_clear_9 : decode cX8_clear 9 = .ok (.istore_n 1, 1) := by decide +kernel
theorem dX8_clear_10 : decode cX8_clear 10 = .ok (.iload_n 1, 1) := by decide +kernel
theorem dX8_clear_11 : decode cX8_clear 11 = .ok (.bipush 40, 2) := by decide +kernel
theorem dX8_clear_13 : decode cX8_clear 13 = .ok (.if_icmp .ge 14, 3) := by decide +kernel
theorem dX8_clear_27 : decode cX8_clear 27 = .ok (.aload_n 0, 1) := by decide +kernel
theorem dX8_clear_28 : decode cX8_clear 28 = .ok (.getfield 18, 3) := by decide +kernel
theorem dX8_clear_31 : decode cX8_clear 31 = .ok (.iconst 0, 1) := by decide +kernel
theorem dX8_clear_32 : decode cX8_clear 32 = .ok (.iconst 1, 1) := by decide +kernel
theorem dX8_clear_33 : decode cX8_clear 33 = .ok (.bastore, 1) := by decide +kernel
theorem dX8_clear_34 : decode cX8_clear 34 = .ok (.aload_n 0, 1) := by decide +kernel
theorem dX8_clear_35 : decode cX8_clear 35 = .ok (.iconst 1, 1) := by decide +kernel
theorem dX8_clear_36 : decode cX8_clear 36 = .ok (.putfield 55, 3) := by decide +kernel
theorem dX8_clear_39 : decode cX8_clear 39 = .ok (.aload_n 0, 1) := by decide +kernel
theorem dX8_clear_40 : decode cX8_clear 40 = .ok (.iconst 0, 1) := by decide +kernel
theorem dX8_clear_41 : decode cX8_clear 41 = .ok (.putfield 63, 3) := by decide +kernel
theorem dX8_clear_44 : decode cX8_clear 44 = .ok (.aload_n 0, 1) := by decide +kernel
theorem dX8_clear_45 : decode cX8_clear 45 = .ok (.iconst 0, 1) := by decide +kernel
theorem dX8_clear_46 : decode cX8_clear 46 = .ok (.putfield 66, 3) := by decide +kernel
theorem dX8_clear_49 : decode cX8_clear 49 = .ok (.aload_n 0, 1) := by decide +kernel
theorem dX8_clear_50 : decode cX8_clear 50 = .ok (.iconst 0, 1) := by decide +kernel
theorem dX8_clear_51 : decode cX8_clear 51 = .ok (.putfield 69, 3) := by decide +kernel
theorem dX8_clear_54 : decode cX8_clear 54 = .ok (.return_, 1) := by decide +kernel
theorem dX8_clear_16 : decode cX8_clear 16 = .ok (.aload_n 0, 1) := by decide +kernel
theorem dX8_clear_17 : decode cX8_clear 17 = .ok (.iload_n 1, 1) := by decide +kernel
theorem dX8_clear_18 : decode cX8_clear 18 = .ok (.invokevirtual 59, 3) := by decide +kernel
theorem dX8_clear_21 : decode cX8_clear 21 = .ok (.iinc 1 1, 3) := by decide +kernel
theorem dX8_clear_24 : decode cX8_clear 24 = .ok (.goto (-14), 3) := by decide +kernel
theorem dX7_clear_0 : decode cX7_clear 0 = .ok (.aload_n 0, 1) := by decide +kernel
theorem dX7_clear_1 : decode cX7_clear 1 = .ok (.iconst 0, 1) := by decide +kernel
theorem dX7_clear_2 : decode cX7_clear 2 = .ok (.putfield 27, 3) := by decide +kernel
theorem dX7_clear_5 : decode cX7_clear 5 = .ok (.aload_n 0, 1) := by decide +kernel
theorem dX7_clear_6 : decode cX7_clear 6 = .ok (.iconst 0, 1) := by decide +kernel
theorem dX7_clear_7 : decode cX7_clear 7 = .ok (.putfield 31, 3) := by decide +kernel
theorem dX7_clear_10 : decode cX7_clear 10 = .ok (.aload_n 0, 1) := by decide +kernel
theorem dX7_clear_11 : decode cX7_clear 11 = .ok (.iconst 0, 1) := by decide +kernel
theorem dX7_clear_12 : decode cX7_clear 12 = .ok (.putfield 34, 3) := by decide +kernel
theorem dX7_clear_15 : decode cX7_clear 15 = .ok (.aload_n 0, 1) := by decide +kernel
theorem dX7_clear_16 : decode cX7_clear 16 = .ok (.iconst 0, 1) := by decide +kernel
theorem dX7_clear_17 : decode cX7_clear 17 = .ok (.putfield 37, 3) := by decide +kernel
theorem dX7_clear_20 : decode cX7_clear 20 = .ok (.return_, 1) := by decide +kernel
theorem dX2_clear_0 : decode cX2_clear 0 = .ok (.aload_n 0, 1) := by decide +kernel
theorem dX2_clear_1 : decode cX2_clear 1 = .ok (.iconst 0, 1) := by decide +kernel
theorem dX2_clear_2 : decode cX2_clear 2 = .ok (.putfield 30, 3) := by decide +kernel
theorem dX2_clear_5 : decode cX2_clear 5 = .ok (.return_, 1) := by decide +kernel
theorem dX5_restart_0 : decode cX5_restart 0 = .ok (.aload_n 0, 1) := by decide +kernel
theorem dX5_restart_1 : decode cX5_restart 1 = .ok (.iconst 0, 1) := by decide +kernel
theorem dX5_restart_2 : decode cX5_restart 2 = .ok (.putfield 39, 3) := by decide +kernel
theorem dX5_restart_5 : decode cX5_restart 5 = .ok (.aload_n 0, 1) := by decide +kernel
theorem dX5_restart_6 : decode cX5_restart 6 = .ok (.iconst 0, 1) := by decide +kernel
theorem dX5_restart_7 : decode cX5_restart 7 = .ok (.putfield 43, 3) := by decide +kernel
theorem dX5_restart_10 : decode cX5_restart 10 = .ok (.aload_n 0, 1) := by decide +kernel
theorem dX5_restart_11 : decode cX5_restart 11 = .ok (.iconst 0, 1) := by decide +kernel
theorem dX5_restart_12 : decode cX5_restart 12 = .ok (.putfield 46, 3) := by decide +kernel
theorem dX5_restart_15 : decode cX5_restart 15 = .ok (.aload_n 0, 1) := by decide +kernel
theorem dX5_restart_16 : decode cX5_restart 16 = .ok (.iconst 0, 1) := by decide +kernel
theorem dX5_restart_17 : decode cX5_restart 17 = .ok (.putfield 49, 3) := by decide +kernel
theorem dX5_restart_20 : decode cX5_restart 20 = .ok (.aload_n 0, 1) := by decide +kernel
theorem dX5_restart_21 : decode cX5_restart 21 = .ok (.iconst 0, 1) := by decide +kernel
theorem dX5_restart_22 : decode cX5_restart 22 = .ok (.putfield 52, 3) := by decide +kernel
theorem dX5_restart_25 : decode cX5_restart 25 = .ok (.return_, 1) := by decide +kernel
theorem dX5_takeBook_0 : decode cX5_takeBook 0 = .ok (.aload_n 0, 1) := by decide +kernel
theorem dX5_takeBook_1 : decode cX5_takeBook 1 = .ok (.aload_n 1, 1) := by decide +kernel
theorem dX5_takeBook_2 : decode cX5_takeBook 2 = .ok (.putfield 24, 3) := by decide +kernel
theorem dX5_takeBook_5 : decode cX5_takeBook 5 = .ok (.aload_n 0, 1) := by decide +kernel
theorem dX5_takeBook_6 : decode cX5_takeBook 6 = .ok (.invokevirtual 36, 3) := by decide +kernel
theorem dX5_takeBook_9 : decode cX5_takeBook 9 = .ok (.return_, 1) := by decide +kernel
abbrev r_c_Tape_next0 : Room := { frames := 0, cells := 0, slots := 0, locals := 0 }
abbrev q_c_Tape_next0 (D : va_G) (tp : Nat) (t0 : Nat) (t1 : Nat) (t2 : Nat) (t3 : Nat) (t4 : Nat) (kt2 : ClassId) (kt3 : ClassId) (kt4 : ClassId) (A : Nat → Prop) : Array Value → State → Outcome → State → Prop := va_Qv (fun (_ : Unit) => True) (fun u t => gq D A ((fun (_ : Unit) => [(tp, .inr (9, [.ref t0, .ref t1, .ref t2, .ref t3, .ref t4, .int 0, .int 0, .int 0, .int 0, .int 0, .int 0, .long 0])), (t2, .inl (kt2, 4001, .inl (fun _ => 0))), (t3, .inl (kt3, 4001, .inl (fun _ => 0))), (t4, .inl (kt4, 4001, .inr (.inl (fun _ => 0))))]) u) ((fun (_ : Unit) => ([(kt2, .int), (kt3, .int), (kt4, .long)] : List (ClassId × FieldType))) u) t) A
set_option maxHeartbeats 4000000 in
set_option maxRecDepth 100000 in
theorem c_Tape_next0 (l : Launch) (D : va_G) (ks : Nat × Nat × Option Nat) (sz : Nat) (tp : Nat) (t0 : Nat) (t1 : Nat) (t2 : Nat) (t3 : Nat) (t4 : Nat) (kt2 : ClassId) (kt3 : ClassId) (kt4 : ClassId) : Met l yX9_next (Cond.code yX9_next cX9_next 1 none :: GW) r_c_Tape_next0 (va_Pc [.ref tp] (gp D ks [(tp, .inr (9, [.ref t0, .ref t1, .ref t2, .ref t3, .ref t4, .int 0, .int 0, .int 0, .int 0, .int 0, .int 0, .long 0])), (t2, .inl (kt2, 4001, .inl (fun _ => 0))), (t3, .inl (kt3, 4001, .inl (fun _ => 0))), (t4, .inl (kt4, 4001, .inr (.inl (fun _ => 0))))] [(kt2, .int), (kt3, .int), (kt4, .long)] sz)) (q_c_Tape_next0 D tp t0 t1 t2 t3 t4 kt2 kt3 kt4 (va_A [(tp, .inr (9, [.ref t0, .ref t1, .ref t2, .ref t3, .ref t4, .int 0, .int 0, .int 0, .int 0, .int 0, .int 0, .long 0])), (t2, .inl (kt2, 4001, .inl (fun _ => 0))), (t3, .inl (kt3, 4001, .inl (fun _ => 0))), (t4, .inl (kt4, 4001, .inr (.inl (fun _ => 0))))] sz)) 0 0 (va_A [(tp, .inr (9, [.ref t0, .ref t1, .ref t2, .ref t3, .ref t4, .int 0, .int 0, .int 0, .int 0, .int 0, .int 0, .long 0])), (t2, .inl (kt2, 4001, .inl (fun _ => 0))), (t3, .inl (kt3, 4001, .inl (fun _ => 0))), (t4, .inl (kt4, 4001, .inr (.inl (fun _ => 0))))] sz) := by
  refine g_met (q_c_Tape_next0 D tp t0 t1 t2 t3 t4 kt2 kt3 kt4) (by decide) (Nat.le_of_ble_eq_true rfl) ?_
  intro p e s m below meth c A ls H locs hx hb hr hml hown hg hlocks hin hnw hgk hP hK hD hS hA hl
  have hown : s.vm.findClass RX9 = some m.cls := hown
  have hl : lv_has ls 1 [(0, .ref tp)] := hl
  refine lv_aload_n hx hb dX9_next_0 rfl (lv_at hl 0 rfl) ?_
  refine lv_aload_n hx hb dX9_next_1 rfl (lv_at hl 0 rfl) ?_
  refine va_get (D := D) (ci := 9) (v := .ref t2) (C := RX9) (T := TX9) (N := 12) hx hb hg inX9 hown hK hP 0 rfl rfl 2 (by decide) (hg _ w254) (fun _ h9 => h9) rfl dX9_next_2 ?_
  refine lv_aload_n hx hb dX9_next_5 rfl (lv_at hl 0 rfl) ?_
  refine va_get (D := D) (ci := 9) (v := .int 0) (C := RX9) (T := TX9) (N := 12) hx hb hg inX9 hown hK hP 0 rfl rfl 8 (by decide) (hg _ w261) (fun _ h9 => h9) rfl dX9_next_6 ?_
  refine va_iald (D := D) (i := 0) hx hb hK hP 1 0 rfl rfl (vp_in_nI (n := 0) (N := 4001) (by decide) (by decide)) dX9_next_9 ?_
  refine g_top (v := 0) rfl ?_
  refine va_put (D := D) (ci := 9) (v := .int 0) (ty := tyX9 9) (C := RX9) (T := TX9) (N := 12) hx hb hg inX9 tyX9 tyX9_ok nmX9 hown hK hP hD hS 0 rfl rfl 9 (by decide) (hg _ w264) (fun _ h9 => h9) rfl (tyX9_ok 9 (by decide)) rfl rfl (Nat.le_of_ble_eq_true rfl) dX9_next_10 (fun H locs hP hD hS => ?_)
  have hP : va_P D vwCl [(tp, .inr (9, [.ref t0, .ref t1, .ref t2, .ref t3, .ref t4, .int 0, .int 0, .int 0, .int 0, .int 0, .int 0, .long 0])), (t2, .inl (kt2, 4001, .inl (fun _ => 0))), (t3, .inl (kt3, 4001, .inl (fun _ => 0))), (t4, .inl (kt4, 4001, .inr (.inl (fun _ => 0))))] H := hP
  have hD : va_D A [(tp, .inr (9, [.ref t0, .ref t1, .ref t2, .ref t3, .ref t4, .int 0, .int 0, .int 0, .int 0, .int 0, .int 0, .long 0])), (t2, .inl (kt2, 4001, .inl (fun _ => 0))), (t3, .inl (kt3, 4001, .inl (fun _ => 0))), (t4, .inl (kt4, 4001, .inr (.inl (fun _ => 0))))] := hD
  refine lv_aload_n hx hb dX9_next_13 rfl (lv_at hl 0 rfl) ?_
  refine lv_aload_n hx hb dX9_next_14 rfl (lv_at hl 0 rfl) ?_
  refine va_get (D := D) (ci := 9) (v := .ref t3) (C := RX9) (T := TX9) (N := 12) hx hb hg inX9 hown hK hP 0 rfl rfl 3 (by decide) (hg _ w255) (fun _ h9 => h9) rfl dX9_next_15 ?_
  refine lv_aload_n hx hb dX9_next_18 rfl (lv_at hl 0 rfl) ?_
  refine va_get (D := D) (ci := 9) (v := .int 0) (C := RX9) (T := TX9) (N := 12) hx hb hg inX9 hown hK hP 0 rfl rfl 8 (by decide) (hg _ w261) (fun _ h9 => h9) rfl dX9_next_19 ?_
  refine va_iald (D := D) (i := 0) hx hb hK hP 2 1 rfl rfl (vp_in_nI (n := 0) (N := 4001) (by decide) (by decide)) dX9_next_22 ?_
  refine g_top (v := 0) rfl ?_
  refine va_put (D := D) (ci := 9) (v := .int 0) (ty := tyX9 10) (C := RX9) (T := TX9) (N := 12) hx hb hg inX9 tyX9 tyX9_ok nmX9 hown hK hP hD hS 0 rfl rfl 10 (by decide) (hg _ w265) (fun _ h9 => h9) rfl (tyX9_ok 10 (by decide)) rfl rfl (Nat.le_of_ble_eq_true rfl) dX9_next_23 (fun H locs hP hD hS => ?_)
  have hP : va_P D vwCl [(tp, .inr (9, [.ref t0, .ref t1, .ref t2, .ref t3, .ref t4, .int 0, .int 0, .int 0, .int 0, .int 0, .int 0, .long 0])), (t2, .inl (kt2, 4001, .inl (fun _ => 0))), (t3, .inl (kt3, 4001, .inl (fun _ => 0))), (t4, .inl (kt4, 4001, .inr (.inl (fun _ => 0))))] H := hP
  have hD : va_D A [(tp, .inr (9, [.ref t0, .ref t1, .ref t2, .ref t3, .ref t4, .int 0, .int 0, .int 0, .int 0, .int 0, .int 0, .long 0])), (t2, .inl (kt2, 4001, .inl (fun _ => 0))), (t3, .inl (kt3, 4001, .inl (fun _ => 0))), (t4, .inl (kt4, 4001, .inr (.inl (fun _ => 0))))] := hD
  refine lv_aload_n hx hb dX9_next_26 rfl (lv_at hl 0 rfl) ?_
  refine lv_aload_n hx hb dX9_next_27 rfl (lv_at hl 0 rfl) ?_
  refine va_get (D := D) (ci := 9) (v := .ref t4) (C := RX9) (T := TX9) (N := 12) hx hb hg inX9 hown hK hP 0 rfl rfl 4 (by decide) (hg _ w256) (fun _ h9 => h9) rfl dX9_next_28 ?_
  refine lv_aload_n hx hb dX9_next_31 rfl (lv_at hl 0 rfl) ?_
  refine va_get (D := D) (ci := 9) (v := .int 0) (C := RX9) (T := TX9) (N := 12) hx hb hg inX9 hown hK hP 0 rfl rfl 8 (by decide) (hg _ w261) (fun _ h9 => h9) rfl dX9_next_32 ?_
  refine va_lald (D := D) (i := 0) hx hb hK hP 3 2 rfl rfl (vp_in_nI (n := 0) (N := 4001) (by decide) (by decide)) dX9_next_35 ?_
  refine va_put (D := D) (ci := 9) (v := .long 0) (ty := tyX9 11) (C := RX9) (T := TX9) (N := 12) hx hb hg inX9 tyX9 tyX9_ok nmX9 hown hK hP hD hS 0 rfl rfl 11 (by decide) (hg _ w268) (fun _ h9 => h9) rfl (tyX9_ok 11 (by decide)) rfl rfl (Nat.le_of_ble_eq_true rfl) dX9_next_36 (fun H locs hP hD hS => ?_)
  have hP : va_P D vwCl [(tp, .inr (9, [.ref t0, .ref t1, .ref t2, .ref t3, .ref t4, .int 0, .int 0, .int 0, .int 0, .int 0, .int 0, .long 0])), (t2, .inl (kt2, 4001, .inl (fun _ => 0))), (t3, .inl (kt3, 4001, .inl (fun _ => 0))), (t4, .inl (kt4, 4001, .inr (.inl (fun _ => 0))))] H := hP
  have hD : va_D A [(tp, .inr (9, [.ref t0, .ref t1, .ref t2, .ref t3, .ref t4, .int 0, .int 0, .int 0, .int 0, .int 0, .int 0, .long 0])), (t2, .inl (kt2, 4001, .inl (fun _ => 0))), (t3, .inl (kt3, 4001, .inl (fun _ => 0))), (t4, .inl (kt4, 4001, .inr (.inl (fun _ => 0))))] := hD
  refine lv_aload_n hx hb dX9_next_39 rfl (lv_at hl 0 rfl) ?_
  refine va_get (D := D) (ci := 9) (v := .int 0) (C := RX9) (T := TX9) (N := 12) hx hb hg inX9 hown hK hP 0 rfl rfl 8 (by decide) (hg _ w261) (fun _ h9 => h9) rfl dX9_next_40 ?_
  refine lv_aload_n hx hb dX9_next_43 rfl (lv_at hl 0 rfl) ?_
  refine va_get (D := D) (ci := 9) (v := .int 0) (C := RX9) (T := TX9) (N := 12) hx hb hg inX9 hown hK hP 0 rfl rfl 7 (by decide) (hg _ w260) (fun _ h9 => h9) rfl dX9_next_44 ?_
  refine lv_icmp_ge (tgt := 60) hx hb dX9_next_47 (by decide) (fun _ => ?_) (fun q => absurd (by decide) q)
  refine W.widen (k := 0) (n := 0) (Nat.le_of_ble_eq_true rfl) (Nat.le_of_ble_eq_true rfl) ?_
  have hP9 := hP.sub (ws' := [(tp, .inr (9, [.ref t0, .ref t1, .ref t2, .ref t3, .ref t4, .int 0, .int 0, .int 0, .int 0, .int 0, .int 0, .long 0])), (t2, .inl (kt2, 4001, .inl (fun _ => 0))), (t3, .inl (kt3, 4001, .inl (fun _ => 0))), (t4, .inl (kt4, 4001, .inr (.inl (fun _ => 0))))]) [0, 1, 2, 3] rfl
  have hD9 := hD.sub (ws' := [(tp, .inr (9, [.ref t0, .ref t1, .ref t2, .ref t3, .ref t4, .int 0, .int 0, .int 0, .int 0, .int 0, .int 0, .long 0])), (t2, .inl (kt2, 4001, .inl (fun _ => 0))), (t3, .inl (kt3, 4001, .inl (fun _ => 0))), (t4, .inl (kt4, 4001, .inr (.inl (fun _ => 0))))]) [0, 1, 2, 3] (by decide) rfl
  have hK9 := hK.sub (tys' := [(kt2, .int), (kt3, .int), (kt4, .long)]) [0, 1, 2] rfl
  exact W.vret hx hb hr (fun t ht hW => ⟨⟨(), rfl, (by first | rfl | trivial | assumption | decide), by rw [ht]; exact hP9, va_K.moved hW.alike hK9, hD9⟩, hS.F ht⟩) hS.2.2 dX9_next_60
abbrev r_c_Tape_begin0 : Room := { frames := 1, cells := 0, slots := 0, locals := 20 }
abbrev q_c_Tape_begin0 (D : va_G) (tp : Nat) (t0 : Nat) (t1 : Nat) (t2 : Nat) (t3 : Nat) (t4 : Nat) (kt2 : ClassId) (kt3 : ClassId) (kt4 : ClassId) (A : Nat → Prop) : Array Value → State → Outcome → State → Prop := va_Qv (fun (_ : Unit) => True) (fun u t => gq D A ((fun (_ : Unit) => [(tp, .inr (9, [.ref t0, .ref t1, .ref t2, .ref t3, .ref t4, .int 0, .int 0, .int 0, .int 0, .int 0, .int 0, .long 0])), (t2, .inl (kt2, 4001, .inl (fun _ => 0))), (t3, .inl (kt3, 4001, .inl (fun _ => 0))), (t4, .inl (kt4, 4001, .inr (.inl (fun _ => 0))))]) u) ((fun (_ : Unit) => ([(kt2, .int), (kt3, .int), (kt4, .long)] : List (ClassId × FieldType))) u) t) A
set_option maxHeartbeats 4000000 in
set_option maxRecDepth 100000 in
theorem c_Tape_begin0 (l : Launch) (D : va_G) (ks : Nat × Nat × Option Nat) (sz : Nat) (tp : Nat) (t0 : Nat) (t1 : Nat) (t2 : Nat) (t3 : Nat) (t4 : Nat) (kt2 : ClassId) (kt3 : ClassId) (kt4 : ClassId) : Met l yX9_begin (Cond.code yX9_begin cX9_begin 2 none :: GW) r_c_Tape_begin0 (va_Pc [.ref tp] (gp D ks [(tp, .inr (9, [.ref t0, .ref t1, .ref t2, .ref t3, .ref t4, .int 0, .int 0, .int 0, .int 0, .int 0, .int 0, .long 0])), (t2, .inl (kt2, 4001, .inl (fun _ => 0))), (t3, .inl (kt3, 4001, .inl (fun _ => 0))), (t4, .inl (kt4, 4001, .inr (.inl (fun _ => 0))))] [(kt2, .int), (kt3, .int), (kt4, .long)] sz)) (q_c_Tape_begin0 D tp t0 t1 t2 t3 t4 kt2 kt3 kt4 (va_A [(tp, .inr (9, [.ref t0, .ref t1, .ref t2, .ref t3, .ref t4, .int 0, .int 0, .int 0, .int 0, .int 0, .int 0, .long 0])), (t2, .inl (kt2, 4001, .inl (fun _ => 0))), (t3, .inl (kt3, 4001, .inl (fun _ => 0))), (t4, .inl (kt4, 4001, .inr (.inl (fun _ => 0))))] sz)) 0 0 (va_A [(tp, .inr (9, [.ref t0, .ref t1, .ref t2, .ref t3, .ref t4, .int 0, .int 0, .int 0, .int 0, .int 0, .int 0, .long 0])), (t2, .inl (kt2, 4001, .inl (fun _ => 0))), (t3, .inl (kt3, 4001, .inl (fun _ => 0))), (t4, .inl (kt4, 4001, .inr (.inl (fun _ => 0))))] sz) := by
  refine g_met (q_c_Tape_begin0 D tp t0 t1 t2 t3 t4 kt2 kt3 kt4) (by decide) (Nat.le_of_ble_eq_true rfl) ?_
  intro p e s m below meth c A ls H locs hx hb hr hml hown hg hlocks hin hnw hgk hP hK hD hS hA hl
  have hown : s.vm.findClass RX9 = some m.cls := hown
  have hl : lv_has ls 2 [(0, .ref tp)] := hl
  refine lv_aload_n hx hb dX9_begin_0 rfl (lv_at hl 0 rfl) ?_
  refine lv_iconst (v := 0) hx hb dX9_begin_1 (by decide) ?_
  refine va_put (D := D) (ci := 9) (v := .int 0) (ty := tyX9 6) (C := RX9) (T := TX9) (N := 12) hx hb hg inX9 tyX9 tyX9_ok nmX9 hown hK hP hD hS 0 rfl rfl 6 (by decide) (hg _ w259) (fun _ h9 => h9) rfl (tyX9_ok 6 (by decide)) rfl rfl (Nat.le_of_ble_eq_true rfl) dX9_begin_2 (fun H locs hP hD hS => ?_)
  have hP : va_P D vwCl [(tp, .inr (9, [.ref t0, .ref t1, .ref t2, .ref t3, .ref t4, .int 0, .int 0, .int 0, .int 0, .int 0, .int 0, .long 0])), (t2, .inl (kt2, 4001, .inl (fun _ => 0))), (t3, .inl (kt3, 4001, .inl (fun _ => 0))), (t4, .inl (kt4, 4001, .inr (.inl (fun _ => 0))))] H := hP
  have hD : va_D A [(tp, .inr (9, [.ref t0, .ref t1, .ref t2, .ref t3, .ref t4, .int 0, .int 0, .int 0, .int 0, .int 0, .int 0, .long 0])), (t2, .inl (kt2, 4001, .inl (fun _ => 0))), (t3, .inl (kt3, 4001, .inl (fun _ => 0))), (t4, .inl (kt4, 4001, .inr (.inl (fun _ => 0))))] := hD
  refine lv_aload_n hx hb dX9_begin_5 rfl (lv_at hl 0 rfl) ?_
  refine lv_iconst (v := 0) hx hb dX9_begin_6 (by decide) ?_
  refine va_put (D := D) (ci := 9) (v := .int 0) (ty := tyX9 7) (C := RX9) (T := TX9) (N := 12) hx hb hg inX9 tyX9 tyX9_ok nmX9 hown hK hP hD hS 0 rfl rfl 7 (by decide) (hg _ w260) (fun _ h9 => h9) rfl (tyX9_ok 7 (by decide)) rfl rfl (Nat.le_of_ble_eq_true rfl) dX9_begin_7 (fun H locs hP hD hS => ?_)
  have hP : va_P D vwCl [(tp, .inr (9, [.ref t0, .ref t1, .ref t2, .ref t3, .ref t4, .int 0, .int 0, .int 0, .int 0, .int 0, .int 0, .long 0])), (t2, .inl (kt2, 4001, .inl (fun _ => 0))), (t3, .inl (kt3, 4001, .inl (fun _ => 0))), (t4, .inl (kt4, 4001, .inr (.inl (fun _ => 0))))] H := hP
  have hD : va_D A [(tp, .inr (9, [.ref t0, .ref t1, .ref t2, .ref t3, .ref t4, .int 0, .int 0, .int 0, .int 0, .int 0, .int 0, .long 0])), (t2, .inl (kt2, 4001, .inl (fun _ => 0))), (t3, .inl (kt3, 4001, .inl (fun _ => 0))), (t4, .inl (kt4, 4001, .inr (.inl (fun _ => 0))))] := hD
  refine lv_iconst (v := 0) hx hb dX9_begin_10 (by decide) ?_
  refine lv_istore_n (lv' := [(1, .int 0), (0, .ref tp)]) hx hb dX9_begin_11 rfl hl (by decide) rfl (fun ls hl => ?_)
  refine lv_iload_n hx hb dX9_begin_12 rfl (lv_at hl 0 rfl) ?_
  refine lv_sipush (v := 4000) hx hb dX9_begin_13 (by decide) ?_
  refine lv_icmp_ge (tgt := 81) hx hb dX9_begin_16 (by decide) (fun q => absurd q (by decide)) (fun _ => ?_)
  refine lv_aload_n hx hb dX9_begin_19 rfl (lv_at hl 1 rfl) ?_
  refine va_get (D := D) (ci := 9) (v := .int 0) (C := RX9) (T := TX9) (N := 12) hx hb hg inX9 hown hK hP 0 rfl rfl 6 (by decide) (hg _ w259) (fun _ h9 => h9) rfl dX9_begin_20 ?_
  refine lv_aload_n hx hb dX9_begin_23 rfl (lv_at hl 1 rfl) ?_
  refine va_get (D := D) (ci := 9) (v := .int 0) (C := RX9) (T := TX9) (N := 12) hx hb hg inX9 hown hK hP 0 rfl rfl 5 (by decide) (hg _ w258) (fun _ h9 => h9) rfl dX9_begin_24 ?_
  refine lv_icmp_ge (tgt := 81) hx hb dX9_begin_27 (by decide) (fun _ => ?_) (fun q => absurd (by decide) q)
  refine lv_aload_n hx hb dX9_begin_81 rfl (lv_at hl 1 rfl) ?_
  refine va_get (D := D) (ci := 9) (v := .ref t2) (C := RX9) (T := TX9) (N := 12) hx hb hg inX9 hown hK hP 0 rfl rfl 2 (by decide) (hg _ w254) (fun _ h9 => h9) rfl dX9_begin_82 ?_
  refine lv_aload_n hx hb dX9_begin_85 rfl (lv_at hl 1 rfl) ?_
  refine va_get (D := D) (ci := 9) (v := .int 0) (C := RX9) (T := TX9) (N := 12) hx hb hg inX9 hown hK hP 0 rfl rfl 7 (by decide) (hg _ w260) (fun _ h9 => h9) rfl dX9_begin_86 ?_
  refine lv_iconst (v := 0) hx hb dX9_begin_89 (by decide) ?_
  refine va_iast (D := D) (i := 0) (x := 0) hx hb hK hP hD hS 1 0 rfl rfl (vp_in_nI (n := 0) (N := 4001) (by decide) (by decide)) dX9_begin_90 (fun H locs hP hD hS => ?_)
  rw [show upd (fun _ => 0) (Int32.toNatClampNeg 0) 0 = (fun _ => 0) from by funext j; simp only [upd]; split <;> rfl] at hP hD
  have hP : va_P D vwCl [(tp, .inr (9, [.ref t0, .ref t1, .ref t2, .ref t3, .ref t4, .int 0, .int 0, .int 0, .int 0, .int 0, .int 0, .long 0])), (t2, .inl (kt2, 4001, .inl (fun _ => 0))), (t3, .inl (kt3, 4001, .inl (fun _ => 0))), (t4, .inl (kt4, 4001, .inr (.inl (fun _ => 0))))] H := hP
  have hD : va_D A [(tp, .inr (9, [.ref t0, .ref t1, .ref t2, .ref t3, .ref t4, .int 0, .int 0, .int 0, .int 0, .int 0, .int 0, .long 0])), (t2, .inl (kt2, 4001, .inl (fun _ => 0))), (t3, .inl (kt3, 4001, .inl (fun _ => 0))), (t4, .inl (kt4, 4001, .inr (.inl (fun _ => 0))))] := hD
  refine lv_aload_n hx hb dX9_begin_91 rfl (lv_at hl 1 rfl) ?_
  refine va_get (D := D) (ci := 9) (v := .ref t3) (C := RX9) (T := TX9) (N := 12) hx hb hg inX9 hown hK hP 0 rfl rfl 3 (by decide) (hg _ w255) (fun _ h9 => h9) rfl dX9_begin_92 ?_
  refine lv_aload_n hx hb dX9_begin_95 rfl (lv_at hl 1 rfl) ?_
  refine va_get (D := D) (ci := 9) (v := .int 0) (C := RX9) (T := TX9) (N := 12) hx hb hg inX9 hown hK hP 0 rfl rfl 7 (by decide) (hg _ w260) (fun _ h9 => h9) rfl dX9_begin_96 ?_
  refine lv_aload_n hx hb dX9_begin_99 rfl (lv_at hl 1 rfl) ?_
  refine va_get (D := D) (ci := 9) (v := .int 0) (C := RX9) (T := TX9) (N := 12) hx hb hg inX9 hown hK hP 0 rfl rfl 5 (by decide) (hg _ w258) (fun _ h9 => h9) rfl dX9_begin_100 ?_
  refine va_iast (D := D) (i := 0) (x := 0) hx hb hK hP hD hS 2 1 rfl rfl (vp_in_nI (n := 0) (N := 4001) (by decide) (by decide)) dX9_begin_103 (fun H locs hP hD hS => ?_)
  rw [show upd (fun _ => 0) (Int32.toNatClampNeg 0) 0 = (fun _ => 0) from by funext j; simp only [upd]; split <;> rfl] at hP hD
  have hP : va_P D vwCl [(tp, .inr (9, [.ref t0, .ref t1, .ref t2, .ref t3, .ref t4, .int 0, .int 0, .int 0, .int 0, .int 0, .int 0, .long 0])), (t2, .inl (kt2, 4001, .inl (fun _ => 0))), (t3, .inl (kt3, 4001, .inl (fun _ => 0))), (t4, .inl (kt4, 4001, .inr (.inl (fun _ => 0))))] H := hP
  have hD : va_D A [(tp, .inr (9, [.ref t0, .ref t1, .ref t2, .ref t3, .ref t4, .int 0, .int 0, .int 0, .int 0, .int 0, .int 0, .long 0])), (t2, .inl (kt2, 4001, .inl (fun _ => 0))), (t3, .inl (kt3, 4001, .inl (fun _ => 0))), (t4, .inl (kt4, 4001, .inr (.inl (fun _ => 0))))] := hD
  refine lv_aload_n hx hb dX9_begin_104 rfl (lv_at hl 1 rfl) ?_
  refine va_get (D := D) (ci := 9) (v := .ref t4) (C := RX9) (T := TX9) (N := 12) hx hb hg inX9 hown hK hP 0 rfl rfl 4 (by decide) (hg _ w256) (fun _ h9 => h9) rfl dX9_begin_105 ?_
  refine lv_aload_n hx hb dX9_begin_108 rfl (lv_at hl 1 rfl) ?_
  refine va_get (D := D) (ci := 9) (v := .int 0) (C := RX9) (T := TX9) (N := 12) hx hb hg inX9 hown hK hP 0 rfl rfl 7 (by decide) (hg _ w260) (fun _ h9 => h9) rfl dX9_begin_109 ?_
  refine lv_lconst (v := 0) hx hb dX9_begin_112 (by decide) ?_
  refine va_last (D := D) (i := 0) (x := 0) hx hb hK hP hD hS 3 2 rfl rfl (vp_in_nI (n := 0) (N := 4001) (by decide) (by decide)) dX9_begin_113 (fun H locs hP hD hS => ?_)
  rw [show vp_updL (fun _ => 0) (Int32.toNatClampNeg 0) 0 = (fun _ => 0) from by funext j; simp only [vp_updL]; split <;> rfl] at hP hD
  have hP : va_P D vwCl [(tp, .inr (9, [.ref t0, .ref t1, .ref t2, .ref t3, .ref t4, .int 0, .int 0, .int 0, .int 0, .int 0, .int 0, .long 0])), (t2, .inl (kt2, 4001, .inl (fun _ => 0))), (t3, .inl (kt3, 4001, .inl (fun _ => 0))), (t4, .inl (kt4, 4001, .inr (.inl (fun _ => 0))))] H := hP
  have hD : va_D A [(tp, .inr (9, [.ref t0, .ref t1, .ref t2, .ref t3, .ref t4, .int 0, .int 0, .int 0, .int 0, .int 0, .int 0, .long 0])), (t2, .inl (kt2, 4001, .inl (fun _ => 0))), (t3, .inl (kt3, 4001, .inl (fun _ => 0))), (t4, .inl (kt4, 4001, .inr (.inl (fun _ => 0))))] := hD
  refine lv_aload_n hx hb dX9_begin_114 rfl (lv_at hl 1 rfl) ?_
  refine lv_iconst (v := 0) hx hb dX9_begin_115 (by decide) ?_
  refine va_put (D := D) (ci := 9) (v := .int 0) (ty := tyX9 8) (C := RX9) (T := TX9) (N := 12) hx hb hg inX9 tyX9 tyX9_ok nmX9 hown hK hP hD hS 0 rfl rfl 8 (by decide) (hg _ w261) (fun _ h9 => h9) rfl (tyX9_ok 8 (by decide)) rfl rfl (Nat.le_of_ble_eq_true rfl) dX9_begin_116 (fun H locs hP hD hS => ?_)
  have hP : va_P D vwCl [(tp, .inr (9, [.ref t0, .ref t1, .ref t2, .ref t3, .ref t4, .int 0, .int 0, .int 0, .int 0, .int 0, .int 0, .long 0])), (t2, .inl (kt2, 4001, .inl (fun _ => 0))), (t3, .inl (kt3, 4001, .inl (fun _ => 0))), (t4, .inl (kt4, 4001, .inr (.inl (fun _ => 0))))] H := hP
  have hD : va_D A [(tp, .inr (9, [.ref t0, .ref t1, .ref t2, .ref t3, .ref t4, .int 0, .int 0, .int 0, .int 0, .int 0, .int 0, .long 0])), (t2, .inl (kt2, 4001, .inl (fun _ => 0))), (t3, .inl (kt3, 4001, .inl (fun _ => 0))), (t4, .inl (kt4, 4001, .inr (.inl (fun _ => 0))))] := hD
  refine lv_aload_n hx hb dX9_begin_119 rfl (lv_at hl 1 rfl) ?_
  refine g_void (wr := []) (tr := []) (g_runV (As := []) (rest := []) (wc := [(tp, .inr (9, [.ref t0, .ref t1, .ref t2, .ref t3, .ref t4, .int 0, .int 0, .int 0, .int 0, .int 0, .int 0, .long 0])), (t2, .inl (kt2, 4001, .inl (fun _ => 0))), (t3, .inl (kt3, 4001, .inl (fun _ => 0))), (t4, .inl (kt4, 4001, .inr (.inl (fun _ => 0))))]) (tc := [(kt2, .int), (kt3, .int), (kt4, .long)]) (ci := 9) (q0 := 0) hx hb hml hown hg gw_self hP hD hK hS hA hnw hgk [0, 1, 2, 3] [0, 1, 2] (by decide) rfl rfl (c_Tape_next0 l D ks H.size tp t0 t1 t2 t3 t4 kt2 kt3 kt4) w851 w852 w853 w157 w854 rfl rfl hdV_yX9_next ⟨Nat.le_of_ble_eq_true rfl, Nat.le_of_ble_eq_true rfl⟩ rfl hl.1 rfl (Nat.le_of_ble_eq_true rfl) dX9_begin_120 ⟨Nat.le_of_ble_eq_true rfl, Nat.le_of_ble_eq_true rfl⟩) hP hD hK hS hA [0, 1, 2, 3] [] [] rfl rfl (by decide) (by decide) rfl (fun u5 H locs hw4 hP hD hK hS => ?_)
  have hP : va_P D vwCl [(tp, .inr (9, [.ref t0, .ref t1, .ref t2, .ref t3, .ref t4, .int 0, .int 0, .int 0, .int 0, .int 0, .int 0, .long 0])), (t2, .inl (kt2, 4001, .inl (fun _ => 0))), (t3, .inl (kt3, 4001, .inl (fun _ => 0))), (t4, .inl (kt4, 4001, .inr (.inl (fun _ => 0))))] H := hP
  have hD : va_D A [(tp, .inr (9, [.ref t0, .ref t1, .ref t2, .ref t3, .ref t4, .int 0, .int 0, .int 0, .int 0, .int 0, .int 0, .long 0])), (t2, .inl (kt2, 4001, .inl (fun _ => 0))), (t3, .inl (kt3, 4001, .inl (fun _ => 0))), (t4, .inl (kt4, 4001, .inr (.inl (fun _ => 0))))] := hD
  have hK : va_K D vwCl [(kt2, .int), (kt3, .int), (kt4, .long)] s := hK
  refine W.widen (k := 0) (n := 0) (Nat.le_of_ble_eq_true rfl) (Nat.le_of_ble_eq_true rfl) ?_
  have hP9 := hP.sub (ws' := [(tp, .inr (9, [.ref t0, .ref t1, .ref t2, .ref t3, .ref t4, .int 0, .int 0, .int 0, .int 0, .int 0, .int 0, .long 0])), (t2, .inl (kt2, 4001, .inl (fun _ => 0))), (t3, .inl (kt3, 4001, .inl (fun _ => 0))), (t4, .inl (kt4, 4001, .inr (.inl (fun _ => 0))))]) [0, 1, 2, 3] rfl
  have hD9 := hD.sub (ws' := [(tp, .inr (9, [.ref t0, .ref t1, .ref t2, .ref t3, .ref t4, .int 0, .int 0, .int 0, .int 0, .int 0, .int 0, .long 0])), (t2, .inl (kt2, 4001, .inl (fun _ => 0))), (t3, .inl (kt3, 4001, .inl (fun _ => 0))), (t4, .inl (kt4, 4001, .inr (.inl (fun _ => 0))))]) [0, 1, 2, 3] (by decide) rfl
  have hK9 := hK.sub (tys' := [(kt2, .int), (kt3, .int), (kt4, .long)]) [0, 1, 2] rfl
  exact W.vret hx hb hr (fun t ht hW => ⟨⟨(), rfl, (by first | rfl | trivial | assumption | decide), by rw [ht]; exact hP9, va_K.moved hW.alike hK9, hD9⟩, hS.F ht⟩) hS.2.2 dX9_begin_123
abbrev r_c_Tape_empty0 : Room := { frames := 0, cells := 0, slots := 0, locals := 0 }
abbrev q_c_Tape_empty0 (D : va_G) (tp : Nat) (t0 : Nat) (t1 : Nat) (t2 : Nat) (t3 : Nat) (t4 : Nat) (A : Nat → Prop) : Array Value → State → Outcome → State → Prop := va_Qv (fun (_ : Unit) => True) (fun u t => gq D A ((fun (_ : Unit) => [(tp, .inr (9, [.ref t0, .ref t1, .ref t2, .ref t3, .ref t4, .int 0, .int 0, .int 0, .int 0, .int 0, .int 0, .long 0]))]) u) ((fun (_ : Unit) => ([] : List (ClassId × FieldType))) u) t) A
set_option maxHeartbeats 4000000 in
set_option maxRecDepth 100000 in
theorem c_Tape_empty0 (l : Launch) (D : va_G) (ks : Nat × Nat × Option Nat) (sz : Nat) (tp : Nat) (t0 : Nat) (t1 : Nat) (t2 : Nat) (t3 : Nat) (t4 : Nat) : Met l yX9_empty (Cond.code yX9_empty cX9_empty 1 none :: GW) r_c_Tape_empty0 (va_Pc [.ref tp] (gp D ks [(tp, .inr (9, [.ref t0, .ref t1, .ref t2, .ref t3, .ref t4, .int 0, .int 0, .int 0, .int 0, .int 0, .int 0, .long 0]))] [] sz)) (q_c_Tape_empty0 D tp t0 t1 t2 t3 t4 (va_A [(tp, .inr (9, [.ref t0, .ref t1, .ref t2, .ref t3, .ref t4, .int 0, .int 0, .int 0, .int 0, .int 0, .int 0, .long 0]))] sz)) 0 0 (va_A [(tp, .inr (9, [.ref t0, .ref t1, .ref t2, .ref t3, .ref t4, .int 0, .int 0, .int 0, .int 0, .int 0, .int 0, .long 0]))] sz) := by
  refine g_met (q_c_Tape_empty0 D tp t0 t1 t2 t3 t4) (by decide) (Nat.le_of_ble_eq_true rfl) ?_
  intro p e s m below meth c A ls H locs hx hb hr hml hown hg hlocks hin hnw hgk hP hK hD hS hA hl
  have hown : s.vm.findClass RX9 = some m.cls := hown
  have hl : lv_has ls 1 [(0, .ref tp)] := hl
  refine lv_aload_n hx hb dX9_empty_0 rfl (lv_at hl 0 rfl) ?_
  refine lv_iconst (v := 0) hx hb dX9_empty_1 (by decide) ?_
  refine va_put (D := D) (ci := 9) (v := .int 0) (ty := tyX9 5) (C := RX9) (T := TX9) (N := 12) hx hb hg inX9 tyX9 tyX9_ok nmX9 hown hK hP hD hS 0 rfl rfl 5 (by decide) (hg _ w258) (fun _ h9 => h9) rfl (tyX9_ok 5 (by decide)) rfl rfl (Nat.le_of_ble_eq_true rfl) dX9_empty_2 (fun H locs hP hD hS => ?_)
  have hP : va_P D vwCl [(tp, .inr (9, [.ref t0, .ref t1, .ref t2, .ref t3, .ref t4, .int 0, .int 0, .int 0, .int 0, .int 0, .int 0, .long 0]))] H := hP
  have hD : va_D A [(tp, .inr (9, [.ref t0, .ref t1, .ref t2, .ref t3, .ref t4, .int 0, .int 0, .int 0, .int 0, .int 0, .int 0, .long 0]))] := hD
  refine W.widen (k := 0) (n := 0) (Nat.le_of_ble_eq_true rfl) (Nat.le_of_ble_eq_true rfl) ?_
  have hP9 := hP.sub (ws' := [(tp, .inr (9, [.ref t0, .ref t1, .ref t2, .ref t3, .ref t4, .int 0, .int 0, .int 0, .int 0, .int 0, .int 0, .long 0]))]) [0] rfl
  have hD9 := hD.sub (ws' := [(tp, .inr (9, [.ref t0, .ref t1, .ref t2, .ref t3, .ref t4, .int 0, .int 0, .int 0, .int 0, .int 0, .int 0, .long 0]))]) [0] (by decide) rfl
  have hK9 := hK.sub (tys' := []) [] rfl
  exact W.vret hx hb hr (fun t ht hW => ⟨⟨(), rfl, (by first | rfl | trivial | assumption | decide), by rw [ht]; exact hP9, va_K.moved hW.alike hK9, hD9⟩, hS.F ht⟩) hS.2.2 dX9_empty_5
abbrev r_c_Book_clear0 : Room := { frames := 0, cells := 0, slots := 0, locals := 0 }
abbrev q_c_Book_clear0 (D : va_G) (sp : Nat) (f0 : Nat) (f1 : Nat) (f2 : Nat) (f3 : Nat) (f4 : Nat) (g5 : Nat) (g6 : Nat) (g7 : Nat) (g8 : Nat) (g9 : Nat) (g10 : Nat) (j0 : Nat) (j1 : Nat) (j2 : Nat) (j3 : Nat) (j4 : Nat) (A : Nat → Prop) : Array Value → State → Outcome → State → Prop := va_Qv (fun (_ : Unit) => True) (fun u t => gq D A ((fun (_ : Unit) => [(sp, .inr (0, [.ref f0, .ref f1, .ref f2, .ref f3, .ref f4, .ref g5, .ref g6, .ref g7, .ref g8, .ref g9, .ref g10, .int 0, .int 0])), (f0, .inr (6, [.ref j0, .int 0])), (f1, .inr (6, [.ref j1, .int 0])), (f2, .inr (6, [.ref j2, .int 0])), (f3, .inr (6, [.ref j3, .int 0])), (f4, .inr (6, [.ref j4, .int 0]))]) u) ((fun (_ : Unit) => ([] : List (ClassId × FieldType))) u) t) A
set_option maxHeartbeats 4000000 in
set_option maxRecDepth 100000 in
theorem c_Book_clear0 (l : Launch) (D : va_G) (ks : Nat × Nat × Option Nat) (sz : Nat) (sp : Nat) (f0 : Nat) (f1 : Nat) (f2 : Nat) (f3 : Nat) (f4 : Nat) (g5 : Nat) (g6 : Nat) (g7 : Nat) (g8 : Nat) (g9 : Nat) (g10 : Nat) (j0 : Nat) (j1 : Nat) (j2 : Nat) (j3 : Nat) (j4 : Nat) : Met l yX0_clear (Cond.code yX0_clear cX0_clear 1 none :: GW) r_c_Book_clear0 (va_Pc [.ref sp] (gp D ks [(sp, .inr (0, [.ref f0, .ref f1, .ref f2, .ref f3, .ref f4, .ref g5, .ref g6, .ref g7, .ref g8, .ref g9, .ref g10, .int 0, .int 0])), (f0, .inr (6, [.ref j0, .int 0])), (f1, .inr (6, [.ref j1, .int 0])), (f2, .inr (6, [.ref j2, .int 0])), (f3, .inr (6, [.ref j3, .int 0])), (f4, .inr (6, [.ref j4, .int 0]))] [] sz)) (q_c_Book_clear0 D sp f0 f1 f2 f3 f4 g5 g6 g7 g8 g9 g10 j0 j1 j2 j3 j4 (va_A [(sp, .inr (0, [.ref f0, .ref f1, .ref f2, .ref f3, .ref f4, .ref g5, .ref g6, .ref g7, .ref g8, .ref g9, .ref g10, .int 0, .int 0])), (f0, .inr (6, [.ref j0, .int 0])), (f1, .inr (6, [.ref j1, .int 0])), (f2, .inr (6, [.ref j2, .int 0])), (f3, .inr (6, [.ref j3, .int 0])), (f4, .inr (6, [.ref j4, .int 0]))] sz)) 0 0 (va_A [(sp, .inr (0, [.ref f0, .ref f1, .ref f2, .ref f3, .ref f4, .ref g5, .ref g6, .ref g7, .ref g8, .ref g9, .ref g10, .int 0, .int 0])), (f0, .inr (6, [.ref j0, .int 0])), (f1, .inr (6, [.ref j1, .int 0])), (f2, .inr (6, [.ref j2, .int 0])), (f3, .inr (6, [.ref j3, .int 0])), (f4, .inr (6, [.ref j4, .int 0]))] sz) := by
  refine g_met (q_c_Book_clear0 D sp f0 f1 f2 f3 f4 g5 g6 g7 g8 g9 g10 j0 j1 j2 j3 j4) (by decide) (Nat.le_of_ble_eq_true rfl) ?_
  intro p e s m below meth c A ls H locs hx hb hr hml hown hg hlocks hin hnw hgk hP hK hD hS hA hl
  have hown : s.vm.findClass RX0 = some m.cls := hown
  have hl : lv_has ls 1 [(0, .ref sp)] := hl
  refine lv_aload_n hx hb dX0_clear_0 rfl (lv_at hl 0 rfl) ?_
  refine va_get (D := D) (ci := 0) (v := .ref f0) (C := RX0) (T := TX0) (N := 13) hx hb hg inX0 hown hK hP 0 rfl rfl 0 (by decide) (hg _ w593) (fun _ h9 => h9) rfl dX0_clear_1 ?_
  refine lv_iconst (v := 0) hx hb dX0_clear_4 (by decide) ?_
  refine va_putN (D := D) (ci := 6) (v := .int 0) (ty := tyX6 1) (C := RX6) (T := TX6) (N := 2) hx hb hg inX6 tyX6 tyX6_ok nmX6 hown hK hP hD hS 1 rfl rfl 1 (by decide) (hnw.use 481 n481 rfl) (fun _ h9 => h9) rfl (tyX6_ok 1 (by decide)) rfl rfl (Nat.le_of_ble_eq_true rfl) dX0_clear_5 (fun H locs hP hD hS => ?_)
  have hP : va_P D vwCl [(sp, .inr (0, [.ref f0, .ref f1, .ref f2, .ref f3, .ref f4, .ref g5, .ref g6, .ref g7, .ref g8, .ref g9, .ref g10, .int 0, .int 0])), (f0, .inr (6, [.ref j0, .int 0])), (f1, .inr (6, [.ref j1, .int 0])), (f2, .inr (6, [.ref j2, .int 0])), (f3, .inr (6, [.ref j3, .int 0])), (f4, .inr (6, [.ref j4, .int 0]))] H := hP
  have hD : va_D A [(sp, .inr (0, [.ref f0, .ref f1, .ref f2, .ref f3, .ref f4, .ref g5, .ref g6, .ref g7, .ref g8, .ref g9, .ref g10, .int 0, .int 0])), (f0, .inr (6, [.ref j0, .int 0])), (f1, .inr (6, [.ref j1, .int 0])), (f2, .inr (6, [.ref j2, .int 0])), (f3, .inr (6, [.ref j3, .int 0])), (f4, .inr (6, [.ref j4, .int 0]))] := hD
  refine lv_aload_n hx hb dX0_clear_8 rfl (lv_at hl 0 rfl) ?_
  refine va_get (D := D) (ci := 0) (v := .ref f1) (C := RX0) (T := TX0) (N := 13) hx hb hg inX0 hown hK hP 0 rfl rfl 1 (by decide) (hg _ w596) (fun _ h9 => h9) rfl dX0_clear_9 ?_
  refine lv_iconst (v := 0) hx hb dX0_clear_12 (by decide) ?_
  refine va_putN (D := D) (ci := 6) (v := .int 0) (ty := tyX6 1) (C := RX6) (T := TX6) (N := 2) hx hb hg inX6 tyX6 tyX6_ok nmX6 hown hK hP hD hS 2 rfl rfl 1 (by decide) (hnw.use 481 n481 rfl) (fun _ h9 => h9) rfl (tyX6_ok 1 (by decide)) rfl rfl (Nat.le_of_ble_eq_true rfl) dX0_clear_13 (fun H locs hP hD hS => ?_)
  have hP : va_P D vwCl [(sp, .inr (0, [.ref f0, .ref f1, .ref f2, .ref f3, .ref f4, .ref g5, .ref g6, .ref g7, .ref g8, .ref g9, .ref g10, .int 0, .int 0])), (f0, .inr (6, [.ref j0, .int 0])), (f1, .inr (6, [.ref j1, .int 0])), (f2, .inr (6, [.ref j2, .int 0])), (f3, .inr (6, [.ref j3, .int 0])), (f4, .inr (6, [.ref j4, .int 0]))] H := hP
  have hD : va_D A [(sp, .inr (0, [.ref f0, .ref f1, .ref f2, .ref f3, .ref f4, .ref g5, .ref g6, .ref g7, .ref g8, .ref g9, .ref g10, .int 0, .int 0])), (f0, .inr (6, [.ref j0, .int 0])), (f1, .inr (6, [.ref j1, .int 0])), (f2, .inr (6, [.ref j2, .int 0])), (f3, .inr (6, [.ref j3, .int 0])), (f4, .inr (6, [.ref j4, .int 0]))] := hD
  refine lv_aload_n hx hb dX0_clear_16 rfl (lv_at hl 0 rfl) ?_
  refine va_get (D := D) (ci := 0) (v := .ref f2) (C := RX0) (T := TX0) (N := 13) hx hb hg inX0 hown hK hP 0 rfl rfl 2 (by decide) (hg _ w599) (fun _ h9 => h9) rfl dX0_clear_17 ?_
  refine lv_iconst (v := 0) hx hb dX0_clear_20 (by decide) ?_
  refine va_putN (D := D) (ci := 6) (v := .int 0) (ty := tyX6 1) (C := RX6) (T := TX6) (N := 2) hx hb hg inX6 tyX6 tyX6_ok nmX6 hown hK hP hD hS 3 rfl rfl 1 (by decide) (hnw.use 481 n481 rfl) (fun _ h9 => h9) rfl (tyX6_ok 1 (by decide)) rfl rfl (Nat.le_of_ble_eq_true rfl) dX0_clear_21 (fun H locs hP hD hS => ?_)
  have hP : va_P D vwCl [(sp, .inr (0, [.ref f0, .ref f1, .ref f2, .ref f3, .ref f4, .ref g5, .ref g6, .ref g7, .ref g8, .ref g9, .ref g10, .int 0, .int 0])), (f0, .inr (6, [.ref j0, .int 0])), (f1, .inr (6, [.ref j1, .int 0])), (f2, .inr (6, [.ref j2, .int 0])), (f3, .inr (6, [.ref j3, .int 0])), (f4, .inr (6, [.ref j4, .int 0]))] H := hP
  have hD : va_D A [(sp, .inr (0, [.ref f0, .ref f1, .ref f2, .ref f3, .ref f4, .ref g5, .ref g6, .ref g7, .ref g8, .ref g9, .ref g10, .int 0, .int 0])), (f0, .inr (6, [.ref j0, .int 0])), (f1, .inr (6, [.ref j1, .int 0])), (f2, .inr (6, [.ref j2, .int 0])), (f3, .inr (6, [.ref j3, .int 0])), (f4, .inr (6, [.ref j4, .int 0]))] := hD
  refine lv_aload_n hx hb dX0_clear_24 rfl (lv_at hl 0 rfl) ?_
  refine va_get (D := D) (ci := 0) (v := .ref f3) (C := RX0) (T := TX0) (N := 13) hx hb hg inX0 hown hK hP 0 rfl rfl 3 (by decide) (hg _ w603) (fun _ h9 => h9) rfl dX0_clear_25 ?_
  refine lv_iconst (v := 0) hx hb dX0_clear_28 (by decide) ?_
  refine va_putN (D := D) (ci := 6) (v := .int 0) (ty := tyX6 1) (C := RX6) (T := TX6) (N := 2) hx hb hg inX6 tyX6 tyX6_ok nmX6 hown hK hP hD hS 4 rfl rfl 1 (by decide) (hnw.use 481 n481 rfl) (fun _ h9 => h9) rfl (tyX6_ok 1 (by decide)) rfl rfl (Nat.le_of_ble_eq_true rfl) dX0_clear_29 (fun H locs hP hD hS => ?_)
  have hP : va_P D vwCl [(sp, .inr (0, [.ref f0, .ref f1, .ref f2, .ref f3, .ref f4, .ref g5, .ref g6, .ref g7, .ref g8, .ref g9, .ref g10, .int 0, .int 0])), (f0, .inr (6, [.ref j0, .int 0])), (f1, .inr (6, [.ref j1, .int 0])), (f2, .inr (6, [.ref j2, .int 0])), (f3, .inr (6, [.ref j3, .int 0])), (f4, .inr (6, [.ref j4, .int 0]))] H := hP
  have hD : va_D A [(sp, .inr (0, [.ref f0, .ref f1, .ref f2, .ref f3, .ref f4, .ref g5, .ref g6, .ref g7, .ref g8, .ref g9, .ref g10, .int 0, .int 0])), (f0, .inr (6, [.ref j0, .int 0])), (f1, .inr (6, [.ref j1, .int 0])), (f2, .inr (6, [.ref j2, .int 0])), (f3, .inr (6, [.ref j3, .int 0])), (f4, .inr (6, [.ref j4, .int 0]))] := hD
  refine lv_aload_n hx hb dX0_clear_32 rfl (lv_at hl 0 rfl) ?_
  refine va_get (D := D) (ci := 0) (v := .ref f4) (C := RX0) (T := TX0) (N := 13) hx hb hg inX0 hown hK hP 0 rfl rfl 4 (by decide) (hg _ w606) (fun _ h9 => h9) rfl dX0_clear_33 ?_
  refine lv_iconst (v := 0) hx hb dX0_clear_36 (by decide) ?_
  refine va_putN (D := D) (ci := 6) (v := .int 0) (ty := tyX6 1) (C := RX6) (T := TX6) (N := 2) hx hb hg inX6 tyX6 tyX6_ok nmX6 hown hK hP hD hS 5 rfl rfl 1 (by decide) (hnw.use 481 n481 rfl) (fun _ h9 => h9) rfl (tyX6_ok 1 (by decide)) rfl rfl (Nat.le_of_ble_eq_true rfl) dX0_clear_37 (fun H locs hP hD hS => ?_)
  have hP : va_P D vwCl [(sp, .inr (0, [.ref f0, .ref f1, .ref f2, .ref f3, .ref f4, .ref g5, .ref g6, .ref g7, .ref g8, .ref g9, .ref g10, .int 0, .int 0])), (f0, .inr (6, [.ref j0, .int 0])), (f1, .inr (6, [.ref j1, .int 0])), (f2, .inr (6, [.ref j2, .int 0])), (f3, .inr (6, [.ref j3, .int 0])), (f4, .inr (6, [.ref j4, .int 0]))] H := hP
  have hD : va_D A [(sp, .inr (0, [.ref f0, .ref f1, .ref f2, .ref f3, .ref f4, .ref g5, .ref g6, .ref g7, .ref g8, .ref g9, .ref g10, .int 0, .int 0])), (f0, .inr (6, [.ref j0, .int 0])), (f1, .inr (6, [.ref j1, .int 0])), (f2, .inr (6, [.ref j2, .int 0])), (f3, .inr (6, [.ref j3, .int 0])), (f4, .inr (6, [.ref j4, .int 0]))] := hD
  refine lv_aload_n hx hb dX0_clear_40 rfl (lv_at hl 0 rfl) ?_
  refine lv_iconst (v := 0) hx hb dX0_clear_41 (by decide) ?_
  refine va_put (D := D) (ci := 0) (v := .int 0) (ty := tyX0 11) (C := RX0) (T := TX0) (N := 13) hx hb hg inX0 tyX0 tyX0_ok nmX0 hown hK hP hD hS 0 rfl rfl 11 (by decide) (hg _ w625) (fun _ h9 => h9) rfl (tyX0_ok 11 (by decide)) rfl rfl (Nat.le_of_ble_eq_true rfl) dX0_clear_42 (fun H locs hP hD hS => ?_)
  have hP : va_P D vwCl [(sp, .inr (0, [.ref f0, .ref f1, .ref f2, .ref f3, .ref f4, .ref g5, .ref g6, .ref g7, .ref g8, .ref g9, .ref g10, .int 0, .int 0])), (f0, .inr (6, [.ref j0, .int 0])), (f1, .inr (6, [.ref j1, .int 0])), (f2, .inr (6, [.ref j2, .int 0])), (f3, .inr (6, [.ref j3, .int 0])), (f4, .inr (6, [.ref j4, .int 0]))] H := hP
  have hD : va_D A [(sp, .inr (0, [.ref f0, .ref f1, .ref f2, .ref f3, .ref f4, .ref g5, .ref g6, .ref g7, .ref g8, .ref g9, .ref g10, .int 0, .int 0])), (f0, .inr (6, [.ref j0, .int 0])), (f1, .inr (6, [.ref j1, .int 0])), (f2, .inr (6, [.ref j2, .int 0])), (f3, .inr (6, [.ref j3, .int 0])), (f4, .inr (6, [.ref j4, .int 0]))] := hD
  refine lv_aload_n hx hb dX0_clear_45 rfl (lv_at hl 0 rfl) ?_
  refine lv_iconst (v := 0) hx hb dX0_clear_46 (by decide) ?_
  refine va_put (D := D) (ci := 0) (v := .int 0) (ty := tyX0 12) (C := RX0) (T := TX0) (N := 13) hx hb hg inX0 tyX0 tyX0_ok nmX0 hown hK hP hD hS 0 rfl rfl 12 (by decide) (hg _ w629) (fun _ h9 => h9) rfl (tyX0_ok 12 (by decide)) rfl rfl (Nat.le_of_ble_eq_true rfl) dX0_clear_47 (fun H locs hP hD hS => ?_)
  have hP : va_P D vwCl [(sp, .inr (0, [.ref f0, .ref f1, .ref f2, .ref f3, .ref f4, .ref g5, .ref g6, .ref g7, .ref g8, .ref g9, .ref g10, .int 0, .int 0])), (f0, .inr (6, [.ref j0, .int 0])), (f1, .inr (6, [.ref j1, .int 0])), (f2, .inr (6, [.ref j2, .int 0])), (f3, .inr (6, [.ref j3, .int 0])), (f4, .inr (6, [.ref j4, .int 0]))] H := hP
  have hD : va_D A [(sp, .inr (0, [.ref f0, .ref f1, .ref f2, .ref f3, .ref f4, .ref g5, .ref g6, .ref g7, .ref g8, .ref g9, .ref g10, .int 0, .int 0])), (f0, .inr (6, [.ref j0, .int 0])), (f1, .inr (6, [.ref j1, .int 0])), (f2, .inr (6, [.ref j2, .int 0])), (f3, .inr (6, [.ref j3, .int 0])), (f4, .inr (6, [.ref j4, .int 0]))] := hD
  refine W.widen (k := 0) (n := 0) (Nat.le_of_ble_eq_true rfl) (Nat.le_of_ble_eq_true rfl) ?_
  have hP9 := hP.sub (ws' := [(sp, .inr (0, [.ref f0, .ref f1, .ref f2, .ref f3, .ref f4, .ref g5, .ref g6, .ref g7, .ref g8, .ref g9, .ref g10, .int 0, .int 0])), (f0, .inr (6, [.ref j0, .int 0])), (f1, .inr (6, [.ref j1, .int 0])), (f2, .inr (6, [.ref j2, .int 0])), (f3, .inr (6, [.ref j3, .int 0])), (f4, .inr (6, [.ref j4, .int 0]))]) [0, 1, 2, 3, 4, 5] rfl
  have hD9 := hD.sub (ws' := [(sp, .inr (0, [.ref f0, .ref f1, .ref f2, .ref f3, .ref f4, .ref g5, .ref g6, .ref g7, .ref g8, .ref g9, .ref g10, .int 0, .int 0])), (f0, .inr (6, [.ref j0, .int 0])), (f1, .inr (6, [.ref j1, .int 0])), (f2, .inr (6, [.ref j2, .int 0])), (f3, .inr (6, [.ref j3, .int 0])), (f4, .inr (6, [.ref j4, .int 0]))]) [0, 1, 2, 3, 4, 5] (by decide) rfl
  have hK9 := hK.sub (tys' := []) [] rfl
  exact W.vret hx hb hr (fun t ht hW => ⟨⟨(), rfl, (by first | rfl | trivial | assumption | decide), by rw [ht]; exact hP9, va_K.moved hW.alike hK9, hD9⟩, hS.F ht⟩) hS.2.2 dX0_clear_50
abbrev r_c_read0 : Room := { frames := 2, cells := 0, slots := 0, locals := 41 }
abbrev q_c_read0 (D : va_G) (rd : Nat) (tp : Nat) (t0 : Nat) (t1 : Nat) (t2 : Nat) (t3 : Nat) (t4 : Nat) (kt2 : ClassId) (kt3 : ClassId) (kt4 : ClassId) (sp : Nat) (f0 : Nat) (f1 : Nat) (f2 : Nat) (f3 : Nat) (f4 : Nat) (g5 : Nat) (g6 : Nat) (g7 : Nat) (g8 : Nat) (g9 : Nat) (g10 : Nat) (j0 : Nat) (j1 : Nat) (j2 : Nat) (j3 : Nat) (j4 : Nat) (A : Nat → Prop) : Array Value → State → Outcome → State → Prop := va_Qi (fun (r : Int32) (_ : Unit) => r = 0) (fun u t => gq D A ((fun (_ : Unit) => [(rd, .inr (1, [.ref tp, .ref sp, .null, .int 0, .int 0, .long 0, .int 0, .int 0, .int 0])), (tp, .inr (9, [.ref t0, .ref t1, .ref t2, .ref t3, .ref t4, .int 0, .int 0, .int 0, .int 0, .int 0, .int 0, .long 0])), (t2, .inl (kt2, 4001, .inl (fun _ => 0))), (t3, .inl (kt3, 4001, .inl (fun _ => 0))), (t4, .inl (kt4, 4001, .inr (.inl (fun _ => 0)))), (sp, .inr (0, [.ref f0, .ref f1, .ref f2, .ref f3, .ref f4, .ref g5, .ref g6, .ref g7, .ref g8, .ref g9, .ref g10, .int 0, .int 0])), (f0, .inr (6, [.ref j0, .int 0])), (f1, .inr (6, [.ref j1, .int 0])), (f2, .inr (6, [.ref j2, .int 0])), (f3, .inr (6, [.ref j3, .int 0])), (f4, .inr (6, [.ref j4, .int 0]))]) u) ((fun (_ : Unit) => ([(kt2, .int), (kt3, .int), (kt4, .long)] : List (ClassId × FieldType))) u) t) A
set_option maxHeartbeats 4000000 in
set_option maxRecDepth 100000 in
theorem c_read0 (l : Launch) (D : va_G) (ks : Nat × Nat × Option Nat) (sz : Nat) (rd : Nat) (tp : Nat) (t0 : Nat) (t1 : Nat) (t2 : Nat) (t3 : Nat) (t4 : Nat) (kt2 : ClassId) (kt3 : ClassId) (kt4 : ClassId) (sp : Nat) (f0 : Nat) (f1 : Nat) (f2 : Nat) (f3 : Nat) (f4 : Nat) (g5 : Nat) (g6 : Nat) (g7 : Nat) (g8 : Nat) (g9 : Nat) (g10 : Nat) (j0 : Nat) (j1 : Nat) (j2 : Nat) (j3 : Nat) (j4 : Nat) : Met l yX1_read (Cond.code yX1_read cX1_read 4 (some .int) :: GW) r_c_read0 (va_Pc [.ref rd, .ref sp] (gp D ks [(rd, .inr (1, [.ref tp, .null, .null, .int 0, .int 0, .long 0, .int 0, .int 0, .int 0])), (tp, .inr (9, [.ref t0, .ref t1, .ref t2, .ref t3, .ref t4, .int 0, .int 0, .int 0, .int 0, .int 0, .int 0, .long 0])), (t2, .inl (kt2, 4001, .inl (fun _ => 0))), (t3, .inl (kt3, 4001, .inl (fun _ => 0))), (t4, .inl (kt4, 4001, .inr (.inl (fun _ => 0)))), (sp, .inr (0, [.ref f0, .ref f1, .ref f2, .ref f3, .ref f4, .ref g5, .ref g6, .ref g7, .ref g8, .ref g9, .ref g10, .int 0, .int 0])), (f0, .inr (6, [.ref j0, .int 0])), (f1, .inr (6, [.ref j1, .int 0])), (f2, .inr (6, [.ref j2, .int 0])), (f3, .inr (6, [.ref j3, .int 0])), (f4, .inr (6, [.ref j4, .int 0]))] [(kt2, .int), (kt3, .int), (kt4, .long)] sz)) (q_c_read0 D rd tp t0 t1 t2 t3 t4 kt2 kt3 kt4 sp f0 f1 f2 f3 f4 g5 g6 g7 g8 g9 g10 j0 j1 j2 j3 j4 (va_A [(rd, .inr (1, [.ref tp, .null, .null, .int 0, .int 0, .long 0, .int 0, .int 0, .int 0])), (tp, .inr (9, [.ref t0, .ref t1, .ref t2, .ref t3, .ref t4, .int 0, .int 0, .int 0, .int 0, .int 0, .int 0, .long 0])), (t2, .inl (kt2, 4001, .inl (fun _ => 0))), (t3, .inl (kt3, 4001, .inl (fun _ => 0))), (t4, .inl (kt4, 4001, .inr (.inl (fun _ => 0)))), (sp, .inr (0, [.ref f0, .ref f1, .ref f2, .ref f3, .ref f4, .ref g5, .ref g6, .ref g7, .ref g8, .ref g9, .ref g10, .int 0, .int 0])), (f0, .inr (6, [.ref j0, .int 0])), (f1, .inr (6, [.ref j1, .int 0])), (f2, .inr (6, [.ref j2, .int 0])), (f3, .inr (6, [.ref j3, .int 0])), (f4, .inr (6, [.ref j4, .int 0]))] sz)) 0 0 (va_A [(rd, .inr (1, [.ref tp, .null, .null, .int 0, .int 0, .long 0, .int 0, .int 0, .int 0])), (tp, .inr (9, [.ref t0, .ref t1, .ref t2, .ref t3, .ref t4, .int 0, .int 0, .int 0, .int 0, .int 0, .int 0, .long 0])), (t2, .inl (kt2, 4001, .inl (fun _ => 0))), (t3, .inl (kt3, 4001, .inl (fun _ => 0))), (t4, .inl (kt4, 4001, .inr (.inl (fun _ => 0)))), (sp, .inr (0, [.ref f0, .ref f1, .ref f2, .ref f3, .ref f4, .ref g5, .ref g6, .ref g7, .ref g8, .ref g9, .ref g10, .int 0, .int 0])), (f0, .inr (6, [.ref j0, .int 0])), (f1, .inr (6, [.ref j1, .int 0])), (f2, .inr (6, [.ref j2, .int 0])), (f3, .inr (6, [.ref j3, .int 0])), (f4, .inr (6, [.ref j4, .int 0]))] sz) := by
  refine g_met (q_c_read0 D rd tp t0 t1 t2 t3 t4 kt2 kt3 kt4 sp f0 f1 f2 f3 f4 g5 g6 g7 g8 g9 g10 j0 j1 j2 j3 j4) (by decide) (Nat.le_of_ble_eq_true rfl) ?_
  intro p e s m below meth c A ls H locs hx hb hr hml hown hg hlocks hin hnw hgk hP hK hD hS hA hl
  have hown : s.vm.findClass RX1 = some m.cls := hown
  have hl : lv_has ls 4 [(0, .ref rd), (1, .ref sp)] := hl
  refine lv_aload_n hx hb dX1_read_0 rfl (lv_at hl 0 rfl) ?_
  refine lv_aload_n hx hb dX1_read_1 rfl (lv_at hl 1 rfl) ?_
  refine va_put (D := D) (ci := 1) (v := .ref sp) (ty := tyX1 1) (C := RX1) (T := TX1) (N := 9) hx hb hg inX1 tyX1 tyX1_ok nmX1 hown hK hP hD hS 0 rfl rfl 1 (by decide) (hg _ w305) (fun _ h9 => h9) rfl (tyX1_ok 1 (by decide)) rfl rfl (Nat.le_of_ble_eq_true rfl) dX1_read_2 (fun H locs hP hD hS => ?_)
  have hP : va_P D vwCl [(rd, .inr (1, [.ref tp, .ref sp, .null, .int 0, .int 0, .long 0, .int 0, .int 0, .int 0])), (tp, .inr (9, [.ref t0, .ref t1, .ref t2, .ref t3, .ref t4, .int 0, .int 0, .int 0, .int 0, .int 0, .int 0, .long 0])), (t2, .inl (kt2, 4001, .inl (fun _ => 0))), (t3, .inl (kt3, 4001, .inl (fun _ => 0))), (t4, .inl (kt4, 4001, .inr (.inl (fun _ => 0)))), (sp, .inr (0, [.ref f0, .ref f1, .ref f2, .ref f3, .ref f4, .ref g5, .ref g6, .ref g7, .ref g8, .ref g9, .ref g10, .int 0, .int 0])), (f0, .inr (6, [.ref j0, .int 0])), (f1, .inr (6, [.ref j1, .int 0])), (f2, .inr (6, [.ref j2, .int 0])), (f3, .inr (6, [.ref j3, .int 0])), (f4, .inr (6, [.ref j4, .int 0]))] H := hP
  have hD : va_D A [(rd, .inr (1, [.ref tp, .ref sp, .null, .int 0, .int 0, .long 0, .int 0, .int 0, .int 0])), (tp, .inr (9, [.ref t0, .ref t1, .ref t2, .ref t3, .ref t4, .int 0, .int 0, .int 0, .int 0, .int 0, .int 0, .long 0])), (t2, .inl (kt2, 4001, .inl (fun _ => 0))), (t3, .inl (kt3, 4001, .inl (fun _ => 0))), (t4, .inl (kt4, 4001, .inr (.inl (fun _ => 0)))), (sp, .inr (0, [.ref f0, .ref f1, .ref f2, .ref f3, .ref f4, .ref g5, .ref g6, .ref g7, .ref g8, .ref g9, .ref g10, .int 0, .int 0])), (f0, .inr (6, [.ref j0, .int 0])), (f1, .inr (6, [.ref j1, .int 0])), (f2, .inr (6, [.ref j2, .int 0])), (f3, .inr (6, [.ref j3, .int 0])), (f4, .inr (6, [.ref j4, .int 0]))] := hD
  refine lv_aload_n hx hb dX1_read_5 rfl (lv_at hl 0 rfl) ?_
  refine va_get (D := D) (ci := 1) (v := .ref sp) (C := RX1) (T := TX1) (N := 9) hx hb hg inX1 hown hK hP 0 rfl rfl 1 (by decide) (hg _ w305) (fun _ h9 => h9) rfl dX1_read_6 ?_
  refine g_void (wr := [(rd, .inr (1, [.ref tp, .ref sp, .null, .int 0, .int 0, .long 0, .int 0, .int 0, .int 0])), (tp, .inr (9, [.ref t0, .ref t1, .ref t2, .ref t3, .ref t4, .int 0, .int 0, .int 0, .int 0, .int 0, .int 0, .long 0])), (t2, .inl (kt2, 4001, .inl (fun _ => 0))), (t3, .inl (kt3, 4001, .inl (fun _ => 0))), (t4, .inl (kt4, 4001, .inr (.inl (fun _ => 0))))]) (tr := [(kt2, .int), (kt3, .int), (kt4, .long)]) (g_runV (As := []) (rest := []) (wc := [(sp, .inr (0, [.ref f0, .ref f1, .ref f2, .ref f3, .ref f4, .ref g5, .ref g6, .ref g7, .ref g8, .ref g9, .ref g10, .int 0, .int 0])), (f0, .inr (6, [.ref j0, .int 0])), (f1, .inr (6, [.ref j1, .int 0])), (f2, .inr (6, [.ref j2, .int 0])), (f3, .inr (6, [.ref j3, .int 0])), (f4, .inr (6, [.ref j4, .int 0]))]) (tc := []) (ci := 0) (q0 := 5) hx hb hml hown hg gw_self hP hD hK hS hA hnw hgk [5, 6, 7, 8, 9, 10] [] (by decide) rfl rfl (c_Book_clear0 l D ks H.size sp f0 f1 f2 f3 f4 g5 g6 g7 g8 g9 g10 j0 j1 j2 j3 j4) w762 w763 w764 w167 w765 rfl rfl hdV_yX0_clear ⟨Nat.le_of_ble_eq_true rfl, Nat.le_of_ble_eq_true rfl⟩ rfl hl.1 rfl (Nat.le_of_ble_eq_true rfl) dX1_read_9 ⟨Nat.le_of_ble_eq_true rfl, Nat.le_of_ble_eq_true rfl⟩) hP hD hK hS hA [5, 6, 7, 8, 9, 10] [0, 1, 2, 3, 4] [0, 1, 2] rfl rfl (by decide) (by decide) rfl (fun u2 H locs hw1 hP hD hK hS => ?_)
  have hP : va_P D vwCl [(rd, .inr (1, [.ref tp, .ref sp, .null, .int 0, .int 0, .long 0, .int 0, .int 0, .int 0])), (tp, .inr (9, [.ref t0, .ref t1, .ref t2, .ref t3, .ref t4, .int 0, .int 0, .int 0, .int 0, .int 0, .int 0, .long 0])), (t2, .inl (kt2, 4001, .inl (fun _ => 0))), (t3, .inl (kt3, 4001, .inl (fun _ => 0))), (t4, .inl (kt4, 4001, .inr (.inl (fun _ => 0)))), (sp, .inr (0, [.ref f0, .ref f1, .ref f2, .ref f3, .ref f4, .ref g5, .ref g6, .ref g7, .ref g8, .ref g9, .ref g10, .int 0, .int 0])), (f0, .inr (6, [.ref j0, .int 0])), (f1, .inr (6, [.ref j1, .int 0])), (f2, .inr (6, [.ref j2, .int 0])), (f3, .inr (6, [.ref j3, .int 0])), (f4, .inr (6, [.ref j4, .int 0]))] H := hP
  have hD : va_D A [(rd, .inr (1, [.ref tp, .ref sp, .null, .int 0, .int 0, .long 0, .int 0, .int 0, .int 0])), (tp, .inr (9, [.ref t0, .ref t1, .ref t2, .ref t3, .ref t4, .int 0, .int 0, .int 0, .int 0, .int 0, .int 0, .long 0])), (t2, .inl (kt2, 4001, .inl (fun _ => 0))), (t3, .inl (kt3, 4001, .inl (fun _ => 0))), (t4, .inl (kt4, 4001, .inr (.inl (fun _ => 0)))), (sp, .inr (0, [.ref f0, .ref f1, .ref f2, .ref f3, .ref f4, .ref g5, .ref g6, .ref g7, .ref g8, .ref g9, .ref g10, .int 0, .int 0])), (f0, .inr (6, [.ref j0, .int 0])), (f1, .inr (6, [.ref j1, .int 0])), (f2, .inr (6, [.ref j2, .int 0])), (f3, .inr (6, [.ref j3, .int 0])), (f4, .inr (6, [.ref j4, .int 0]))] := hD
  have hK : va_K D vwCl [(kt2, .int), (kt3, .int), (kt4, .long)] s := hK
  refine lv_aload_n hx hb dX1_read_12 rfl (lv_at hl 0 rfl) ?_
  refine lv_null hx hb dX1_read_13 ?_
  refine va_put (D := D) (ci := 1) (v := .null) (ty := tyX1 2) (C := RX1) (T := TX1) (N := 9) hx hb hg inX1 tyX1 tyX1_ok nmX1 hown hK hP hD hS 0 rfl rfl 2 (by decide) (hg _ w306) (fun _ h9 => h9) rfl (tyX1_ok 2 (by decide)) rfl rfl (Nat.le_of_ble_eq_true rfl) dX1_read_14 (fun H locs hP hD hS => ?_)
  have hP : va_P D vwCl [(rd, .inr (1, [.ref tp, .ref sp, .null, .int 0, .int 0, .long 0, .int 0, .int 0, .int 0])), (tp, .inr (9, [.ref t0, .ref t1, .ref t2, .ref t3, .ref t4, .int 0, .int 0, .int 0, .int 0, .int 0, .int 0, .long 0])), (t2, .inl (kt2, 4001, .inl (fun _ => 0))), (t3, .inl (kt3, 4001, .inl (fun _ => 0))), (t4, .inl (kt4, 4001, .inr (.inl (fun _ => 0)))), (sp, .inr (0, [.ref f0, .ref f1, .ref f2, .ref f3, .ref f4, .ref g5, .ref g6, .ref g7, .ref g8, .ref g9, .ref g10, .int 0, .int 0])), (f0, .inr (6, [.ref j0, .int 0])), (f1, .inr (6, [.ref j1, .int 0])), (f2, .inr (6, [.ref j2, .int 0])), (f3, .inr (6, [.ref j3, .int 0])), (f4, .inr (6, [.ref j4, .int 0]))] H := hP
  have hD : va_D A [(rd, .inr (1, [.ref tp, .ref sp, .null, .int 0, .int 0, .long 0, .int 0, .int 0, .int 0])), (tp, .inr (9, [.ref t0, .ref t1, .ref t2, .ref t3, .ref t4, .int 0, .int 0, .int 0, .int 0, .int 0, .int 0, .long 0])), (t2, .inl (kt2, 4001, .inl (fun _ => 0))), (t3, .inl (kt3, 4001, .inl (fun _ => 0))), (t4, .inl (kt4, 4001, .inr (.inl (fun _ => 0)))), (sp, .inr (0, [.ref f0, .ref f1, .ref f2, .ref f3, .ref f4, .ref g5, .ref g6, .ref g7, .ref g8, .ref g9, .ref g10, .int 0, .int 0])), (f0, .inr (6, [.ref j0, .int 0])), (f1, .inr (6, [.ref j1, .int 0])), (f2, .inr (6, [.ref j2, .int 0])), (f3, .inr (6, [.ref j3, .int 0])), (f4, .inr (6, [.ref j4, .int 0]))] := hD
  refine lv_aload_n hx hb dX1_read_17 rfl (lv_at hl 0 rfl) ?_
  refine lv_iconst (v := 0) hx hb dX1_read_18 (by decide) ?_
  refine va_put (D := D) (ci := 1) (v := .int 0) (ty := tyX1 3) (C := RX1) (T := TX1) (N := 9) hx hb hg inX1 tyX1 tyX1_ok nmX1 hown hK hP hD hS 0 rfl rfl 3 (by decide) (hg _ w307) (fun _ h9 => h9) rfl (tyX1_ok 3 (by decide)) rfl rfl (Nat.le_of_ble_eq_true rfl) dX1_read_19 (fun H locs hP hD hS => ?_)
  have hP : va_P D vwCl [(rd, .inr (1, [.ref tp, .ref sp, .null, .int 0, .int 0, .long 0, .int 0, .int 0, .int 0])), (tp, .inr (9, [.ref t0, .ref t1, .ref t2, .ref t3, .ref t4, .int 0, .int 0, .int 0, .int 0, .int 0, .int 0, .long 0])), (t2, .inl (kt2, 4001, .inl (fun _ => 0))), (t3, .inl (kt3, 4001, .inl (fun _ => 0))), (t4, .inl (kt4, 4001, .inr (.inl (fun _ => 0)))), (sp, .inr (0, [.ref f0, .ref f1, .ref f2, .ref f3, .ref f4, .ref g5, .ref g6, .ref g7, .ref g8, .ref g9, .ref g10, .int 0, .int 0])), (f0, .inr (6, [.ref j0, .int 0])), (f1, .inr (6, [.ref j1, .int 0])), (f2, .inr (6, [.ref j2, .int 0])), (f3, .inr (6, [.ref j3, .int 0])), (f4, .inr (6, [.ref j4, .int 0]))] H := hP
  have hD : va_D A [(rd, .inr (1, [.ref tp, .ref sp, .null, .int 0, .int 0, .long 0, .int 0, .int 0, .int 0])), (tp, .inr (9, [.ref t0, .ref t1, .ref t2, .ref t3, .ref t4, .int 0, .int 0, .int 0, .int 0, .int 0, .int 0, .long 0])), (t2, .inl (kt2, 4001, .inl (fun _ => 0))), (t3, .inl (kt3, 4001, .inl (fun _ => 0))), (t4, .inl (kt4, 4001, .inr (.inl (fun _ => 0)))), (sp, .inr (0, [.ref f0, .ref f1, .ref f2, .ref f3, .ref f4, .ref g5, .ref g6, .ref g7, .ref g8, .ref g9, .ref g10, .int 0, .int 0])), (f0, .inr (6, [.ref j0, .int 0])), (f1, .inr (6, [.ref j1, .int 0])), (f2, .inr (6, [.ref j2, .int 0])), (f3, .inr (6, [.ref j3, .int 0])), (f4, .inr (6, [.ref j4, .int 0]))] := hD
  refine lv_aload_n hx hb dX1_read_22 rfl (lv_at hl 0 rfl) ?_
  refine va_get (D := D) (ci := 1) (v := .ref tp) (C := RX1) (T := TX1) (N := 9) hx hb hg inX1 hown hK hP 0 rfl rfl 0 (by decide) (hg _ w304) (fun _ h9 => h9) rfl dX1_read_23 ?_
  refine g_void (wr := [(rd, .inr (1, [.ref tp, .ref sp, .null, .int 0, .int 0, .long 0, .int 0, .int 0, .int 0])), (sp, .inr (0, [.ref f0, .ref f1, .ref f2, .ref f3, .ref f4, .ref g5, .ref g6, .ref g7, .ref g8, .ref g9, .ref g10, .int 0, .int 0])), (f0, .inr (6, [.ref j0, .int 0])), (f1, .inr (6, [.ref j1, .int 0])), (f2, .inr (6, [.ref j2, .int 0])), (f3, .inr (6, [.ref j3, .int 0])), (f4, .inr (6, [.ref j4, .int 0]))]) (tr := []) (g_runV (As := []) (rest := []) (wc := [(tp, .inr (9, [.ref t0, .ref t1, .ref t2, .ref t3, .ref t4, .int 0, .int 0, .int 0, .int 0, .int 0, .int 0, .long 0])), (t2, .inl (kt2, 4001, .inl (fun _ => 0))), (t3, .inl (kt3, 4001, .inl (fun _ => 0))), (t4, .inl (kt4, 4001, .inr (.inl (fun _ => 0))))]) (tc := [(kt2, .int), (kt3, .int), (kt4, .long)]) (ci := 9) (q0 := 1) hx hb hml hown hg gw_self hP hD hK hS hA hnw hgk [1, 2, 3, 4] [0, 1, 2] (by decide) rfl rfl (c_Tape_begin0 l D ks H.size tp t0 t1 t2 t3 t4 kt2 kt3 kt4) w766 w767 w768 w157 w769 rfl rfl hdV_yX9_begin ⟨Nat.le_of_ble_eq_true rfl, Nat.le_of_ble_eq_true rfl⟩ rfl hl.1 rfl (Nat.le_of_ble_eq_true rfl) dX1_read_26 ⟨Nat.le_of_ble_eq_true rfl, Nat.le_of_ble_eq_true rfl⟩) hP hD hK hS hA [1, 2, 3, 4] [0, 5, 6, 7, 8, 9, 10] [] rfl rfl (by decide) (by decide) rfl (fun u4 H locs hw3 hP hD hK hS => ?_)
  have hP : va_P D vwCl [(rd, .inr (1, [.ref tp, .ref sp, .null, .int 0, .int 0, .long 0, .int 0, .int 0, .int 0])), (sp, .inr (0, [.ref f0, .ref f1, .ref f2, .ref f3, .ref f4, .ref g5, .ref g6, .ref g7, .ref g8, .ref g9, .ref g10, .int 0, .int 0])), (f0, .inr (6, [.ref j0, .int 0])), (f1, .inr (6, [.ref j1, .int 0])), (f2, .inr (6, [.ref j2, .int 0])), (f3, .inr (6, [.ref j3, .int 0])), (f4, .inr (6, [.ref j4, .int 0])), (tp, .inr (9, [.ref t0, .ref t1, .ref t2, .ref t3, .ref t4, .int 0, .int 0, .int 0, .int 0, .int 0, .int 0, .long 0])), (t2, .inl (kt2, 4001, .inl (fun _ => 0))), (t3, .inl (kt3, 4001, .inl (fun _ => 0))), (t4, .inl (kt4, 4001, .inr (.inl (fun _ => 0))))] H := hP
  have hD : va_D A [(rd, .inr (1, [.ref tp, .ref sp, .null, .int 0, .int 0, .long 0, .int 0, .int 0, .int 0])), (sp, .inr (0, [.ref f0, .ref f1, .ref f2, .ref f3, .ref f4, .ref g5, .ref g6, .ref g7, .ref g8, .ref g9, .ref g10, .int 0, .int 0])), (f0, .inr (6, [.ref j0, .int 0])), (f1, .inr (6, [.ref j1, .int 0])), (f2, .inr (6, [.ref j2, .int 0])), (f3, .inr (6, [.ref j3, .int 0])), (f4, .inr (6, [.ref j4, .int 0])), (tp, .inr (9, [.ref t0, .ref t1, .ref t2, .ref t3, .ref t4, .int 0, .int 0, .int 0, .int 0, .int 0, .int 0, .long 0])), (t2, .inl (kt2, 4001, .inl (fun _ => 0))), (t3, .inl (kt3, 4001, .inl (fun _ => 0))), (t4, .inl (kt4, 4001, .inr (.inl (fun _ => 0))))] := hD
  have hK : va_K D vwCl [(kt2, .int), (kt3, .int), (kt4, .long)] s := hK
  refine lv_iconst (v := 0) hx hb dX1_read_29 (by decide) ?_
  refine lv_istore_n (lv' := [(2, .int 0), (0, .ref rd), (1, .ref sp)]) hx hb dX1_read_30 rfl hl (by decide) rfl (fun ls hl => ?_)
  refine lv_iload_n hx hb dX1_read_31 rfl (lv_at hl 0 rfl) ?_
  refine lv_sipush (v := 4000) hx hb dX1_read_32 (by decide) ?_
  refine lv_icmp_ge (tgt := 82) hx hb dX1_read_35 (by decide) (fun q => absurd q (by decide)) (fun _ => ?_)
  refine lv_aload_n hx hb dX1_read_38 rfl (lv_at hl 1 rfl) ?_
  refine va_get (D := D) (ci := 1) (v := .ref tp) (C := RX1) (T := TX1) (N := 9) hx hb hg inX1 hown hK hP 0 rfl rfl 0 (by decide) (hg _ w304) (fun _ h9 => h9) rfl dX1_read_39 ?_
  refine va_getN (D := D) (ci := 9) (v := .int 0) (C := RX9) (T := TX9) (N := 12) hx hb hg inX9 hown hK hP 7 rfl rfl 9 (by decide) (hnw.use 262 n262 rfl) (fun _ h9 => h9) rfl dX1_read_42 ?_
  refine lv_if_eq (tgt := 82) hx hb dX1_read_45 (by decide) (fun _ => ?_) (fun q => absurd (by decide) q)
  refine lv_aload_n hx hb dX1_read_82 rfl (lv_at hl 1 rfl) ?_
  refine va_get (D := D) (ci := 1) (v := .null) (C := RX1) (T := TX1) (N := 9) hx hb hg inX1 hown hK hP 0 rfl rfl 2 (by decide) (hg _ w306) (fun _ h9 => h9) rfl dX1_read_83 ?_
  refine lv_ifnullN (tgt := 95) hx hb dX1_read_86 (by decide) ?_
  refine lv_aload_n hx hb dX1_read_95 rfl (lv_at hl 1 rfl) ?_
  refine va_get (D := D) (ci := 1) (v := .int 0) (C := RX1) (T := TX1) (N := 9) hx hb hg inX1 hown hK hP 0 rfl rfl 3 (by decide) (hg _ w307) (fun _ h9 => h9) rfl dX1_read_96 ?_
  refine W.widen (k := 0) (n := 0) (Nat.le_of_ble_eq_true rfl) (Nat.le_of_ble_eq_true rfl) ?_
  have hP9 := hP.sub (ws' := [(rd, .inr (1, [.ref tp, .ref sp, .null, .int 0, .int 0, .long 0, .int 0, .int 0, .int 0])), (tp, .inr (9, [.ref t0, .ref t1, .ref t2, .ref t3, .ref t4, .int 0, .int 0, .int 0, .int 0, .int 0, .int 0, .long 0])), (t2, .inl (kt2, 4001, .inl (fun _ => 0))), (t3, .inl (kt3, 4001, .inl (fun _ => 0))), (t4, .inl (kt4, 4001, .inr (.inl (fun _ => 0)))), (sp, .inr (0, [.ref f0, .ref f1, .ref f2, .ref f3, .ref f4, .ref g5, .ref g6, .ref g7, .ref g8, .ref g9, .ref g10, .int 0, .int 0])), (f0, .inr (6, [.ref j0, .int 0])), (f1, .inr (6, [.ref j1, .int 0])), (f2, .inr (6, [.ref j2, .int 0])), (f3, .inr (6, [.ref j3, .int 0])), (f4, .inr (6, [.ref j4, .int 0]))]) [0, 7, 8, 9, 10, 1, 2, 3, 4, 5, 6] rfl
  have hD9 := hD.sub (ws' := [(rd, .inr (1, [.ref tp, .ref sp, .null, .int 0, .int 0, .long 0, .int 0, .int 0, .int 0])), (tp, .inr (9, [.ref t0, .ref t1, .ref t2, .ref t3, .ref t4, .int 0, .int 0, .int 0, .int 0, .int 0, .int 0, .long 0])), (t2, .inl (kt2, 4001, .inl (fun _ => 0))), (t3, .inl (kt3, 4001, .inl (fun _ => 0))), (t4, .inl (kt4, 4001, .inr (.inl (fun _ => 0)))), (sp, .inr (0, [.ref f0, .ref f1, .ref f2, .ref f3, .ref f4, .ref g5, .ref g6, .ref g7, .ref g8, .ref g9, .ref g10, .int 0, .int 0])), (f0, .inr (6, [.ref j0, .int 0])), (f1, .inr (6, [.ref j1, .int 0])), (f2, .inr (6, [.ref j2, .int 0])), (f3, .inr (6, [.ref j3, .int 0])), (f4, .inr (6, [.ref j4, .int 0]))]) [0, 7, 8, 9, 10, 1, 2, 3, 4, 5, 6] (by decide) rfl
  have hK9 := hK.sub (tys' := [(kt2, .int), (kt3, .int), (kt4, .long)]) [0, 1, 2] rfl
  exact W.iret (v := 0) hx hb hr (fun t ht hW => ⟨⟨0, (), rfl, (by first | rfl | trivial | assumption | decide), by rw [ht]; exact hP9, va_K.moved hW.alike hK9, hD9⟩, hS.F ht⟩) hS.2.2 dX1_read_99
abbrev r_c_shut : Room := { frames := 0, cells := 0, slots := 0, locals := 0 }
abbrev q_c_shut (D : va_G) (sk : Nat) (s0 : Nat) (s1 : Nat) (s2 : Nat) (s3 : Nat) (s4 : Nat) (s5 : Nat) (s6 : Nat) (s7 : Nat) (s8 : Nat) (s9 : Nat) (s10 : Nat) (s11 : Nat) (ks2 : ClassId) (fo : Nat → Int32) (ks3 : ClassId) (fsp : Nat → Int32) (i : Nat) (A : Nat → Prop) : Array Value → State → Outcome → State → Prop := va_Qv (fun (u : (Nat → Int32) × (Nat → Int32)) => True) (fun u t => gq D A ((fun (u : (Nat → Int32) × (Nat → Int32)) => [(sk, .inr (8, [.ref s0, .ref s1, .ref s2, .ref s3, .ref s4, .ref s5, .ref s6, .ref s7, .ref s8, .ref s9, .ref s10, .ref s11, .int 1, .int 0, .int 0, .int 0])), (s2, .inl (ks2, 40, .inl (u.1))), (s3, .inl (ks3, 40, .inl (u.2)))]) u) ((fun (u : (Nat → Int32) × (Nat → Int32)) => ([(ks2, .boolean), (ks3, .int)] : List (ClassId × FieldType))) u) t) A
set_option maxHeartbeats 4000000 in
set_option maxRecDepth 100000 in
theorem c_shut (l : Launch) (D : va_G) (ks : Nat × Nat × Option Nat) (sz : Nat) (sk : Nat) (s0 : Nat) (s1 : Nat) (s2 : Nat) (s3 : Nat) (s4 : Nat) (s5 : Nat) (s6 : Nat) (s7 : Nat) (s8 : Nat) (s9 : Nat) (s10 : Nat) (s11 : Nat) (ks2 : ClassId) (fo : Nat → Int32) (ks3 : ClassId) (fsp : Nat → Int32) (i : Nat) (hi : i < 40) : Met l yX8_shut (Cond.code yX8_shut cX8_shut 2 none :: GW) r_c_shut (va_Pc [.ref sk, .int (nI i)] (gp D ks [(sk, .inr (8, [.ref s0, .ref s1, .ref s2, .ref s3, .ref s4, .ref s5, .ref s6, .ref s7, .ref s8, .ref s9, .ref s10, .ref s11, .int 1, .int 0, .int 0, .int 0])), (s2, .inl (ks2, 40, .inl (fo))), (s3, .inl (ks3, 40, .inl (fsp)))] [(ks2, .boolean), (ks3, .int)] sz)) (q_c_shut D sk s0 s1 s2 s3 s4 s5 s6 s7 s8 s9 s10 s11 ks2 fo ks3 fsp i (va_A [(sk, .inr (8, [.ref s0, .ref s1, .ref s2, .ref s3, .ref s4, .ref s5, .ref s6, .ref s7, .ref s8, .ref s9, .ref s10, .ref s11, .int 1, .int 0, .int 0, .int 0])), (s2, .inl (ks2, 40, .inl (fo))), (s3, .inl (ks3, 40, .inl (fsp)))] sz)) 0 0 (va_A [(sk, .inr (8, [.ref s0, .ref s1, .ref s2, .ref s3, .ref s4, .ref s5, .ref s6, .ref s7, .ref s8, .ref s9, .ref s10, .ref s11, .int 1, .int 0, .int 0, .int 0])), (s2, .inl (ks2, 40, .inl (fo))), (s3, .inl (ks3, 40, .inl (fsp)))] sz) := by
  refine g_met (q_c_shut D sk s0 s1 s2 s3 s4 s5 s6 s7 s8 s9 s10 s11 ks2 fo ks3 fsp i) (by decide) (Nat.le_of_ble_eq_true rfl) ?_
  intro p e s m below meth c A ls H locs hx hb hr hml hown hg hlocks hin hnw hgk hP hK hD hS hA hl
  have hown : s.vm.findClass RX8 = some m.cls := hown
  have hl : lv_has ls 2 [(0, .ref sk), (1, .int (nI i))] := hl
  refine lv_aload_n hx hb dX8_shut_0 rfl (lv_at hl 0 rfl) ?_
  refine va_get (D := D) (ci := 8) (v := .ref s2) (C := RX8) (T := TX8) (N := 16) hx hb hg inX8 hown hK hP 0 rfl rfl 2 (by decide) (hg _ w376) (fun _ h9 => h9) rfl dX8_shut_1 ?_
  refine lv_iload_n hx hb dX8_shut_4 rfl (lv_at hl 1 rfl) ?_
  refine lv_iconst (v := 0) hx hb dX8_shut_5 (by decide) ?_
  refine va_zast (D := D) (i := (nI i)) (x := 0) hx hb hK hP hD hS 1 0 rfl rfl (vp_in_nI (by omega) (by omega)) dX8_shut_6 (fun H locs hP hD hS => ?_)
  obtain ⟨f1, hP, hD⟩ : ∃ f1 : Nat → Int32, va_P D vwCl [(sk, .inr (8, [.ref s0, .ref s1, .ref s2, .ref s3, .ref s4, .ref s5, .ref s6, .ref s7, .ref s8, .ref s9, .ref s10, .ref s11, .int 1, .int 0, .int 0, .int 0])), (s2, .inl (ks2, 40, .inl (f1))), (s3, .inl (ks3, 40, .inl (fsp)))] H ∧ va_D A [(sk, .inr (8, [.ref s0, .ref s1, .ref s2, .ref s3, .ref s4, .ref s5, .ref s6, .ref s7, .ref s8, .ref s9, .ref s10, .ref s11, .int 1, .int 0, .int 0, .int 0])), (s2, .inl (ks2, 40, .inl (f1))), (s3, .inl (ks3, 40, .inl (fsp)))] := ⟨_, hP, hD⟩
  refine lv_aload_n hx hb dX8_shut_7 rfl (lv_at hl 0 rfl) ?_
  refine va_get (D := D) (ci := 8) (v := .ref s3) (C := RX8) (T := TX8) (N := 16) hx hb hg inX8 hown hK hP 0 rfl rfl 3 (by decide) (hg _ w377) (fun _ h9 => h9) rfl dX8_shut_8 ?_
  refine lv_iload_n hx hb dX8_shut_11 rfl (lv_at hl 1 rfl) ?_
  refine lv_iconst (v := 0) hx hb dX8_shut_12 (by decide) ?_
  refine va_iast (D := D) (i := (nI i)) (x := 0) hx hb hK hP hD hS 2 1 rfl rfl (vp_in_nI (by omega) (by omega)) dX8_shut_13 (fun H locs hP hD hS => ?_)
  obtain ⟨f2, hP, hD⟩ : ∃ f2 : Nat → Int32, va_P D vwCl [(sk, .inr (8, [.ref s0, .ref s1, .ref s2, .ref s3, .ref s4, .ref s5, .ref s6, .ref s7, .ref s8, .ref s9, .ref s10, .ref s11, .int 1, .int 0, .int 0, .int 0])), (s2, .inl (ks2, 40, .inl (f1))), (s3, .inl (ks3, 40, .inl (f2)))] H ∧ va_D A [(sk, .inr (8, [.ref s0, .ref s1, .ref s2, .ref s3, .ref s4, .ref s5, .ref s6, .ref s7, .ref s8, .ref s9, .ref s10, .ref s11, .int 1, .int 0, .int 0, .int 0])), (s2, .inl (ks2, 40, .inl (f1))), (s3, .inl (ks3, 40, .inl (f2)))] := ⟨_, hP, hD⟩
  refine W.widen (k := 0) (n := 0) (Nat.le_of_ble_eq_true rfl) (Nat.le_of_ble_eq_true rfl) ?_
  have hP9 := hP.sub (ws' := [(sk, .inr (8, [.ref s0, .ref s1, .ref s2, .ref s3, .ref s4, .ref s5, .ref s6, .ref s7, .ref s8, .ref s9, .ref s10, .ref s11, .int 1, .int 0, .int 0, .int 0])), (s2, .inl (ks2, 40, .inl (f1))), (s3, .inl (ks3, 40, .inl (f2)))]) [0, 1, 2] rfl
  have hD9 := hD.sub (ws' := [(sk, .inr (8, [.ref s0, .ref s1, .ref s2, .ref s3, .ref s4, .ref s5, .ref s6, .ref s7, .ref s8, .ref s9, .ref s10, .ref s11, .int 1, .int 0, .int 0, .int 0])), (s2, .inl (ks2, 40, .inl (f1))), (s3, .inl (ks3, 40, .inl (f2)))]) [0, 1, 2] (by decide) rfl
  have hK9 := hK.sub (tys' := [(ks2, .boolean), (ks3, .int)]) [0, 1] rfl
  exact W.vret hx hb hr (fun t ht hW => ⟨⟨(f1, f2), rfl, (by first | rfl | trivial | assumption | decide), by rw [ht]; exact hP9, va_K.moved hW.alike hK9, hD9⟩, hS.F ht⟩) hS.2.2 dX8_shut_14
abbrev r_c_Stock_clear0 : Room := { frames := 1, cells := 0, slots := 0, locals := 23 }
abbrev q_c_Stock_clear0 (D : va_G) (sk : Nat) (s0 : Nat) (s1 : Nat) (s2 : Nat) (s3 : Nat) (s4 : Nat) (s5 : Nat) (s6 : Nat) (s7 : Nat) (s8 : Nat) (s9 : Nat) (s10 : Nat) (s11 : Nat) (ks2 : ClassId) (ks3 : ClassId) (ks4 : ClassId) (gs4 : Nat → Int32) (A : Nat → Prop) : Array Value → State → Outcome → State → Prop := va_Qv (fun (_ : Unit) => True) (fun u t => gq D A ((fun (_ : Unit) => [(sk, .inr (8, [.ref s0, .ref s1, .ref s2, .ref s3, .ref s4, .ref s5, .ref s6, .ref s7, .ref s8, .ref s9, .ref s10, .ref s11, .int 1, .int 0, .int 0, .int 0]))]) u) ((fun (_ : Unit) => ([] : List (ClassId × FieldType))) u) t) A
set_option maxHeartbeats 4000000 in
set_option maxRecDepth 100000 in
theorem c_Stock_clear0 (l : Launch) (D : va_G) (ks : Nat × Nat × Option Nat) (sz : Nat) (sk : Nat) (s0 : Nat) (s1 : Nat) (s2 : Nat) (s3 : Nat) (s4 : Nat) (s5 : Nat) (s6 : Nat) (s7 : Nat) (s8 : Nat) (s9 : Nat) (s10 : Nat) (s11 : Nat) (ks2 : ClassId) (ks3 : ClassId) (ks4 : ClassId) (gs4 : Nat → Int32) : Met l yX8_clear (Cond.code yX8_clear cX8_clear 2 none :: GW) r_c_Stock_clear0 (va_Pc [.ref sk] (gp D ks [(sk, .inr (8, [.ref s0, .ref s1, .ref s2, .ref s3, .ref s4, .ref s5, .ref s6, .ref s7, .ref s8, .ref s9, .ref s10, .ref s11, .int 1, .int 0, .int 0, .int 0])), (s2, .inl (ks2, 40, .inl (upd (fun _ => 0) 0 1))), (s3, .inl (ks3, 40, .inl (fun _ => 0))), (s4, .inl (ks4, 960, .inl (gs4)))] [(ks2, .boolean), (ks3, .int), (ks4, .int)] sz)) (q_c_Stock_clear0 D sk s0 s1 s2 s3 s4 s5 s6 s7 s8 s9 s10 s11 ks2 ks3 ks4 gs4 (va_A [(sk, .inr (8, [.ref s0, .ref s1, .ref s2, .ref s3, .ref s4, .ref s5, .ref s6, .ref s7, .ref s8, .ref s9, .ref s10, .ref s11, .int 1, .int 0, .int 0, .int 0])), (s2, .inl (ks2, 40, .inl (upd (fun _ => 0) 0 1))), (s3, .inl (ks3, 40, .inl (fun _ => 0))), (s4, .inl (ks4, 960, .inl (gs4)))] sz)) 0 0 (va_A [(sk, .inr (8, [.ref s0, .ref s1, .ref s2, .ref s3, .ref s4, .ref s5, .ref s6, .ref s7, .ref s8, .ref s9, .ref s10, .ref s11, .int 1, .int 0, .int 0, .int 0])), (s2, .inl (ks2, 40, .inl (upd (fun _ => 0) 0 1))), (s3, .inl (ks3, 40, .inl (fun _ => 0))), (s4, .inl (ks4, 960, .inl (gs4)))] sz) := by
  refine g_met (q_c_Stock_clear0 D sk s0 s1 s2 s3 s4 s5 s6 s7 s8 s9 s10 s11 ks2 ks3 ks4 gs4) (by decide) (Nat.le_of_ble_eq_true rfl) ?_
  intro p e s m below meth c A ls H locs hx hb hr hml hown hg hlocks hin hnw hgk hP hK hD hS hA hl
  have hown : s.vm.findClass RX8 = some m.cls := hown
  have hl : lv_has ls 2 [(0, .ref sk)] := hl
  refine lv_aload_n hx hb dX8_clear_0 rfl (lv_at hl 0 rfl) ?_
  refine va_get (D := D) (ci := 8) (v := .ref s4) (C := RX8) (T := TX8) (N := 16) hx hb hg inX8 hown hK hP 0 rfl rfl 4 (by decide) (hg _ w378) (fun _ h9 => h9) rfl dX8_clear_1 ?_
  refine lv_iconst (v := (-1)) hx hb dX8_clear_4 (by decide) ?_
  refine g_void (wr := [(sk, .inr (8, [.ref s0, .ref s1, .ref s2, .ref s3, .ref s4, .ref s5, .ref s6, .ref s7, .ref s8, .ref s9, .ref s10, .ref s11, .int 1, .int 0, .int 0, .int 0])), (s2, .inl (ks2, 40, .inl (upd (fun _ => 0) 0 1))), (s3, .inl (ks3, 40, .inl (fun _ => 0)))]) (tr := [(ks2, .boolean), (ks3, .int)]) (g_runS (As := [.ref s4, .int (-1)]) (rest := []) (wc := [(s4, .inl (ks4, 960, .inl (gs4)))]) (tc := [(ks4, .int)]) hx hb hml hown hg gw_self hP hD hK hS hA hnw hgk [3] [2] (by decide) rfl rfl (c_fill l D ks H.size s4 ks4 960 gs4 (-1) (by decide)) w370 w371 w165 w372 hdS_yJ7_fill_53178 ⟨Nat.le_of_ble_eq_true rfl, Nat.le_of_ble_eq_true rfl⟩ rfl hl.1 rfl (Nat.le_of_ble_eq_true rfl) dX8_clear_5 ⟨Nat.le_of_ble_eq_true rfl, Nat.le_of_ble_eq_true rfl⟩) hP hD hK hS hA [3] [0, 1, 2] [0, 1] rfl rfl (by decide) (by decide) rfl (fun u3 H locs hw2 hP hD hK hS => ?_)
  obtain ⟨g_1, rfl⟩ : ∃ z, z = u3 := ⟨_, rfl⟩
  have hP : va_P D vwCl [(sk, .inr (8, [.ref s0, .ref s1, .ref s2, .ref s3, .ref s4, .ref s5, .ref s6, .ref s7, .ref s8, .ref s9, .ref s10, .ref s11, .int 1, .int 0, .int 0, .int 0])), (s2, .inl (ks2, 40, .inl (upd (fun _ => 0) 0 1))), (s3, .inl (ks3, 40, .inl (fun _ => 0))), (s4, .inl (ks4, 960, .inl (g_1)))] H := hP
  have hD : va_D A [(sk, .inr (8, [.ref s0, .ref s1, .ref s2, .ref s3, .ref s4, .ref s5, .ref s6, .ref s7, .ref s8, .ref s9, .ref s10, .ref s11, .int 1, .int 0, .int 0, .int 0])), (s2, .inl (ks2, 40, .inl (upd (fun _ => 0) 0 1))), (s3, .inl (ks3, 40, .inl (fun _ => 0))), (s4, .inl (ks4, 960, .inl (g_1)))] := hD
  have hK : va_K D vwCl [(ks2, .boolean), (ks3, .int), (ks4, .int)] s := hK
  refine lv_iconst (v := 0) hx hb dX8_clear_8 (by decide) ?_
  refine lv_istore_n (lv' := [(1, .int 0), (0, .ref sk)]) hx hb dX8_clear_9 rfl hl (by decide) rfl (fun ls hl => ?_)
  refine W.widen (k := 0) (n := 0) (Nat.le_of_ble_eq_true rfl) (Nat.le_of_ble_eq_true rfl) ?_
  have lp4 : ∀ (n : Nat) (i : Nat) (fo : Nat → Int32) (fsp : Nat → Int32) (H : Heap) (locs : List Loc) (ls : Array Slot), i ≤ 40 → 40 < i + n → va_P D vwCl [(sk, .inr (8, [.ref s0, .ref s1, .ref s2, .ref s3, .ref s4, .ref s5, .ref s6, .ref s7, .ref s8, .ref s9, .ref s10, .ref s11, .int 1, .int 0, .int 0, .int 0])), (s2, .inl (ks2, 40, .inl (fo))), (s3, .inl (ks3, 40, .inl (fsp))), (s4, .inl (ks4, 960, .inl (g_1)))] H → va_D A [(sk, .inr (8, [.ref s0, .ref s1, .ref s2, .ref s3, .ref s4, .ref s5, .ref s6, .ref s7, .ref s8, .ref s9, .ref s10, .ref s11, .int 1, .int 0, .int 0, .int 0])), (s2, .inl (ks2, 40, .inl (fo))), (s3, .inl (ks3, 40, .inl (fsp))), (s4, .inl (ks4, 960, .inl (g_1)))] → va_S A s.heap H locs → lv_has ls 2 [(1, .int (nI i)), (0, .ref sk)] → W p l e r_c_Stock_clear0 s m ([.ref sk] : List Value).toArray below meth c H locs (0) (0) (MQ below (q_c_Stock_clear0 D sk s0 s1 s2 s3 s4 s5 s6 s7 s8 s9 s10 s11 ks2 ks3 ks4 gs4 A) ([.ref sk] : List Value).toArray s 0 0 A) (F0 m 10 ls []) := by
    intro n
    induction n with
    | zero =>
      intro i fo fsp H locs ls hi hn hP hD hS hl
      exact absurd hn (by omega)
    | succ n ih =>
      intro i fo fsp H locs ls hi hn hP hD hS hl
      refine lv_iload_n hx hb dX8_clear_10 rfl (lv_at hl 0 rfl) ?_
      refine lv_bipush (v := 40) hx hb dX8_clear_11 (by decide) ?_
      refine lv_icmp_ge (tgt := 27) hx hb dX8_clear_13 (by decide) (fun c5 => ?_) (fun c5 => ?_)
      · skip
        have gc5 : 40 ≤ i := g_ge_ge (L := 40) (by omega) (by omega) c5
        refine lv_aload_n hx hb dX8_clear_27 rfl (lv_at hl 1 rfl) ?_
        refine va_get (D := D) (ci := 8) (v := .ref s2) (C := RX8) (T := TX8) (N := 16) hx hb hg inX8 hown hK hP 0 rfl rfl 2 (by decide) (hg _ w376) (fun _ h9 => h9) rfl dX8_clear_28 ?_
        refine lv_iconst (v := 0) hx hb dX8_clear_31 (by decide) ?_
        refine lv_iconst (v := 1) hx hb dX8_clear_32 (by decide) ?_
        refine va_zast (D := D) (i := 0) (x := 1) hx hb hK hP hD hS 1 0 rfl rfl (vp_in_nI (n := 0) (N := 40) (by decide) (by decide)) dX8_clear_33 (fun H locs hP hD hS => ?_)
        obtain ⟨f6, hP, hD, hf6⟩ : ∃ f6 : Nat → Int32, va_P D vwCl [(sk, .inr (8, [.ref s0, .ref s1, .ref s2, .ref s3, .ref s4, .ref s5, .ref s6, .ref s7, .ref s8, .ref s9, .ref s10, .ref s11, .int 1, .int 0, .int 0, .int 0])), (s2, .inl (ks2, 40, .inl (f6))), (s3, .inl (ks3, 40, .inl (fsp))), (s4, .inl (ks4, 960, .inl (g_1)))] H ∧ va_D A [(sk, .inr (8, [.ref s0, .ref s1, .ref s2, .ref s3, .ref s4, .ref s5, .ref s6, .ref s7, .ref s8, .ref s9, .ref s10, .ref s11, .int 1, .int 0, .int 0, .int 0])), (s2, .inl (ks2, 40, .inl (f6))), (s3, .inl (ks3, 40, .inl (fsp))), (s4, .inl (ks4, 960, .inl (g_1)))] ∧ f6 0 = 1 := ⟨_, hP, hD, rfl⟩
        refine lv_aload_n hx hb dX8_clear_34 rfl (lv_at hl 1 rfl) ?_
        refine lv_iconst (v := 1) hx hb dX8_clear_35 (by decide) ?_
        refine va_put (D := D) (ci := 8) (v := .int 1) (ty := tyX8 12) (C := RX8) (T := TX8) (N := 16) hx hb hg inX8 tyX8 tyX8_ok nmX8 hown hK hP hD hS 0 rfl rfl 12 (by decide) (hg _ w390) (fun _ h9 => h9) rfl (tyX8_ok 12 (by decide)) rfl rfl (Nat.le_of_ble_eq_true rfl) dX8_clear_36 (fun H locs hP hD hS => ?_)
        have hP : va_P D vwCl [(sk, .inr (8, [.ref s0, .ref s1, .ref s2, .ref s3, .ref s4, .ref s5, .ref s6, .ref s7, .ref s8, .ref s9, .ref s10, .ref s11, .int 1, .int 0, .int 0, .int 0])), (s2, .inl (ks2, 40, .inl (f6))), (s3, .inl (ks3, 40, .inl (fsp))), (s4, .inl (ks4, 960, .inl (g_1)))] H := hP
        have hD : va_D A [(sk, .inr (8, [.ref s0, .ref s1, .ref s2, .ref s3, .ref s4, .ref s5, .ref s6, .ref s7, .ref s8, .ref s9, .ref s10, .ref s11, .int 1, .int 0, .int 0, .int 0])), (s2, .inl (ks2, 40, .inl (f6))), (s3, .inl (ks3, 40, .inl (fsp))), (s4, .inl (ks4, 960, .inl (g_1)))] := hD
        refine lv_aload_n hx hb dX8_clear_39 rfl (lv_at hl 1 rfl) ?_
        refine lv_iconst (v := 0) hx hb dX8_clear_40 (by decide) ?_
        refine va_put (D := D) (ci := 8) (v := .int 0) (ty := tyX8 13) (C := RX8) (T := TX8) (N := 16) hx hb hg inX8 tyX8 tyX8_ok nmX8 hown hK hP hD hS 0 rfl rfl 13 (by decide) (hg _ w391) (fun _ h9 => h9) rfl (tyX8_ok 13 (by decide)) rfl rfl (Nat.le_of_ble_eq_true rfl) dX8_clear_41 (fun H locs hP hD hS => ?_)
        have hP : va_P D vwCl [(sk, .inr (8, [.ref s0, .ref s1, .ref s2, .ref s3, .ref s4, .ref s5, .ref s6, .ref s7, .ref s8, .ref s9, .ref s10, .ref s11, .int 1, .int 0, .int 0, .int 0])), (s2, .inl (ks2, 40, .inl (f6))), (s3, .inl (ks3, 40, .inl (fsp))), (s4, .inl (ks4, 960, .inl (g_1)))] H := hP
        have hD : va_D A [(sk, .inr (8, [.ref s0, .ref s1, .ref s2, .ref s3, .ref s4, .ref s5, .ref s6, .ref s7, .ref s8, .ref s9, .ref s10, .ref s11, .int 1, .int 0, .int 0, .int 0])), (s2, .inl (ks2, 40, .inl (f6))), (s3, .inl (ks3, 40, .inl (fsp))), (s4, .inl (ks4, 960, .inl (g_1)))] := hD
        refine lv_aload_n hx hb dX8_clear_44 rfl (lv_at hl 1 rfl) ?_
        refine lv_iconst (v := 0) hx hb dX8_clear_45 (by decide) ?_
        refine va_put (D := D) (ci := 8) (v := .int 0) (ty := tyX8 14) (C := RX8) (T := TX8) (N := 16) hx hb hg inX8 tyX8 tyX8_ok nmX8 hown hK hP hD hS 0 rfl rfl 14 (by decide) (hg _ w393) (fun _ h9 => h9) rfl (tyX8_ok 14 (by decide)) rfl rfl (Nat.le_of_ble_eq_true rfl) dX8_clear_46 (fun H locs hP hD hS => ?_)
        have hP : va_P D vwCl [(sk, .inr (8, [.ref s0, .ref s1, .ref s2, .ref s3, .ref s4, .ref s5, .ref s6, .ref s7, .ref s8, .ref s9, .ref s10, .ref s11, .int 1, .int 0, .int 0, .int 0])), (s2, .inl (ks2, 40, .inl (f6))), (s3, .inl (ks3, 40, .inl (fsp))), (s4, .inl (ks4, 960, .inl (g_1)))] H := hP
        have hD : va_D A [(sk, .inr (8, [.ref s0, .ref s1, .ref s2, .ref s3, .ref s4, .ref s5, .ref s6, .ref s7, .ref s8, .ref s9, .ref s10, .ref s11, .int 1, .int 0, .int 0, .int 0])), (s2, .inl (ks2, 40, .inl (f6))), (s3, .inl (ks3, 40, .inl (fsp))), (s4, .inl (ks4, 960, .inl (g_1)))] := hD
        refine lv_aload_n hx hb dX8_clear_49 rfl (lv_at hl 1 rfl) ?_
        refine lv_iconst (v := 0) hx hb dX8_clear_50 (by decide) ?_
        refine va_put (D := D) (ci := 8) (v := .int 0) (ty := tyX8 15) (C := RX8) (T := TX8) (N := 16) hx hb hg inX8 tyX8 tyX8_ok nmX8 hown hK hP hD hS 0 rfl rfl 15 (by decide) (hg _ w394) (fun _ h9 => h9) rfl (tyX8_ok 15 (by decide)) rfl rfl (Nat.le_of_ble_eq_true rfl) dX8_clear_51 (fun H locs hP hD hS => ?_)
        have hP : va_P D vwCl [(sk, .inr (8, [.ref s0, .ref s1, .ref s2, .ref s3, .ref s4, .ref s5, .ref s6, .ref s7, .ref s8, .ref s9, .ref s10, .ref s11, .int 1, .int 0, .int 0, .int 0])), (s2, .inl (ks2, 40, .inl (f6))), (s3, .inl (ks3, 40, .inl (fsp))), (s4, .inl (ks4, 960, .inl (g_1)))] H := hP
        have hD : va_D A [(sk, .inr (8, [.ref s0, .ref s1, .ref s2, .ref s3, .ref s4, .ref s5, .ref s6, .ref s7, .ref s8, .ref s9, .ref s10, .ref s11, .int 1, .int 0, .int 0, .int 0])), (s2, .inl (ks2, 40, .inl (f6))), (s3, .inl (ks3, 40, .inl (fsp))), (s4, .inl (ks4, 960, .inl (g_1)))] := hD
        refine W.widen (k := 0) (n := 0) (Nat.le_of_ble_eq_true rfl) (Nat.le_of_ble_eq_true rfl) ?_
        have hP9 := hP.sub (ws' := [(sk, .inr (8, [.ref s0, .ref s1, .ref s2, .ref s3, .ref s4, .ref s5, .ref s6, .ref s7, .ref s8, .ref s9, .ref s10, .ref s11, .int 1, .int 0, .int 0, .int 0]))]) [0] rfl
        have hD9 := hD.sub (ws' := [(sk, .inr (8, [.ref s0, .ref s1, .ref s2, .ref s3, .ref s4, .ref s5, .ref s6, .ref s7, .ref s8, .ref s9, .ref s10, .ref s11, .int 1, .int 0, .int 0, .int 0]))]) [0] (by decide) rfl
        have hK9 := hK.sub (tys' := []) [] rfl
        exact W.vret hx hb hr (fun t ht hW => ⟨⟨(), rfl, (by first | rfl | trivial | assumption | decide), by rw [ht]; exact hP9, va_K.moved hW.alike hK9, hD9⟩, hS.F ht⟩) hS.2.2 dX8_clear_54
      · skip
        have gc5 : i < 40 := g_lt_ge (L := 40) (by omega) (by omega) c5
        refine lv_aload_n hx hb dX8_clear_16 rfl (lv_at hl 1 rfl) ?_
        refine lv_iload_n hx hb dX8_clear_17 rfl (lv_at hl 0 rfl) ?_
        refine g_void (wr := [(s4, .inl (ks4, 960, .inl (g_1)))]) (tr := [(ks4, .int)]) (g_runV (As := [.int (nI i)]) (rest := []) (wc := [(sk, .inr (8, [.ref s0, .ref s1, .ref s2, .ref s3, .ref s4, .ref s5, .ref s6, .ref s7, .ref s8, .ref s9, .ref s10, .ref s11, .int 1, .int 0, .int 0, .int 0])), (s2, .inl (ks2, 40, .inl (fo))), (s3, .inl (ks3, 40, .inl (fsp)))]) (tc := [(ks2, .boolean), (ks3, .int)]) (ci := 8) (q0 := 0) hx hb hml hown hg gw_self hP hD hK hS hA hnw hgk [0, 1, 2] [0, 1] (by decide) rfl rfl (c_shut l D ks H.size sk s0 s1 s2 s3 s4 s5 s6 s7 s8 s9 s10 s11 ks2 fo ks3 fsp i (by omega)) w1027 w1028 w1029 w164 w1030 rfl rfl hdV_yX8_shut ⟨Nat.le_of_ble_eq_true rfl, Nat.le_of_ble_eq_true rfl⟩ rfl hl.1 rfl (Nat.le_of_ble_eq_true rfl) dX8_clear_18 ⟨Nat.le_of_ble_eq_true rfl, Nat.le_of_ble_eq_true rfl⟩) hP hD hK hS hA [0, 1, 2] [3] [2] rfl rfl (by decide) (by decide) rfl (fun u10 H locs hw9 hP hD hK hS => ?_)
        obtain ⟨go_7, gp__8⟩ := u10
        have hP : va_P D vwCl [(s4, .inl (ks4, 960, .inl (g_1))), (sk, .inr (8, [.ref s0, .ref s1, .ref s2, .ref s3, .ref s4, .ref s5, .ref s6, .ref s7, .ref s8, .ref s9, .ref s10, .ref s11, .int 1, .int 0, .int 0, .int 0])), (s2, .inl (ks2, 40, .inl (go_7))), (s3, .inl (ks3, 40, .inl (gp__8)))] H := hP
        have hD : va_D A [(s4, .inl (ks4, 960, .inl (g_1))), (sk, .inr (8, [.ref s0, .ref s1, .ref s2, .ref s3, .ref s4, .ref s5, .ref s6, .ref s7, .ref s8, .ref s9, .ref s10, .ref s11, .int 1, .int 0, .int 0, .int 0])), (s2, .inl (ks2, 40, .inl (go_7))), (s3, .inl (ks3, 40, .inl (gp__8)))] := hD
        have hK : va_K D vwCl [(ks4, .int), (ks2, .boolean), (ks3, .int)] s := hK
        refine lv_iinc (v := (nI (i + 1))) (lv' := [(1, .int (nI (i + 1))), (0, .ref sk)]) hx hb dX8_clear_21 hl (k := 0) rfl (nI_1 _) (by decide) rfl (fun ls hl => ?_)
        refine lv_goto (tgt := 10) hx hb dX8_clear_24 (by decide) ?_
        exact ih (i + 1) go_7 gp__8 H locs ls (by omega) (by omega) (hP.sub [1, 2, 3, 0] rfl) (hD.sub [1, 2, 3, 0] (by decide) rfl) hS (lv_sub hl [0, 1] rfl)
  exact lp4 41 0 _ _ H locs ls (by omega) (by omega) hP hD hS hl
abbrev r_c_Notes_clear0 : Room := { frames := 0, cells := 0, slots := 0, locals := 0 }
abbrev q_c_Notes_clear0 (D : va_G) (nt : Nat) (n0 : Nat) (n1 : Nat) (n2 : Nat) (n3 : Nat) (n4 : Nat) (A : Nat → Prop) : Array Value → State → Outcome → State → Prop := va_Qv (fun (_ : Unit) => True) (fun u t => gq D A ((fun (_ : Unit) => [(nt, .inr (7, [.ref n0, .ref n1, .ref n2, .ref n3, .ref n4, .int 0, .int 0, .int 0, .int 0, .int 0]))]) u) ((fun (_ : Unit) => ([] : List (ClassId × FieldType))) u) t) A
set_option maxHeartbeats 4000000 in
set_option maxRecDepth 100000 in
theorem c_Notes_clear0 (l : Launch) (D : va_G) (ks : Nat × Nat × Option Nat) (sz : Nat) (nt : Nat) (n0 : Nat) (n1 : Nat) (n2 : Nat) (n3 : Nat) (n4 : Nat) : Met l yX7_clear (Cond.code yX7_clear cX7_clear 1 none :: GW) r_c_Notes_clear0 (va_Pc [.ref nt] (gp D ks [(nt, .inr (7, [.ref n0, .ref n1, .ref n2, .ref n3, .ref n4, .int 0, .int 0, .int 0, .int 0, .int 0]))] [] sz)) (q_c_Notes_clear0 D nt n0 n1 n2 n3 n4 (va_A [(nt, .inr (7, [.ref n0, .ref n1, .ref n2, .ref n3, .ref n4, .int 0, .int 0, .int 0, .int 0, .int 0]))] sz)) 0 0 (va_A [(nt, .inr (7, [.ref n0, .ref n1, .ref n2, .ref n3, .ref n4, .int 0, .int 0, .int 0, .int 0, .int 0]))] sz) := by
  refine g_met (q_c_Notes_clear0 D nt n0 n1 n2 n3 n4) (by decide) (Nat.le_of_ble_eq_true rfl) ?_
  intro p e s m below meth c A ls H locs hx hb hr hml hown hg hlocks hin hnw hgk hP hK hD hS hA hl
  have hown : s.vm.findClass RX7 = some m.cls := hown
  have hl : lv_has ls 1 [(0, .ref nt)] := hl
  refine lv_aload_n hx hb dX7_clear_0 rfl (lv_at hl 0 rfl) ?_
  refine lv_iconst (v := 0) hx hb dX7_clear_1 (by decide) ?_
  refine va_put (D := D) (ci := 7) (v := .int 0) (ty := tyX7 5) (C := RX7) (T := TX7) (N := 10) hx hb hg inX7 tyX7 tyX7_ok nmX7 hown hK hP hD hS 0 rfl rfl 5 (by decide) (hg _ w440) (fun _ h9 => h9) rfl (tyX7_ok 5 (by decide)) rfl rfl (Nat.le_of_ble_eq_true rfl) dX7_clear_2 (fun H locs hP hD hS => ?_)
  have hP : va_P D vwCl [(nt, .inr (7, [.ref n0, .ref n1, .ref n2, .ref n3, .ref n4, .int 0, .int 0, .int 0, .int 0, .int 0]))] H := hP
  have hD : va_D A [(nt, .inr (7, [.ref n0, .ref n1, .ref n2, .ref n3, .ref n4, .int 0, .int 0, .int 0, .int 0, .int 0]))] := hD
  refine lv_aload_n hx hb dX7_clear_5 rfl (lv_at hl 0 rfl) ?_
  refine lv_iconst (v := 0) hx hb dX7_clear_6 (by decide) ?_
  refine va_put (D := D) (ci := 7) (v := .int 0) (ty := tyX7 6) (C := RX7) (T := TX7) (N := 10) hx hb hg inX7 tyX7 tyX7_ok nmX7 hown hK hP hD hS 0 rfl rfl 6 (by decide) (hg _ w441) (fun _ h9 => h9) rfl (tyX7_ok 6 (by decide)) rfl rfl (Nat.le_of_ble_eq_true rfl) dX7_clear_7 (fun H locs hP hD hS => ?_)
  have hP : va_P D vwCl [(nt, .inr (7, [.ref n0, .ref n1, .ref n2, .ref n3, .ref n4, .int 0, .int 0, .int 0, .int 0, .int 0]))] H := hP
  have hD : va_D A [(nt, .inr (7, [.ref n0, .ref n1, .ref n2, .ref n3, .ref n4, .int 0, .int 0, .int 0, .int 0, .int 0]))] := hD
  refine lv_aload_n hx hb dX7_clear_10 rfl (lv_at hl 0 rfl) ?_
  refine lv_iconst (v := 0) hx hb dX7_clear_11 (by decide) ?_
  refine va_put (D := D) (ci := 7) (v := .int 0) (ty := tyX7 7) (C := RX7) (T := TX7) (N := 10) hx hb hg inX7 tyX7 tyX7_ok nmX7 hown hK hP hD hS 0 rfl rfl 7 (by decide) (hg _ w442) (fun _ h9 => h9) rfl (tyX7_ok 7 (by decide)) rfl rfl (Nat.le_of_ble_eq_true rfl) dX7_clear_12 (fun H locs hP hD hS => ?_)
  have hP : va_P D vwCl [(nt, .inr (7, [.ref n0, .ref n1, .ref n2, .ref n3, .ref n4, .int 0, .int 0, .int 0, .int 0, .int 0]))] H := hP
  have hD : va_D A [(nt, .inr (7, [.ref n0, .ref n1, .ref n2, .ref n3, .ref n4, .int 0, .int 0, .int 0, .int 0, .int 0]))] := hD
  refine lv_aload_n hx hb dX7_clear_15 rfl (lv_at hl 0 rfl) ?_
  refine lv_iconst (v := 0) hx hb dX7_clear_16 (by decide) ?_
  refine va_put (D := D) (ci := 7) (v := .int 0) (ty := tyX7 8) (C := RX7) (T := TX7) (N := 10) hx hb hg inX7 tyX7 tyX7_ok nmX7 hown hK hP hD hS 0 rfl rfl 8 (by decide) (hg _ w443) (fun _ h9 => h9) rfl (tyX7_ok 8 (by decide)) rfl rfl (Nat.le_of_ble_eq_true rfl) dX7_clear_17 (fun H locs hP hD hS => ?_)
  have hP : va_P D vwCl [(nt, .inr (7, [.ref n0, .ref n1, .ref n2, .ref n3, .ref n4, .int 0, .int 0, .int 0, .int 0, .int 0]))] H := hP
  have hD : va_D A [(nt, .inr (7, [.ref n0, .ref n1, .ref n2, .ref n3, .ref n4, .int 0, .int 0, .int 0, .int 0, .int 0]))] := hD
  refine W.widen (k := 0) (n := 0) (Nat.le_of_ble_eq_true rfl) (Nat.le_of_ble_eq_true rfl) ?_
  have hP9 := hP.sub (ws' := [(nt, .inr (7, [.ref n0, .ref n1, .ref n2, .ref n3, .ref n4, .int 0, .int 0, .int 0, .int 0, .int 0]))]) [0] rfl
  have hD9 := hD.sub (ws' := [(nt, .inr (7, [.ref n0, .ref n1, .ref n2, .ref n3, .ref n4, .int 0, .int 0, .int 0, .int 0, .int 0]))]) [0] (by decide) rfl
  have hK9 := hK.sub (tys' := []) [] rfl
  exact W.vret hx hb hr (fun t ht hW => ⟨⟨(), rfl, (by first | rfl | trivial | assumption | decide), by rw [ht]; exact hP9, va_K.moved hW.alike hK9, hD9⟩, hS.F ht⟩) hS.2.2 dX7_clear_20
abbrev r_c_Checker_clear0 : Room := { frames := 0, cells := 0, slots := 0, locals := 0 }
abbrev q_c_Checker_clear0 (D : va_G) (ck : Nat) (c0 : Nat) (c1 : Nat) (c2 : Nat) (c3 : Nat) (c4 : Nat) (c5 : Nat) (A : Nat → Prop) : Array Value → State → Outcome → State → Prop := va_Qv (fun (_ : Unit) => True) (fun u t => gq D A ((fun (_ : Unit) => [(ck, .inr (2, [.ref c0, .ref c1, .ref c2, .ref c3, .ref c4, .ref c5, .null, .int 0]))]) u) ((fun (_ : Unit) => ([] : List (ClassId × FieldType))) u) t) A
set_option maxHeartbeats 4000000 in
set_option maxRecDepth 100000 in
theorem c_Checker_clear0 (l : Launch) (D : va_G) (ks : Nat × Nat × Option Nat) (sz : Nat) (ck : Nat) (c0 : Nat) (c1 : Nat) (c2 : Nat) (c3 : Nat) (c4 : Nat) (c5 : Nat) : Met l yX2_clear (Cond.code yX2_clear cX2_clear 1 none :: GW) r_c_Checker_clear0 (va_Pc [.ref ck] (gp D ks [(ck, .inr (2, [.ref c0, .ref c1, .ref c2, .ref c3, .ref c4, .ref c5, .null, .int 0]))] [] sz)) (q_c_Checker_clear0 D ck c0 c1 c2 c3 c4 c5 (va_A [(ck, .inr (2, [.ref c0, .ref c1, .ref c2, .ref c3, .ref c4, .ref c5, .null, .int 0]))] sz)) 0 0 (va_A [(ck, .inr (2, [.ref c0, .ref c1, .ref c2, .ref c3, .ref c4, .ref c5, .null, .int 0]))] sz) := by
  refine g_met (q_c_Checker_clear0 D ck c0 c1 c2 c3 c4 c5) (by decide) (Nat.le_of_ble_eq_true rfl) ?_
  intro p e s m below meth c A ls H locs hx hb hr hml hown hg hlocks hin hnw hgk hP hK hD hS hA hl
  have hown : s.vm.findClass RX2 = some m.cls := hown
  have hl : lv_has ls 1 [(0, .ref ck)] := hl
  refine lv_aload_n hx hb dX2_clear_0 rfl (lv_at hl 0 rfl) ?_
  refine lv_iconst (v := 0) hx hb dX2_clear_1 (by decide) ?_
  refine va_put (D := D) (ci := 2) (v := .int 0) (ty := tyX2 7) (C := RX2) (T := TX2) (N := 8) hx hb hg inX2 tyX2 tyX2_ok nmX2 hown hK hP hD hS 0 rfl rfl 7 (by decide) (hg _ w345) (fun _ h9 => h9) rfl (tyX2_ok 7 (by decide)) rfl rfl (Nat.le_of_ble_eq_true rfl) dX2_clear_2 (fun H locs hP hD hS => ?_)
  have hP : va_P D vwCl [(ck, .inr (2, [.ref c0, .ref c1, .ref c2, .ref c3, .ref c4, .ref c5, .null, .int 0]))] H := hP
  have hD : va_D A [(ck, .inr (2, [.ref c0, .ref c1, .ref c2, .ref c3, .ref c4, .ref c5, .null, .int 0]))] := hD
  refine W.widen (k := 0) (n := 0) (Nat.le_of_ble_eq_true rfl) (Nat.le_of_ble_eq_true rfl) ?_
  have hP9 := hP.sub (ws' := [(ck, .inr (2, [.ref c0, .ref c1, .ref c2, .ref c3, .ref c4, .ref c5, .null, .int 0]))]) [0] rfl
  have hD9 := hD.sub (ws' := [(ck, .inr (2, [.ref c0, .ref c1, .ref c2, .ref c3, .ref c4, .ref c5, .null, .int 0]))]) [0] (by decide) rfl
  have hK9 := hK.sub (tys' := []) [] rfl
  exact W.vret hx hb hr (fun t ht hW => ⟨⟨(), rfl, (by first | rfl | trivial | assumption | decide), by rw [ht]; exact hP9, va_K.moved hW.alike hK9, hD9⟩, hS.F ht⟩) hS.2.2 dX2_clear_5
abbrev r_c_restart0 : Room := { frames := 0, cells := 0, slots := 0, locals := 0 }
abbrev q_c_restart0 (D : va_G) (mc : Nat) (sk : Nat) (nt : Nat) (m0 : Nat) (m1 : Nat) (m2 : Nat) (sh : Nat) (A : Nat → Prop) : Array Value → State → Outcome → State → Prop := va_Qv (fun (_ : Unit) => True) (fun u t => gq D A ((fun (_ : Unit) => [(mc, .inr (5, [.ref sk, .ref nt, .ref m0, .ref m1, .ref m2, .ref sh, .int 0, .int 0, .int 0, .int 0, .int 0, .int 0, .int 0, .int 0, .int 0]))]) u) ((fun (_ : Unit) => ([] : List (ClassId × FieldType))) u) t) A
set_option maxHeartbeats 4000000 in
set_option maxRecDepth 100000 in
theorem c_restart0 (l : Launch) (D : va_G) (ks : Nat × Nat × Option Nat) (sz : Nat) (mc : Nat) (sk : Nat) (nt : Nat) (m0 : Nat) (m1 : Nat) (m2 : Nat) (sh : Nat) : Met l yX5_restart (Cond.code yX5_restart cX5_restart 1 none :: GW) r_c_restart0 (va_Pc [.ref mc] (gp D ks [(mc, .inr (5, [.ref sk, .ref nt, .ref m0, .ref m1, .ref m2, .ref sh, .int 0, .int 0, .int 0, .int 0, .int 0, .int 0, .int 0, .int 0, .int 0]))] [] sz)) (q_c_restart0 D mc sk nt m0 m1 m2 sh (va_A [(mc, .inr (5, [.ref sk, .ref nt, .ref m0, .ref m1, .ref m2, .ref sh, .int 0, .int 0, .int 0, .int 0, .int 0, .int 0, .int 0, .int 0, .int 0]))] sz)) 0 0 (va_A [(mc, .inr (5, [.ref sk, .ref nt, .ref m0, .ref m1, .ref m2, .ref sh, .int 0, .int 0, .int 0, .int 0, .int 0, .int 0, .int 0, .int 0, .int 0]))] sz) := by
  refine g_met (q_c_restart0 D mc sk nt m0 m1 m2 sh) (by decide) (Nat.le_of_ble_eq_true rfl) ?_
  intro p e s m below meth c A ls H locs hx hb hr hml hown hg hlocks hin hnw hgk hP hK hD hS hA hl
  have hown : s.vm.findClass RX5 = some m.cls := hown
  have hl : lv_has ls 1 [(0, .ref mc)] := hl
  refine lv_aload_n hx hb dX5_restart_0 rfl (lv_at hl 0 rfl) ?_
  refine lv_iconst (v := 0) hx hb dX5_restart_1 (by decide) ?_
  refine va_put (D := D) (ci := 5) (v := .int 0) (ty := tyX5 6) (C := RX5) (T := TX5) (N := 15) hx hb hg inX5 tyX5 tyX5_ok nmX5 hown hK hP hD hS 0 rfl rfl 6 (by decide) (hg _ w673) (fun _ h9 => h9) rfl (tyX5_ok 6 (by decide)) rfl rfl (Nat.le_of_ble_eq_true rfl) dX5_restart_2 (fun H locs hP hD hS => ?_)
  have hP : va_P D vwCl [(mc, .inr (5, [.ref sk, .ref nt, .ref m0, .ref m1, .ref m2, .ref sh, .int 0, .int 0, .int 0, .int 0, .int 0, .int 0, .int 0, .int 0, .int 0]))] H := hP
  have hD : va_D A [(mc, .inr (5, [.ref sk, .ref nt, .ref m0, .ref m1, .ref m2, .ref sh, .int 0, .int 0, .int 0, .int 0, .int 0, .int 0, .int 0, .int 0, .int 0]))] := hD
  refine lv_aload_n hx hb dX5_restart_5 rfl (lv_at hl 0 rfl) ?_
  refine lv_iconst (v := 0) hx hb dX5_restart_6 (by decide) ?_
  refine va_put (D := D) (ci := 5) (v := .int 0) (ty := tyX5 7) (C := RX5) (T := TX5) (N := 15) hx hb hg inX5 tyX5 tyX5_ok nmX5 hown hK hP hD hS 0 rfl rfl 7 (by decide) (hg _ w674) (fun _ h9 => h9) rfl (tyX5_ok 7 (by decide)) rfl rfl (Nat.le_of_ble_eq_true rfl) dX5_restart_7 (fun H locs hP hD hS => ?_)
  have hP : va_P D vwCl [(mc, .inr (5, [.ref sk, .ref nt, .ref m0, .ref m1, .ref m2, .ref sh, .int 0, .int 0, .int 0, .int 0, .int 0, .int 0, .int 0, .int 0, .int 0]))] H := hP
  have hD : va_D A [(mc, .inr (5, [.ref sk, .ref nt, .ref m0, .ref m1, .ref m2, .ref sh, .int 0, .int 0, .int 0, .int 0, .int 0, .int 0, .int 0, .int 0, .int 0]))] := hD
  refine lv_aload_n hx hb dX5_restart_10 rfl (lv_at hl 0 rfl) ?_
  refine lv_iconst (v := 0) hx hb dX5_restart_11 (by decide) ?_
  refine va_put (D := D) (ci := 5) (v := .int 0) (ty := tyX5 8) (C := RX5) (T := TX5) (N := 15) hx hb hg inX5 tyX5 tyX5_ok nmX5 hown hK hP hD hS 0 rfl rfl 8 (by decide) (hg _ w675) (fun _ h9 => h9) rfl (tyX5_ok 8 (by decide)) rfl rfl (Nat.le_of_ble_eq_true rfl) dX5_restart_12 (fun H locs hP hD hS => ?_)
  have hP : va_P D vwCl [(mc, .inr (5, [.ref sk, .ref nt, .ref m0, .ref m1, .ref m2, .ref sh, .int 0, .int 0, .int 0, .int 0, .int 0, .int 0, .int 0, .int 0, .int 0]))] H := hP
  have hD : va_D A [(mc, .inr (5, [.ref sk, .ref nt, .ref m0, .ref m1, .ref m2, .ref sh, .int 0, .int 0, .int 0, .int 0, .int 0, .int 0, .int 0, .int 0, .int 0]))] := hD
  refine lv_aload_n hx hb dX5_restart_15 rfl (lv_at hl 0 rfl) ?_
  refine lv_iconst (v := 0) hx hb dX5_restart_16 (by decide) ?_
  refine va_put (D := D) (ci := 5) (v := .int 0) (ty := tyX5 9) (C := RX5) (T := TX5) (N := 15) hx hb hg inX5 tyX5 tyX5_ok nmX5 hown hK hP hD hS 0 rfl rfl 9 (by decide) (hg _ w676) (fun _ h9 => h9) rfl (tyX5_ok 9 (by decide)) rfl rfl (Nat.le_of_ble_eq_true rfl) dX5_restart_17 (fun H locs hP hD hS => ?_)
  have hP : va_P D vwCl [(mc, .inr (5, [.ref sk, .ref nt, .ref m0, .ref m1, .ref m2, .ref sh, .int 0, .int 0, .int 0, .int 0, .int 0, .int 0, .int 0, .int 0, .int 0]))] H := hP
  have hD : va_D A [(mc, .inr (5, [.ref sk, .ref nt, .ref m0, .ref m1, .ref m2, .ref sh, .int 0, .int 0, .int 0, .int 0, .int 0, .int 0, .int 0, .int 0, .int 0]))] := hD
  refine lv_aload_n hx hb dX5_restart_20 rfl (lv_at hl 0 rfl) ?_
  refine lv_iconst (v := 0) hx hb dX5_restart_21 (by decide) ?_
  refine va_put (D := D) (ci := 5) (v := .int 0) (ty := tyX5 13) (C := RX5) (T := TX5) (N := 15) hx hb hg inX5 tyX5 tyX5_ok nmX5 hown hK hP hD hS 0 rfl rfl 13 (by decide) (hg _ w680) (fun _ h9 => h9) rfl (tyX5_ok 13 (by decide)) rfl rfl (Nat.le_of_ble_eq_true rfl) dX5_restart_22 (fun H locs hP hD hS => ?_)
  have hP : va_P D vwCl [(mc, .inr (5, [.ref sk, .ref nt, .ref m0, .ref m1, .ref m2, .ref sh, .int 0, .int 0, .int 0, .int 0, .int 0, .int 0, .int 0, .int 0, .int 0]))] H := hP
  have hD : va_D A [(mc, .inr (5, [.ref sk, .ref nt, .ref m0, .ref m1, .ref m2, .ref sh, .int 0, .int 0, .int 0, .int 0, .int 0, .int 0, .int 0, .int 0, .int 0]))] := hD
  refine W.widen (k := 0) (n := 0) (Nat.le_of_ble_eq_true rfl) (Nat.le_of_ble_eq_true rfl) ?_
  have hP9 := hP.sub (ws' := [(mc, .inr (5, [.ref sk, .ref nt, .ref m0, .ref m1, .ref m2, .ref sh, .int 0, .int 0, .int 0, .int 0, .int 0, .int 0, .int 0, .int 0, .int 0]))]) [0] rfl
  have hD9 := hD.sub (ws' := [(mc, .inr (5, [.ref sk, .ref nt, .ref m0, .ref m1, .ref m2, .ref sh, .int 0, .int 0, .int 0, .int 0, .int 0, .int 0, .int 0, .int 0, .int 0]))]) [0] (by decide) rfl
  have hK9 := hK.sub (tys' := []) [] rfl
  exact W.vret hx hb hr (fun t ht hW => ⟨⟨(), rfl, (by first | rfl | trivial | assumption | decide), by rw [ht]; exact hP9, va_K.moved hW.alike hK9, hD9⟩, hS.F ht⟩) hS.2.2 dX5_restart_25
abbrev r_c_takeBook0 : Room := { frames := 1, cells := 0, slots := 0, locals := 20 }
abbrev q_c_takeBook0 (D : va_G) (mc : Nat) (sk : Nat) (nt : Nat) (m0 : Nat) (m1 : Nat) (m2 : Nat) (sh : Nat) (xb : Nat) (A : Nat → Prop) : Array Value → State → Outcome → State → Prop := va_Qv (fun (_ : Unit) => True) (fun u t => gq D A ((fun (_ : Unit) => []) u) ((fun (_ : Unit) => ([] : List (ClassId × FieldType))) u) t) A
set_option maxHeartbeats 4000000 in
set_option maxRecDepth 100000 in
theorem c_takeBook0 (l : Launch) (D : va_G) (ks : Nat × Nat × Option Nat) (sz : Nat) (mc : Nat) (sk : Nat) (nt : Nat) (m0 : Nat) (m1 : Nat) (m2 : Nat) (sh : Nat) (xb : Nat) : Met l yX5_takeBook (Cond.code yX5_takeBook cX5_takeBook 2 none :: GW) r_c_takeBook0 (va_Pc [.ref mc, .ref xb] (gp D ks [(mc, .inr (5, [.ref sk, .ref nt, .ref m0, .ref m1, .ref m2, .ref sh, .int 0, .int 0, .int 0, .int 0, .int 0, .int 0, .int 0, .int 0, .int 0]))] [] sz)) (q_c_takeBook0 D mc sk nt m0 m1 m2 sh xb (va_A [(mc, .inr (5, [.ref sk, .ref nt, .ref m0, .ref m1, .ref m2, .ref sh, .int 0, .int 0, .int 0, .int 0, .int 0, .int 0, .int 0, .int 0, .int 0]))] sz)) 0 0 (va_A [(mc, .inr (5, [.ref sk, .ref nt, .ref m0, .ref m1, .ref m2, .ref sh, .int 0, .int 0, .int 0, .int 0, .int 0, .int 0, .int 0, .int 0, .int 0]))] sz) := by
  refine g_met (q_c_takeBook0 D mc sk nt m0 m1 m2 sh xb) (by decide) (Nat.le_of_ble_eq_true rfl) ?_
  intro p e s m below meth c A ls H locs hx hb hr hml hown hg hlocks hin hnw hgk hP hK hD hS hA hl
  have hown : s.vm.findClass RX5 = some m.cls := hown
  have hl : lv_has ls 2 [(0, .ref mc), (1, .ref xb)] := hl
  refine lv_aload_n hx hb dX5_takeBook_0 rfl (lv_at hl 0 rfl) ?_
  refine lv_aload_n hx hb dX5_takeBook_1 rfl (lv_at hl 1 rfl) ?_
  refine va_put (D := D) (ci := 5) (v := .ref xb) (ty := tyX5 5) (C := RX5) (T := TX5) (N := 15) hx hb hg inX5 tyX5 tyX5_ok nmX5 hown hK hP hD hS 0 rfl rfl 5 (by decide) (hg _ w672) (fun _ h9 => h9) rfl (tyX5_ok 5 (by decide)) rfl rfl (Nat.le_of_ble_eq_true rfl) dX5_takeBook_2 (fun H locs hP hD hS => ?_)
  have hP : va_P D vwCl [(mc, .inr (5, [.ref sk, .ref nt, .ref m0, .ref m1, .ref m2, .ref xb, .int 0, .int 0, .int 0, .int 0, .int 0, .int 0, .int 0, .int 0, .int 0]))] H := hP
  have hD : va_D A [(mc, .inr (5, [.ref sk, .ref nt, .ref m0, .ref m1, .ref m2, .ref xb, .int 0, .int 0, .int 0, .int 0, .int 0, .int 0, .int 0, .int 0, .int 0]))] := hD
  refine lv_aload_n hx hb dX5_takeBook_5 rfl (lv_at hl 0 rfl) ?_
  refine g_void (wr := []) (tr := []) (g_runV (As := []) (rest := []) (wc := [(mc, .inr (5, [.ref sk, .ref nt, .ref m0, .ref m1, .ref m2, .ref xb, .int 0, .int 0, .int 0, .int 0, .int 0, .int 0, .int 0, .int 0, .int 0]))]) (tc := []) (ci := 5) (q0 := 0) hx hb hml hown hg gw_self hP hD hK hS hA hnw hgk [0] [] (by decide) rfl rfl (c_restart0 l D ks H.size mc sk nt m0 m1 m2 xb) w1043 w1044 w1045 w171 w1046 rfl rfl hdV_yX5_restart ⟨Nat.le_of_ble_eq_true rfl, Nat.le_of_ble_eq_true rfl⟩ rfl hl.1 rfl (Nat.le_of_ble_eq_true rfl) dX5_takeBook_6 ⟨Nat.le_of_ble_eq_true rfl, Nat.le_of_ble_eq_true rfl⟩) hP hD hK hS hA [0] [] [] rfl rfl (by decide) (by decide) rfl (fun u2 H locs hw1 hP hD hK hS => ?_)
  have hP : va_P D vwCl [(mc, .inr (5, [.ref sk, .ref nt, .ref m0, .ref m1, .ref m2, .ref xb, .int 0, .int 0, .int 0, .int 0, .int 0, .int 0, .int 0, .int 0, .int 0]))] H := hP
  have hD : va_D A [(mc, .inr (5, [.ref sk, .ref nt, .ref m0, .ref m1, .ref m2, .ref xb, .int 0, .int 0, .int 0, .int 0, .int 0, .int 0, .int 0, .int 0, .int 0]))] := hD
  have hK : va_K D vwCl [] s := hK
  refine W.widen (k := 0) (n := 0) (Nat.le_of_ble_eq_true rfl) (Nat.le_of_ble_eq_true rfl) ?_
  have hP9 := hP.sub (ws' := []) [] rfl
  have hD9 := hD.sub (ws' := []) [] (by decide) rfl
  have hK9 := hK.sub (tys' := []) [] rfl
  exact W.vret hx hb hr (fun t ht hW => ⟨⟨(), rfl, (by first | rfl | trivial | assumption | decide), by rw [ht]; exact hP9, va_K.moved hW.alike hK9, hD9⟩, hS.F ht⟩) hS.2.2 dX5_takeBook_9
