theorem w950 : Cond.code yX1_readE cX1_readE 2 (some .boolean) ∈ GW := gw_mem 950 (by decide +kernel) rfl
theorem w947 : Cond.methodLink RX1 171 yX1_readE ∈ GW := gw_mem 947 (by decide +kernel) rfl
theorem w949 : Cond.instanceMethod yX1_readE ∈ GW := gw_mem 949 (by decide +kernel) rfl
theorem w20 : Cond.selects RX1 yX1_readE yX1_readE ∈ GW := gw_mem 20 (by decide +kernel) rfl
theorem hdV_yX1_readE : yX1_readE.cls = RX1 ∧ yX1_readE.cls ≠ "java/lang/invoke/MethodHandle" ∧ yX1_readE.cls ≠ "java/lang/invoke/VarHandle" ∧ (parseMethodDescriptor yX1_readE.desc).map (fun d => d.parameters.length) = some 1 := by decide +kernel
theorem w1014 : Cond.code yX3_addNeed cX3_addNeed 4 none ∈ GW := gw_mem 1014 (by decide +kernel) rfl
theorem w1011 : Cond.methodLink RX1 193 yX3_addNeed ∈ GW := gw_mem 1011 (by decide +kernel) rfl
theorem w169 : Cond.initialized RX3 ∈ GW := gw_mem 169 (by decide +kernel) rfl
theorem w1012 : Cond.instanceMethod yX3_addNeed ∈ GW := gw_mem 1012 (by decide +kernel) rfl
theorem w1013 : Cond.selects RX3 yX3_addNeed yX3_addNeed ∈ GW := gw_mem 1013 (by decide +kernel) rfl
theorem hdV_yX3_addNeed : yX3_addNeed.cls = RX3 ∧ yX3_addNeed.cls ≠ "java/lang/invoke/MethodHandle" ∧ yX3_addNeed.cls ≠ "java/lang/invoke/VarHandle" ∧ (parseMethodDescriptor yX3_addNeed.desc).map (fun d => d.parameters.length) = some 3 := by decide +kernel
theorem w926 : Cond.code yX1_takeCalled cX1_takeCalled 1 (some .boolean) ∈ GW := gw_mem 926 (by decide +kernel) rfl
theorem w923 : Cond.methodLink RX1 134 yX1_takeCalled ∈ GW := gw_mem 923 (by decide +kernel) rfl
theorem w925 : Cond.instanceMethod yX1_takeCalled ∈ GW := gw_mem 925 (by decide +kernel) rfl
theorem w15 : Cond.selects RX1 yX1_takeCalled yX1_takeCalled ∈ GW := gw_mem 15 (by decide +kernel) rfl
theorem hdV_yX1_takeCalled : yX1_takeCalled.cls = RX1 ∧ yX1_takeCalled.cls ≠ "java/lang/invoke/MethodHandle" ∧ yX1_takeCalled.cls ≠ "java/lang/invoke/VarHandle" ∧ (parseMethodDescriptor yX1_takeCalled.desc).map (fun d => d.parameters.length) = some 0 := by decide +kernel
theorem w1010 : Cond.code yX1_readNeed cX1_readNeed 4 (some .boolean) ∈ GW := gw_mem 1010 (by decide +kernel) rfl
theorem w1007 : Cond.methodLink RX1 178 yX1_readNeed ∈ GW := gw_mem 1007 (by decide +kernel) rfl
theorem w1009 : Cond.instanceMethod yX1_readNeed ∈ GW := gw_mem 1009 (by decide +kernel) rfl
theorem w32 : Cond.selects RX1 yX1_readNeed yX1_readNeed ∈ GW := gw_mem 32 (by decide +kernel) rfl
theorem hdV_yX1_readNeed : yX1_readNeed.cls = RX1 ∧ yX1_readNeed.cls ≠ "java/lang/invoke/MethodHandle" ∧ yX1_readNeed.cls ≠ "java/lang/invoke/VarHandle" ∧ (parseMethodDescriptor yX1_readNeed.desc).map (fun d => d.parameters.length) = some 0 := by decide +kernel
theorem n538 : lw_tbl[538]? = some (Cond.fieldLinkNest RX1 181 "WiringHouse$Component" "openedStart" "I" "WiringHouse") := by decide +kernel
theorem n541 : lw_tbl[541]? = some (Cond.fieldLinkNest RX1 184 "WiringHouse$Component" "closedStart" "I" "WiringHouse") := by decide +kernel
theorem w1018 : Cond.code yX1_readMethod cX1_readMethod 2 (some .boolean) ∈ GW := gw_mem 1018 (by decide +kernel) rfl
theorem w1015 : Cond.methodLink RX1 187 yX1_readMethod ∈ GW := gw_mem 1015 (by decide +kernel) rfl
theorem w1017 : Cond.instanceMethod yX1_readMethod ∈ GW := gw_mem 1017 (by decide +kernel) rfl
theorem w33 : Cond.selects RX1 yX1_readMethod yX1_readMethod ∈ GW := gw_mem 33 (by decide +kernel) rfl
theorem hdV_yX1_readMethod : yX1_readMethod.cls = RX1 ∧ yX1_readMethod.cls ≠ "java/lang/invoke/MethodHandle" ∧ yX1_readMethod.cls ≠ "java/lang/invoke/VarHandle" ∧ (parseMethodDescriptor yX1_readMethod.desc).map (fun d => d.parameters.length) = some 0 := by decide +kernel
theorem n626 : lw_tbl[626]? = some (Cond.fieldLinkNest RX1 155 "WiringHouse$Book" "wrapCount" "I" "WiringHouse") := by decide +kernel
theorem w1002 : Cond.code yX0_addWrap cX0_addWrap 8 none ∈ GW := gw_mem 1002 (by decide +kernel) rfl
theorem w999 : Cond.methodLink RX1 174 yX0_addWrap ∈ GW := gw_mem 999 (by decide +kernel) rfl
theorem w1000 : Cond.instanceMethod yX0_addWrap ∈ GW := gw_mem 1000 (by decide +kernel) rfl
theorem w1001 : Cond.selects RX0 yX0_addWrap yX0_addWrap ∈ GW := gw_mem 1001 (by decide +kernel) rfl
theorem hdV_yX0_addWrap : yX0_addWrap.cls = RX0 ∧ yX0_addWrap.cls ≠ "java/lang/invoke/MethodHandle" ∧ yX0_addWrap.cls ≠ "java/lang/invoke/VarHandle" ∧ (parseMethodDescriptor yX0_addWrap.desc).map (fun d => d.parameters.length) = some 5 := by decide +kernel
theorem w946 : Cond.code yX0_aroundsOf cX0_aroundsOf 4 (some .int) ∈ GW := gw_mem 946 (by decide +kernel) rfl
theorem w943 : Cond.methodLink RX1 164 yX0_aroundsOf ∈ GW := gw_mem 943 (by decide +kernel) rfl
theorem w944 : Cond.instanceMethod yX0_aroundsOf ∈ GW := gw_mem 944 (by decide +kernel) rfl
theorem w945 : Cond.selects RX0 yX0_aroundsOf yX0_aroundsOf ∈ GW := gw_mem 945 (by decide +kernel) rfl
theorem hdV_yX0_aroundsOf : yX0_aroundsOf.cls = RX0 ∧ yX0_aroundsOf.cls ≠ "java/lang/invoke/MethodHandle" ∧ yX0_aroundsOf.cls ≠ "java/lang/invoke/VarHandle" ∧ (parseMethodDescriptor yX0_aroundsOf.desc).map (fun d => d.parameters.length) = some 1 := by decide +kernel
theorem n533 : lw_tbl[533]? = some (Cond.fieldLinkNest RX1 149 "WiringHouse$Component" "whenSetting" "I" "WiringHouse") := by decide +kernel
theorem w905 : Cond.constant RX1 102 999999999 ∈ GW := gw_mem 905 (by decide +kernel) rfl
theorem n536 : lw_tbl[536]? = some (Cond.fieldLinkNest RX1 152 "WiringHouse$Component" "whenValue" "I" "WiringHouse") := by decide +kernel
theorem n528 : lw_tbl[528]? = some (Cond.fieldLinkNest RX1 143 "WiringHouse$Component" "rank" "I" "WiringHouse") := by decide +kernel
theorem n524 : lw_tbl[524]? = some (Cond.fieldLinkNest RX1 140 "WiringHouse$Component" "calledWord" "I" "WiringHouse") := by decide +kernel
theorem w866 : Cond.code yX6_isFull cX6_isFull 1 (some .boolean) ∈ GW := gw_mem 866 (by decide +kernel) rfl
theorem w863 : Cond.methodLink RX1 67 yX6_isFull ∈ GW := gw_mem 863 (by decide +kernel) rfl
theorem w864 : Cond.instanceMethod yX6_isFull ∈ GW := gw_mem 864 (by decide +kernel) rfl
theorem w865 : Cond.selects RX6 yX6_isFull yX6_isFull ∈ GW := gw_mem 865 (by decide +kernel) rfl
theorem hdV_yX6_isFull : yX6_isFull.cls = RX6 ∧ yX6_isFull.cls ≠ "java/lang/invoke/MethodHandle" ∧ yX6_isFull.cls ≠ "java/lang/invoke/VarHandle" ∧ (parseMethodDescriptor yX6_isFull.desc).map (fun d => d.parameters.length) = some 0 := by decide +kernel
theorem w875 : Cond.code yX1_takeNewName cX1_takeNewName 1 (some .boolean) ∈ GW := gw_mem 875 (by decide +kernel) rfl
theorem w872 : Cond.methodLink RX1 75 yX1_takeNewName ∈ GW := gw_mem 872 (by decide +kernel) rfl
theorem w874 : Cond.instanceMethod yX1_takeNewName ∈ GW := gw_mem 874 (by decide +kernel) rfl
theorem w7 : Cond.selects RX1 yX1_takeNewName yX1_takeNewName ∈ GW := gw_mem 7 (by decide +kernel) rfl
theorem hdV_yX1_takeNewName : yX1_takeNewName.cls = RX1 ∧ yX1_takeNewName.cls ≠ "java/lang/invoke/MethodHandle" ∧ yX1_takeNewName.cls ≠ "java/lang/invoke/VarHandle" ∧ (parseMethodDescriptor yX1_takeNewName.desc).map (fun d => d.parameters.length) = some 0 := by decide +kernel
theorem n612 : lw_tbl[612]? = some (Cond.fieldLinkNest RX1 107 "WiringHouse$Book" "settingValues" "[I" "WiringHouse") := by decide +kernel
theorem w887 : Cond.code yX1_takeTypes cX1_takeTypes 3 (some .boolean) ∈ GW := gw_mem 887 (by decide +kernel) rfl
theorem w884 : Cond.methodLink RX1 85 yX1_takeTypes ∈ GW := gw_mem 884 (by decide +kernel) rfl
theorem w886 : Cond.instanceMethod yX1_takeTypes ∈ GW := gw_mem 886 (by decide +kernel) rfl
theorem w8 : Cond.selects RX1 yX1_takeTypes yX1_takeTypes ∈ GW := gw_mem 8 (by decide +kernel) rfl
theorem hdV_yX1_takeTypes : yX1_takeTypes.cls = RX1 ∧ yX1_takeTypes.cls ≠ "java/lang/invoke/MethodHandle" ∧ yX1_takeTypes.cls ≠ "java/lang/invoke/VarHandle" ∧ (parseMethodDescriptor yX1_takeTypes.desc).map (fun d => d.parameters.length) = some 0 := by decide +kernel
theorem dX1_readE_0 : decode cX1_readE 0 = .ok (.aload_n 0, 1) := by decide +kernel
theorem dX1_readE_1 : decode cX1_readE 1 = .ok (.iload_n 1, 1) := by decide +kernel
theorem dX1_readE_2 : decode cX1_readE 2 = .ok (.putfield 200, 3) := by decide +kernel
theorem dX1_readE_5 : decode cX1_readE 5 = .ok (.aload_n 0, 1) := by decide +kernel
theorem dX1_readE_6 : decode cX1_readE 6 = .ok (.iconst 0, 1) := by decide +kernel
theorem dX1_readE_7 : decode cX1_readE 7 = .ok (.invokevirtual 203, 3) := by decide +kernel
theorem dX1_readE_10 : decode cX1_readE 10 = .ok (.ifCond .ne 5, 3) := by decide +kernel
theorem dX1_readE_15 : decode cX1_readE 15 = .ok (.aload_n 0, 1) := by decide +kernel
theorem dX1_readE_16 : decode cX1_readE 16 = .ok (.getfield 15, 3) := by decide +kernel
theorem dX1_readE_19 : decode cX1_readE 19 = .ok (.iconst 0, 1) := by decide +kernel
theorem dX1_readE_20 : decode cX1_readE 20 = .ok (.invokevirtual 206, 3) := by decide +kernel
theorem dX1_readE_23 : decode cX1_readE 23 = .ok (.aload_n 0, 1) := by decide +kernel
theorem dX1_readE_24 : decode cX1_readE 24 = .ok (.bipush 59, 2) := by decide +kernel
theorem dX1_readE_26 : decode cX1_readE 26 = .ok (.invokevirtual 88, 3) := by decide +kernel
theorem dX1_readE_29 : decode cX1_readE 29 = .ok (.ireturn, 1) := by decide +kernel
theorem dX1_readE_13 : decode cX1_readE 13 = .ok (.iconst 0, 1) := by decide +kernel
theorem dX1_readE_14 : decode cX1_readE 14 = .ok (.ireturn, 1) := by decide +kernel
theorem dX1_readMethod_0 : decode cX1_readMethod 0 = .ok (.aload_n 0, 1) := by decide +kernel
theorem dX1_readMethod_1 : decode cX1_readMethod 1 = .ok (.getfield 15, 3) := by decide +kernel
theorem dX1_readMethod_4 : decode cX1_readMethod 4 = .ok (.getfield 168, 3) := by decide +kernel
theorem dX1_readMethod_7 : decode cX1_readMethod 7 = .ok (.istore_n 1, 1) := by decide +kernel
theorem dX1_readMethod_8 : decode cX1_readMethod 8 = .ok (.aload_n 0, 1) := by decide +kernel
theorem dX1_readMethod_9 : decode cX1_readMethod 9 = .ok (.getfield 9, 3) := by decide +kernel
theorem dX1_readMethod_12 : decode cX1_readMethod 12 = .ok (.invokevirtual 72, 3) := by decide +kernel
theorem dX1_readMethod_15 : decode cX1_readMethod 15 = .ok (.aload_n 0, 1) := by decide +kernel
theorem dX1_readMethod_16 : decode cX1_readMethod 16 = .ok (.aload_n 0, 1) := by decide +kernel
theorem dX1_readMethod_17 : decode cX1_readMethod 17 = .ok (.getfield 24, 3) := by decide +kernel
theorem dX1_readMethod_20 : decode cX1_readMethod 20 = .ok (.invokevirtual 161, 3) := by decide +kernel
theorem dX1_readMethod_23 : decode cX1_readMethod 23 = .ok (.ifCond .ne 5, 3) := by decide +kernel
theorem dX1_readMethod_28 : decode cX1_readMethod 28 = .ok (.aload_n 0, 1) := by decide +kernel
theorem dX1_readMethod_29 : decode cX1_readMethod 29 = .ok (.getfield 24, 3) := by decide +kernel
theorem dX1_readMethod_32 : decode cX1_readMethod 32 = .ok (.getfield 197, 3) := by decide +kernel
theorem dX1_readMethod_35 : decode cX1_readMethod 35 = .ok (.aload_n 0, 1) := by decide +kernel
theorem dX1_readMethod_36 : decode cX1_readMethod 36 = .ok (.getfield 137, 3) := by decide +kernel
theorem dX1_readMethod_39 : decode cX1_readMethod 39 = .ok (.iload_n 1, 1) := by decide +kernel
theorem dX1_readMethod_40 : decode cX1_readMethod 40 = .ok (.iastore, 1) := by decide +kernel
theorem dX1_readMethod_41 : decode cX1_readMethod 41 = .ok (.aload_n 0, 1) := by decide +kernel
theorem dX1_readMethod_42 : decode cX1_readMethod 42 = .ok (.iconst 0, 1) := by decide +kernel
theorem dX1_readMethod_43 : decode cX1_readMethod 43 = .ok (.invokevirtual 171, 3) := by decide +kernel
theorem dX1_readMethod_46 : decode cX1_readMethod 46 = .ok (.ireturn, 1) := by decide +kernel
theorem dX1_readMethod_26 : decode cX1_readMethod 26 = .ok (.iconst 0, 1) := by decide +kernel
theorem dX1_readMethod_27 : decode cX1_readMethod 27 = .ok (.ireturn, 1) := by decide +kernel
theorem dX1_readNeed_0 : decode cX1_readNeed 0 = .ok (.aload_n 0, 1) := by decide +kernel
theorem dX1_readNeed_1 : decode cX1_readNeed 1 = .ok (.getfield 24, 3) := by decide +kernel
theorem dX1_readNeed_4 : decode cX1_readNeed 4 = .ok (.getfield 190, 3) := by decide +kernel
theorem dX1_readNeed_7 : decode cX1_readNeed 7 = .ok (.bipush 8, 2) := by decide +kernel
theorem dX1_readNeed_9 : decode cX1_readNeed 9 = .ok (.if_icmp .lt 9, 3) := by decide +kernel
theorem dX1_readNeed_18 : decode cX1_readNeed 18 = .ok (.aload_n 0, 1) := by decide +kernel
theorem dX1_readNeed_19 : decode cX1_readNeed 19 = .ok (.getfield 9, 3) := by decide +kernel
theorem dX1_readNeed_22 : decode cX1_readNeed 22 = .ok (.invokevirtual 72, 3) := by decide +kernel
theorem dX1_readNeed_25 : decode cX1_readNeed 25 = .ok (.aload_n 0, 1) := by decide +kernel
theorem dX1_readNeed_26 : decode cX1_readNeed 26 = .ok (.getfield 9, 3) := by decide +kernel
theorem dX1_readNeed_29 : decode cX1_readNeed 29 = .ok (.getfield 37, 3) := by decide +kernel
theorem dX1_readNeed_32 : decode cX1_readNeed 32 = .ok (.sipush 138, 3) := by decide +kernel
theorem dX1_readNeed_35 : decode cX1_readNeed 35 = .ok (.if_icmp .ne 7, 3) := by decide +kernel
theorem dX1_readNeed_42 : decode cX1_readNeed 42 = .ok (.aload_n 0, 1) := by decide +kernel
theorem dX1_readNeed_43 : decode cX1_readNeed 43 = .ok (.getfield 9, 3) := by decide +kernel
theorem dX1_readNeed_46 : decode cX1_readNeed 46 = .ok (.getfield 37, 3) := by decide +kernel
theorem dX1_readNeed_49 : decode cX1_readNeed 49 = .ok (.sipush 139, 3) := by decide +kernel
theorem dX1_readNeed_52 : decode cX1_readNeed 52 = .ok (.if_icmp .ne 7, 3) := by decide +kernel
theorem dX1_readNeed_59 : decode cX1_readNeed 59 = .ok (.iconst 0, 1) := by decide +kernel
theorem dX1_readNeed_60 : decode cX1_readNeed 60 = .ok (.istore_n 1, 1) := by decide +kernel
theorem dX1_readNeed_61 : decode cX1_readNeed 61 = .ok (.iload_n 1, 1) := by decide +kernel
theorem dX1_readNeed_62 : decode cX1_readNeed 62 = .ok (.ifCond .eq 10, 3) := by decide +kernel
theorem dX1_readNeed_72 : decode cX1_readNeed 72 = .ok (.aload_n 0, 1) := by decide +kernel
theorem dX1_readNeed_73 : decode cX1_readNeed 73 = .ok (.invokevirtual 158, 3) := by decide +kernel
theorem dX1_readNeed_76 : decode cX1_readNeed 76 = .ok (.ifCond .ne 5, 3) := by decide +kernel
theorem dX1_readNeed_81 : decode cX1_readNeed 81 = .ok (.aload_n 0, 1) := by decide +kernel
theorem dX1_readNeed_82 : decode cX1_readNeed 82 = .ok (.getfield 137, 3) := by decide +kernel
theorem dX1_readNeed_85 : decode cX1_readNeed 85 = .ok (.istore_n 2, 1) := by decide +kernel
theorem dX1_readNeed_86 : decode cX1_readNeed 86 = .ok (.iconst (-1), 1) := by decide +kernel
theorem dX1_readNeed_87 : decode cX1_readNeed 87 = .ok (.istore_n 3, 1) := by decide +kernel
theorem dX1_readNeed_88 : decode cX1_readNeed 88 = .ok (.aload_n 0, 1) := by decide +kernel
theorem dX1_readNeed_89 : decode cX1_readNeed 89 = .ok (.getfield 9, 3) := by decide +kernel
theorem dX1_readNeed_92 : decode cX1_readNeed 92 = .ok (.invokevirtual 72, 3) := by decide +kernel
theorem dX1_readNeed_95 : decode cX1_readNeed 95 = .ok (.iload_n 1, 1) := by decide +kernel
theorem dX1_readNeed_96 : decode cX1_readNeed 96 = .ok (.iconst 2, 1) := by decide +kernel
theorem dX1_readNeed_97 : decode cX1_readNeed 97 = .ok (.if_icmp .eq 30, 3) := by decide +kernel
theorem dX1_readNeed_100 : decode cX1_readNeed 100 = .ok (.aload_n 0, 1) := by decide +kernel
theorem dX1_readNeed_101 : decode cX1_readNeed 101 = .ok (.getfield 9, 3) := by decide +kernel
theorem dX1_readNeed_104 : decode cX1_readNeed 104 = .ok (.getfield 37, 3) := by decide +kernel
theorem dX1_readNeed_107 : decode cX1_readNeed 107 = .ok (.sipush 133, 3) := by decide +kernel
theorem dX1_readNeed_110 : decode cX1_readNeed 110 = .ok (.if_icmp .ne 17, 3) := by decide +kernel
theorem dX1_readNeed_127 : decode cX1_readNeed 127 = .ok (.aload_n 0, 1) := by decide +kernel
theorem dX1_readNeed_128 : decode cX1_readNeed 128 = .ok (.bipush 59, 2) := by decide +kernel
theorem dX1_readNeed_130 : decode cX1_readNeed 130 = .ok (.invokevirtual 88, 3) := by decide +kernel
theorem dX1_readNeed_133 : decode cX1_readNeed 133 = .ok (.ifCond .ne 5, 3) := by decide +kernel
theorem dX1_readNeed_138 : decode cX1_readNeed 138 = .ok (.aload_n 0, 1) := by decide +kernel
theorem dX1_readNeed_139 : decode cX1_readNeed 139 = .ok (.getfield 24, 3) := by decide +kernel
theorem dX1_readNeed_142 : decode cX1_readNeed 142 = .ok (.iload_n 1, 1) := by decide +kernel
theorem dX1_readNeed_143 : decode cX1_readNeed 143 = .ok (.iload_n 2, 1) := by decide +kernel
theorem dX1_readNeed_144 : decode cX1_readNeed 144 = .ok (.iload_n 3, 1) := by decide +kernel
theorem dX1_readNeed_145 : decode cX1_readNeed 145 = .ok (.invokevirtual 193, 3) := by decide +kernel
theorem dX1_readNeed_148 : decode cX1_readNeed 148 = .ok (.iconst 1, 1) := by decide +kernel
theorem dX1_readNeed_149 : decode cX1_readNeed 149 = .ok (.ireturn, 1) := by decide +kernel
theorem dX1_readNeed_136 : decode cX1_readNeed 136 = .ok (.iconst 0, 1) := by decide +kernel
theorem dX1_readNeed_137 : decode cX1_readNeed 137 = .ok (.ireturn, 1) := by decide +kernel
theorem dX1_readNeed_113 : decode cX1_readNeed 113 = .ok (.aload_n 0, 1) := by decide +kernel
theorem dX1_readNeed_114 : decode cX1_readNeed 114 = .ok (.invokevirtual 134, 3) := by decide +kernel
theorem dX1_readNeed_117 : decode cX1_readNeed 117 = .ok (.ifCond .ne 5, 3) := by decide +kernel
theorem dX1_readNeed_122 : decode cX1_readNeed 122 = .ok (.aload_n 0, 1) := by decide +kernel
theorem dX1_readNeed_123 : decode cX1_readNeed 123 = .ok (.getfield 137, 3) := by decide +kernel
theorem dX1_readNeed_126 : decode cX1_readNeed 126 = .ok (.istore_n 3, 1) := by decide +kernel
theorem dX1_readNeed_120 : decode cX1_readNeed 120 = .ok (.iconst 0, 1) := by decide +kernel
theorem dX1_readNeed_121 : decode cX1_readNeed 121 = .ok (.ireturn, 1) := by decide +kernel
theorem dX1_readNeed_79 : decode cX1_readNeed 79 = .ok (.iconst 0, 1) := by decide +kernel
theorem dX1_readNeed_80 : decode cX1_readNeed 80 = .ok (.ireturn, 1) := by decide +kernel
theorem dX1_readNeed_55 : decode cX1_readNeed 55 = .ok (.iconst 2, 1) := by decide +kernel
theorem dX1_readNeed_56 : decode cX1_readNeed 56 = .ok (.goto 4, 3) := by decide +kernel
theorem dX1_readNeed_65 : decode cX1_readNeed 65 = .ok (.aload_n 0, 1) := by decide +kernel
theorem dX1_readNeed_66 : decode cX1_readNeed 66 = .ok (.getfield 9, 3) := by decide +kernel
theorem dX1_readNeed_69 : decode cX1_readNeed 69 = .ok (.invokevirtual 72, 3) := by decide +kernel
theorem dX1_readNeed_38 : decode cX1_readNeed 38 = .ok (.iconst 1, 1) := by decide +kernel
theorem dX1_readNeed_39 : decode cX1_readNeed 39 = .ok (.goto 21, 3) := by decide +kernel
theorem dX1_readNeed_12 : decode cX1_readNeed 12 = .ok (.aload_n 0, 1) := by decide +kernel
theorem dX1_readNeed_13 : decode cX1_readNeed 13 = .ok (.iconst 5, 1) := by decide +kernel
theorem dX1_readNeed_14 : decode cX1_readNeed 14 = .ok (.invokevirtual 47, 3) := by decide +kernel
theorem dX1_readNeed_17 : decode cX1_readNeed 17 = .ok (.ireturn, 1) := by decide +kernel
theorem dX1_readMember_0 : decode cX1_readMember 0 = .ok (.aload_n 0, 1) := by decide +kernel
theorem dX1_readMember_1 : decode cX1_readMember 1 = .ok (.getfield 15, 3) := by decide +kernel
theorem dX1_readMember_4 : decode cX1_readMember 4 = .ok (.getfield 168, 3) := by decide +kernel
theorem dX1_readMember_7 : decode cX1_readMember 7 = .ok (.istore_n 1, 1) := by decide +kernel
theorem dX1_readMember_8 : decode cX1_readMember 8 = .ok (.aload_n 0, 1) := by decide +kernel
theorem dX1_readMember_9 : decode cX1_readMember 9 = .ok (.getfield 9, 3) := by decide +kernel
theorem dX1_readMember_12 : decode cX1_readMember 12 = .ok (.getfield 37, 3) := by decide +kernel
theorem dX1_readMember_15 : decode cX1_readMember 15 = .ok (.lookupswitch 149 #[(125, 49), (137, 63), (140, 68), (141, 106), (142, 144)], 49) := by decide +kernel
theorem dX1_readMember_64 : decode cX1_readMember 64 = .ok (.aload_n 0, 1) := by decide +kernel
theorem dX1_readMember_65 : decode cX1_readMember 65 = .ok (.aconst_null, 1) := by decide +kernel
theorem dX1_readMember_66 : decode cX1_readMember 66 = .ok (.putfield 24, 3) := by decide +kernel
theorem dX1_readMember_69 : decode cX1_readMember 69 = .ok (.aload_n 0, 1) := by decide +kernel
theorem dX1_readMember_70 : decode cX1_readMember 70 = .ok (.getfield 9, 3) := by decide +kernel
theorem dX1_readMember_73 : decode cX1_readMember 73 = .ok (.invokevirtual 72, 3) := by decide +kernel
theorem dX1_readMember_76 : decode cX1_readMember 76 = .ok (.iconst 1, 1) := by decide +kernel
theorem dX1_readMember_77 : decode cX1_readMember 77 = .ok (.ireturn, 1) := by decide +kernel
theorem dX1_readMember_78 : decode cX1_readMember 78 = .ok (.aload_n 0, 1) := by decide +kernel
theorem dX1_readMember_79 : decode cX1_readMember 79 = .ok (.invokevirtual 178, 3) := by decide +kernel
theorem dX1_readMember_82 : decode cX1_readMember 82 = .ok (.ireturn, 1) := by decide +kernel
theorem dX1_readMember_83 : decode cX1_readMember 83 = .ok (.aload_n 0, 1) := by decide +kernel
theorem dX1_readMember_84 : decode cX1_readMember 84 = .ok (.getfield 24, 3) := by decide +kernel
theorem dX1_readMember_87 : decode cX1_readMember 87 = .ok (.getfield 181, 3) := by decide +kernel
theorem dX1_readMember_90 : decode cX1_readMember 90 = .ok (.iconst (-1), 1) := by decide +kernel
theorem dX1_readMember_91 : decode cX1_readMember 91 = .ok (.if_icmp .eq 9, 3) := by decide +kernel
theorem dX1_readMember_100 : decode cX1_readMember 100 = .ok (.aload_n 0, 1) := by decide +kernel
theorem dX1_readMember_101 : decode cX1_readMember 101 = .ok (.getfield 24, 3) := by decide +kernel
theorem dX1_readMember_104 : decode cX1_readMember 104 = .ok (.iload_n 1, 1) := by decide +kernel
theorem dX1_readMember_105 : decode cX1_readMember 105 = .ok (.putfield 181, 3) := by decide +kernel
theorem dX1_readMember_108 : decode cX1_readMember 108 = .ok (.aload_n 0, 1) := by decide +kernel
theorem dX1_readMember_109 : decode cX1_readMember 109 = .ok (.getfield 9, 3) := by decide +kernel
theorem dX1_readMember_112 : decode cX1_readMember 112 = .ok (.invokevirtual 72, 3) := by decide +kernel
theorem dX1_readMember_115 : decode cX1_readMember 115 = .ok (.aload_n 0, 1) := by decide +kernel
theorem dX1_readMember_116 : decode cX1_readMember 116 = .ok (.iconst 0, 1) := by decide +kernel
theorem dX1_readMember_117 : decode cX1_readMember 117 = .ok (.invokevirtual 171, 3) := by decide +kernel
theorem dX1_readMember_120 : decode cX1_readMember 120 = .ok (.ireturn, 1) := by decide +kernel
theorem dX1_readMember_94 : decode cX1_readMember 94 = .ok (.aload_n 0, 1) := by decide +kernel
theorem dX1_readMember_95 : decode cX1_readMember 95 = .ok (.iconst 1, 1) := by decide +kernel
theorem dX1_readMember_96 : decode cX1_readMember 96 = .ok (.invokevirtual 47, 3) := by decide +kernel
theorem dX1_readMember_99 : decode cX1_readMember 99 = .ok (.ireturn, 1) := by decide +kernel
theorem dX1_readMember_121 : decode cX1_readMember 121 = .ok (.aload_n 0, 1) := by decide +kernel
theorem dX1_readMember_122 : decode cX1_readMember 122 = .ok (.getfield 24, 3) := by decide +kernel
theorem dX1_readMember_125 : decode cX1_readMember 125 = .ok (.getfield 184, 3) := by decide +kernel
theorem dX1_readMember_128 : decode cX1_readMember 128 = .ok (.iconst (-1), 1) := by decide +kernel
theorem dX1_readMember_129 : decode cX1_readMember 129 = .ok (.if_icmp .eq 9, 3) := by decide +kernel
theorem dX1_readMember_138 : decode cX1_readMember 138 = .ok (.aload_n 0, 1) := by decide +kernel
theorem dX1_readMember_139 : decode cX1_readMember 139 = .ok (.getfield 24, 3) := by decide +kernel
theorem dX1_readMember_142 : decode cX1_readMember 142 = .ok (.iload_n 1, 1) := by decide +kernel
theorem dX1_readMember_143 : decode cX1_readMember 143 = .ok (.putfield 184, 3) := by decide +kernel
theorem dX1_readMember_146 : decode cX1_readMember 146 = .ok (.aload_n 0, 1) := by decide +kernel
theorem dX1_readMember_147 : decode cX1_readMember 147 = .ok (.getfield 9, 3) := by decide +kernel
theorem dX1_readMember_150 : decode cX1_readMember 150 = .ok (.invokevirtual 72, 3) := by decide +kernel
theorem dX1_readMember_153 : decode cX1_readMember 153 = .ok (.aload_n 0, 1) := by decide +kernel
theorem dX1_readMember_154 : decode cX1_readMember 154 = .ok (.iconst 0, 1) := by decide +kernel
theorem dX1_readMember_155 : decode cX1_readMember 155 = .ok (.invokevirtual 171, 3) := by decide +kernel
theorem dX1_readMember_158 : decode cX1_readMember 158 = .ok (.ireturn, 1) := by decide +kernel
theorem dX1_readMember_132 : decode cX1_readMember 132 = .ok (.aload_n 0, 1) := by decide +kernel
theorem dX1_readMember_133 : decode cX1_readMember 133 = .ok (.iconst 1, 1) := by decide +kernel
theorem dX1_readMember_134 : decode cX1_readMember 134 = .ok (.invokevirtual 47, 3) := by decide +kernel
theorem dX1_readMember_137 : decode cX1_readMember 137 = .ok (.ireturn, 1) := by decide +kernel
theorem dX1_readMember_159 : decode cX1_readMember 159 = .ok (.aload_n 0, 1) := by decide +kernel
theorem dX1_readMember_160 : decode cX1_readMember 160 = .ok (.invokevirtual 187, 3) := by decide +kernel
theorem dX1_readMember_163 : decode cX1_readMember 163 = .ok (.ireturn, 1) := by decide +kernel
theorem dX1_readMember_164 : decode cX1_readMember 164 = .ok (.aload_n 0, 1) := by decide +kernel
theorem dX1_readMember_165 : decode cX1_readMember 165 = .ok (.iconst 1, 1) := by decide +kernel
theorem dX1_readMember_166 : decode cX1_readMember 166 = .ok (.invokevirtual 47, 3) := by decide +kernel
theorem dX1_readMember_169 : decode cX1_readMember 169 = .ok (.ireturn, 1) := by decide +kernel
theorem dX1_readWrap_0 : decode cX1_readWrap 0 = .ok (.aload_n 0, 1) := by decide +kernel
theorem dX1_readWrap_1 : decode cX1_readWrap 1 = .ok (.getfield 15, 3) := by decide +kernel
theorem dX1_readWrap_4 : decode cX1_readWrap 4 = .ok (.getfield 155, 3) := by decide +kernel
theorem dX1_readWrap_7 : decode cX1_readWrap 7 = .ok (.bipush 12, 2) := by decide +kernel
theorem dX1_readWrap_9 : decode cX1_readWrap 9 = .ok (.if_icmp .lt 9, 3) := by decide +kernel
theorem dX1_readWrap_18 : decode cX1_readWrap 18 = .ok (.aload_n 0, 1) := by decide +kernel
theorem dX1_readWrap_19 : decode cX1_readWrap 19 = .ok (.getfield 9, 3) := by decide +kernel
theorem dX1_readWrap_22 : decode cX1_readWrap 22 = .ok (.invokevirtual 72, 3) := by decide +kernel
theorem dX1_readWrap_25 : decode cX1_readWrap 25 = .ok (.aload_n 0, 1) := by decide +kernel
theorem dX1_readWrap_26 : decode cX1_readWrap 26 = .ok (.invokevirtual 158, 3) := by decide +kernel
theorem dX1_readWrap_29 : decode cX1_readWrap 29 = .ok (.ifCond .ne 5, 3) := by decide +kernel
theorem dX1_readWrap_34 : decode cX1_readWrap 34 = .ok (.aload_n 0, 1) := by decide +kernel
theorem dX1_readWrap_35 : decode cX1_readWrap 35 = .ok (.getfield 137, 3) := by decide +kernel
theorem dX1_readWrap_38 : decode cX1_readWrap 38 = .ok (.istore_n 1, 1) := by decide +kernel
theorem dX1_readWrap_39 : decode cX1_readWrap 39 = .ok (.aload_n 0, 1) := by decide +kernel
theorem dX1_readWrap_40 : decode cX1_readWrap 40 = .ok (.getfield 9, 3) := by decide +kernel
theorem dX1_readWrap_43 : decode cX1_readWrap 43 = .ok (.invokevirtual 72, 3) := by decide +kernel
theorem dX1_readWrap_46 : decode cX1_readWrap 46 = .ok (.aload_n 0, 1) := by decide +kernel
theorem dX1_readWrap_47 : decode cX1_readWrap 47 = .ok (.bipush 46, 2) := by decide +kernel
theorem dX1_readWrap_49 : decode cX1_readWrap 49 = .ok (.invokevirtual 88, 3) := by decide +kernel
theorem dX1_readWrap_52 : decode cX1_readWrap 52 = .ok (.ifCond .eq 11, 3) := by decide +kernel
theorem dX1_readWrap_63 : decode cX1_readWrap 63 = .ok (.iconst 0, 1) := by decide +kernel
theorem dX1_readWrap_64 : decode cX1_readWrap 64 = .ok (.ireturn, 1) := by decide +kernel
theorem dX1_readWrap_55 : decode cX1_readWrap 55 = .ok (.aload_n 0, 1) := by decide +kernel
theorem dX1_readWrap_56 : decode cX1_readWrap 56 = .ok (.aconst_null, 1) := by decide +kernel
theorem dX1_readWrap_57 : decode cX1_readWrap 57 = .ok (.invokevirtual 161, 3) := by decide +kernel
theorem dX1_readWrap_60 : decode cX1_readWrap 60 = .ok (.ifCond .ne 5, 3) := by decide +kernel
theorem dX1_readWrap_65 : decode cX1_readWrap 65 = .ok (.aload_n 0, 1) := by decide +kernel
theorem dX1_readWrap_66 : decode cX1_readWrap 66 = .ok (.getfield 137, 3) := by decide +kernel
theorem dX1_readWrap_69 : decode cX1_readWrap 69 = .ok (.istore_n 2, 1) := by decide +kernel
theorem dX1_readWrap_70 : decode cX1_readWrap 70 = .ok (.aload_n 0, 1) := by decide +kernel
theorem dX1_readWrap_71 : decode cX1_readWrap 71 = .ok (.iconst 0, 1) := by decide +kernel
theorem dX1_readWrap_72 : decode cX1_readWrap 72 = .ok (.bipush 99, 2) := by decide +kernel
theorem dX1_readWrap_74 : decode cX1_readWrap 74 = .ok (.invokevirtual 103, 3) := by decide +kernel
theorem dX1_readWrap_77 : decode cX1_readWrap 77 = .ok (.ifCond .ne 5, 3) := by decide +kernel
theorem dX1_readWrap_82 : decode cX1_readWrap 82 = .ok (.aload_n 0, 1) := by decide +kernel
theorem dX1_readWrap_83 : decode cX1_readWrap 83 = .ok (.getfield 110, 3) := by decide +kernel
theorem dX1_readWrap_86 : decode cX1_readWrap 86 = .ok (.istore_n 3, 1) := by decide +kernel
theorem dX1_readWrap_87 : decode cX1_readWrap 87 = .ok (.aload_n 0, 1) := by decide +kernel
theorem dX1_readWrap_88 : decode cX1_readWrap 88 = .ok (.getfield 9, 3) := by decide +kernel
theorem dX1_readWrap_91 : decode cX1_readWrap 91 = .ok (.getfield 37, 3) := by decide +kernel
theorem dX1_readWrap_94 : decode cX1_readWrap 94 = .ok (.sipush 152, 3) := by decide +kernel
theorem dX1_readWrap_97 : decode cX1_readWrap 97 = .ok (.if_icmp .lt 16, 3) := by decide +kernel
theorem dX1_readWrap_113 : decode cX1_readWrap 113 = .ok (.aload_n 0, 1) := by decide +kernel
theorem dX1_readWrap_114 : decode cX1_readWrap 114 = .ok (.iconst 1, 1) := by decide +kernel
theorem dX1_readWrap_115 : decode cX1_readWrap 115 = .ok (.invokevirtual 47, 3) := by decide +kernel
theorem dX1_readWrap_118 : decode cX1_readWrap 118 = .ok (.ireturn, 1) := by decide +kernel
theorem dX1_readWrap_100 : decode cX1_readWrap 100 = .ok (.aload_n 0, 1) := by decide +kernel
theorem dX1_readWrap_101 : decode cX1_readWrap 101 = .ok (.getfield 9, 3) := by decide +kernel
theorem dX1_readWrap_104 : decode cX1_readWrap 104 = .ok (.getfield 37, 3) := by decide +kernel
theorem dX1_readWrap_107 : decode cX1_readWrap 107 = .ok (.sipush 155, 3) := by decide +kernel
theorem dX1_readWrap_110 : decode cX1_readWrap 110 = .ok (.if_icmp .le 9, 3) := by decide +kernel
theorem dX1_readWrap_119 : decode cX1_readWrap 119 = .ok (.aload_n 0, 1) := by decide +kernel
theorem dX1_readWrap_120 : decode cX1_readWrap 120 = .ok (.getfield 9, 3) := by decide +kernel
theorem dX1_readWrap_123 : decode cX1_readWrap 123 = .ok (.getfield 37, 3) := by decide +kernel
theorem dX1_readWrap_126 : decode cX1_readWrap 126 = .ok (.sipush 152, 3) := by decide +kernel
theorem dX1_readWrap_129 : decode cX1_readWrap 129 = .ok (.isub, 1) := by decide +kernel
theorem dX1_readWrap_130 : decode cX1_readWrap 130 = .ok (.istore 4, 2) := by decide +kernel
theorem dX1_readWrap_132 : decode cX1_readWrap 132 = .ok (.iload 4, 2) := by decide +kernel
theorem dX1_readWrap_134 : decode cX1_readWrap 134 = .ok (.iconst 1, 1) := by decide +kernel
theorem dX1_readWrap_135 : decode cX1_readWrap 135 = .ok (.if_icmp .ne 21, 3) := by decide +kernel
theorem dX1_readWrap_156 : decode cX1_readWrap 156 = .ok (.aload_n 0, 1) := by decide +kernel
theorem dX1_readWrap_157 : decode cX1_readWrap 157 = .ok (.getfield 15, 3) := by decide +kernel
theorem dX1_readWrap_160 : decode cX1_readWrap 160 = .ok (.getfield 168, 3) := by decide +kernel
theorem dX1_readWrap_163 : decode cX1_readWrap 163 = .ok (.istore 5, 2) := by decide +kernel
theorem dX1_readWrap_165 : decode cX1_readWrap 165 = .ok (.aload_n 0, 1) := by decide +kernel
theorem dX1_readWrap_166 : decode cX1_readWrap 166 = .ok (.getfield 9, 3) := by decide +kernel
theorem dX1_readWrap_169 : decode cX1_readWrap 169 = .ok (.invokevirtual 72, 3) := by decide +kernel
theorem dX1_readWrap_172 : decode cX1_readWrap 172 = .ok (.aload_n 0, 1) := by decide +kernel
theorem dX1_readWrap_173 : decode cX1_readWrap 173 = .ok (.iload 4, 2) := by decide +kernel
theorem dX1_readWrap_175 : decode cX1_readWrap 175 = .ok (.iconst 1, 1) := by decide +kernel
theorem dX1_readWrap_176 : decode cX1_readWrap 176 = .ok (.if_icmp .ne 7, 3) := by decide +kernel
theorem dX1_readWrap_183 : decode cX1_readWrap 183 = .ok (.iconst 1, 1) := by decide +kernel
theorem dX1_readWrap_184 : decode cX1_readWrap 184 = .ok (.invokevirtual 171, 3) := by decide +kernel
theorem dX1_readWrap_187 : decode cX1_readWrap 187 = .ok (.ifCond .ne 5, 3) := by decide +kernel
theorem dX1_readWrap_192 : decode cX1_readWrap 192 = .ok (.aload_n 0, 1) := by decide +kernel
theorem dX1_readWrap_193 : decode cX1_readWrap 193 = .ok (.getfield 15, 3) := by decide +kernel
theorem dX1_readWrap_196 : decode cX1_readWrap 196 = .ok (.iload_n 1, 1) := by decide +kernel
theorem dX1_readWrap_197 : decode cX1_readWrap 197 = .ok (.iload_n 2, 1) := by decide +kernel
theorem dX1_readWrap_198 : decode cX1_readWrap 198 = .ok (.iload_n 3, 1) := by decide +kernel
theorem dX1_readWrap_199 : decode cX1_readWrap 199 = .ok (.iload 4, 2) := by decide +kernel
theorem dX1_readWrap_201 : decode cX1_readWrap 201 = .ok (.iload 5, 2) := by decide +kernel
theorem dX1_readWrap_203 : decode cX1_readWrap 203 = .ok (.invokevirtual 174, 3) := by decide +kernel
theorem dX1_readWrap_206 : decode cX1_readWrap 206 = .ok (.iconst 1, 1) := by decide +kernel
theorem dX1_readWrap_207 : decode cX1_readWrap 207 = .ok (.ireturn, 1) := by decide +kernel
theorem dX1_readWrap_190 : decode cX1_readWrap 190 = .ok (.iconst 0, 1) := by decide +kernel
theorem dX1_readWrap_191 : decode cX1_readWrap 191 = .ok (.ireturn, 1) := by decide +kernel
theorem dX1_readWrap_179 : decode cX1_readWrap 179 = .ok (.iconst 2, 1) := by decide +kernel
theorem dX1_readWrap_180 : decode cX1_readWrap 180 = .ok (.goto 4, 3) := by decide +kernel
theorem dX1_readWrap_138 : decode cX1_readWrap 138 = .ok (.aload_n 0, 1) := by decide +kernel
theorem dX1_readWrap_139 : decode cX1_readWrap 139 = .ok (.getfield 15, 3) := by decide +kernel
theorem dX1_readWrap_142 : decode cX1_readWrap 142 = .ok (.iload_n 2, 1) := by decide +kernel
theorem dX1_readWrap_143 : decode cX1_readWrap 143 = .ok (.invokevirtual 164, 3) := by decide +kernel
theorem dX1_readWrap_146 : decode cX1_readWrap 146 = .ok (.iconst 2, 1) := by decide +kernel
theorem dX1_readWrap_147 : decode cX1_readWrap 147 = .ok (.if_icmp .lt 9, 3) := by decide +kernel
theorem dX1_readWrap_150 : decode cX1_readWrap 150 = .ok (.aload_n 0, 1) := by decide +kernel
theorem dX1_readWrap_151 : decode cX1_readWrap 151 = .ok (.iconst 5, 1) := by decide +kernel
theorem dX1_readWrap_152 : decode cX1_readWrap 152 = .ok (.invokevirtual 47, 3) := by decide +kernel
theorem dX1_readWrap_155 : decode cX1_readWrap 155 = .ok (.ireturn, 1) := by decide +kernel
theorem dX1_readWrap_80 : decode cX1_readWrap 80 = .ok (.iconst 0, 1) := by decide +kernel
theorem dX1_readWrap_81 : decode cX1_readWrap 81 = .ok (.ireturn, 1) := by decide +kernel
theorem dX1_readWrap_32 : decode cX1_readWrap 32 = .ok (.iconst 0, 1) := by decide +kernel
theorem dX1_readWrap_33 : decode cX1_readWrap 33 = .ok (.ireturn, 1) := by decide +kernel
theorem dX1_readWrap_12 : decode cX1_readWrap 12 = .ok (.aload_n 0, 1) := by decide +kernel
theorem dX1_readWrap_13 : decode cX1_readWrap 13 = .ok (.iconst 5, 1) := by decide +kernel
theorem dX1_readWrap_14 : decode cX1_readWrap 14 = .ok (.invokevirtual 47, 3) := by decide +kernel
theorem dX1_readWrap_17 : decode cX1_readWrap 17 = .ok (.ireturn, 1) := by decide +kernel
theorem dX1_readExtras_0 : decode cX1_readExtras 0 = .ok (.aload_n 0, 1) := by decide +kernel
theorem dX1_readExtras_1 : decode cX1_readExtras 1 = .ok (.getfield 9, 3) := by decide +kernel
theorem dX1_readExtras_4 : decode cX1_readExtras 4 = .ok (.getfield 37, 3) := by decide +kernel
theorem dX1_readExtras_7 : decode cX1_readExtras 7 = .ok (.sipush 133, 3) := by decide +kernel
theorem dX1_readExtras_10 : decode cX1_readExtras 10 = .ok (.if_icmp .ne 20, 3) := by decide +kernel
theorem dX1_readExtras_30 : decode cX1_readExtras 30 = .ok (.aload_n 0, 1) := by decide +kernel
theorem dX1_readExtras_31 : decode cX1_readExtras 31 = .ok (.getfield 9, 3) := by decide +kernel
theorem dX1_readExtras_34 : decode cX1_readExtras 34 = .ok (.getfield 37, 3) := by decide +kernel
theorem dX1_readExtras_37 : decode cX1_readExtras 37 = .ok (.sipush 134, 3) := by decide +kernel
theorem dX1_readExtras_40 : decode cX1_readExtras 40 = .ok (.if_icmp .ne 30, 3) := by decide +kernel
theorem dX1_readExtras_70 : decode cX1_readExtras 70 = .ok (.aload_n 0, 1) := by decide +kernel
theorem dX1_readExtras_71 : decode cX1_readExtras 71 = .ok (.getfield 9, 3) := by decide +kernel
theorem dX1_readExtras_74 : decode cX1_readExtras 74 = .ok (.getfield 37, 3) := by decide +kernel
theorem dX1_readExtras_77 : decode cX1_readExtras 77 = .ok (.sipush 135, 3) := by decide +kernel
theorem dX1_readExtras_80 : decode cX1_readExtras 80 = .ok (.if_icmp .ne 47, 3) := by decide +kernel
theorem dX1_readExtras_127 : decode cX1_readExtras 127 = .ok (.iconst 1, 1) := by decide +kernel
theorem dX1_readExtras_128 : decode cX1_readExtras 128 = .ok (.ireturn, 1) := by decide +kernel
theorem dX1_readExtras_83 : decode cX1_readExtras 83 = .ok (.aload_n 0, 1) := by decide +kernel
theorem dX1_readExtras_84 : decode cX1_readExtras 84 = .ok (.getfield 9, 3) := by decide +kernel
theorem dX1_readExtras_87 : decode cX1_readExtras 87 = .ok (.invokevirtual 72, 3) := by decide +kernel
theorem dX1_readExtras_90 : decode cX1_readExtras 90 = .ok (.aload_n 0, 1) := by decide +kernel
theorem dX1_readExtras_91 : decode cX1_readExtras 91 = .ok (.invokevirtual 146, 3) := by decide +kernel
theorem dX1_readExtras_94 : decode cX1_readExtras 94 = .ok (.ifCond .ne 5, 3) := by decide +kernel
theorem dX1_readExtras_99 : decode cX1_readExtras 99 = .ok (.aload_n 1, 1) := by decide +kernel
theorem dX1_readExtras_100 : decode cX1_readExtras 100 = .ok (.aload_n 0, 1) := by decide +kernel
theorem dX1_readExtras_101 : decode cX1_readExtras 101 = .ok (.getfield 137, 3) := by decide +kernel
theorem dX1_readExtras_104 : decode cX1_readExtras 104 = .ok (.putfield 149, 3) := by decide +kernel
theorem dX1_readExtras_107 : decode cX1_readExtras 107 = .ok (.aload_n 0, 1) := by decide +kernel
theorem dX1_readExtras_108 : decode cX1_readExtras 108 = .ok (.iconst 0, 1) := by decide +kernel
theorem dX1_readExtras_109 : decode cX1_readExtras 109 = .ok (.ldc 102, 2) := by decide +kernel
theorem dX1_readExtras_111 : decode cX1_readExtras 111 = .ok (.invokevirtual 103, 3) := by decide +kernel
theorem dX1_readExtras_114 : decode cX1_readExtras 114 = .ok (.ifCond .ne 5, 3) := by decide +kernel
theorem dX1_readExtras_119 : decode cX1_readExtras 119 = .ok (.aload_n 1, 1) := by decide +kernel
theorem dX1_readExtras_120 : decode cX1_readExtras 120 = .ok (.aload_n 0, 1) := by decide +kernel
theorem dX1_readExtras_121 : decode cX1_readExtras 121 = .ok (.getfield 110, 3) := by decide +kernel
theorem dX1_readExtras_124 : decode cX1_readExtras 124 = .ok (.putfield 152, 3) := by decide +kernel
theorem dX1_readExtras_117 : decode cX1_readExtras 117 = .ok (.iconst 0, 1) := by decide +kernel
theorem dX1_readExtras_118 : decode cX1_readExtras 118 = .ok (.ireturn, 1) := by decide +kernel
theorem dX1_readExtras_97 : decode cX1_readExtras 97 = .ok (.iconst 0, 1) := by decide +kernel
theorem dX1_readExtras_98 : decode cX1_readExtras 98 = .ok (.ireturn, 1) := by decide +kernel
theorem dX1_readExtras_43 : decode cX1_readExtras 43 = .ok (.aload_n 0, 1) := by decide +kernel
theorem dX1_readExtras_44 : decode cX1_readExtras 44 = .ok (.getfield 9, 3) := by decide +kernel
theorem dX1_readExtras_47 : decode cX1_readExtras 47 = .ok (.invokevirtual 72, 3) := by decide +kernel
theorem dX1_readExtras_50 : decode cX1_readExtras 50 = .ok (.aload_n 0, 1) := by decide +kernel
theorem dX1_readExtras_51 : decode cX1_readExtras 51 = .ok (.iconst 0, 1) := by decide +kernel
theorem dX1_readExtras_52 : decode cX1_readExtras 52 = .ok (.bipush 9, 2) := by decide +kernel
theorem dX1_readExtras_54 : decode cX1_readExtras 54 = .ok (.invokevirtual 103, 3) := by decide +kernel
theorem dX1_readExtras_57 : decode cX1_readExtras 57 = .ok (.ifCond .ne 5, 3) := by decide +kernel
theorem dX1_readExtras_62 : decode cX1_readExtras 62 = .ok (.aload_n 1, 1) := by decide +kernel
theorem dX1_readExtras_63 : decode cX1_readExtras 63 = .ok (.aload_n 0, 1) := by decide +kernel
theorem dX1_readExtras_64 : decode cX1_readExtras 64 = .ok (.getfield 110, 3) := by decide +kernel
theorem dX1_readExtras_67 : decode cX1_readExtras 67 = .ok (.putfield 143, 3) := by decide +kernel
theorem dX1_readExtras_60 : decode cX1_readExtras 60 = .ok (.iconst 0, 1) := by decide +kernel
theorem dX1_readExtras_61 : decode cX1_readExtras 61 = .ok (.ireturn, 1) := by decide +kernel
theorem dX1_readExtras_13 : decode cX1_readExtras 13 = .ok (.aload_n 0, 1) := by decide +kernel
theorem dX1_readExtras_14 : decode cX1_readExtras 14 = .ok (.invokevirtual 134, 3) := by decide +kernel
theorem dX1_readExtras_17 : decode cX1_readExtras 17 = .ok (.ifCond .ne 5, 3) := by decide +kernel
theorem dX1_readExtras_22 : decode cX1_readExtras 22 = .ok (.aload_n 1, 1) := by decide +kernel
theorem dX1_readExtras_23 : decode cX1_readExtras 23 = .ok (.aload_n 0, 1) := by decide +kernel
theorem dX1_readExtras_24 : decode cX1_readExtras 24 = .ok (.getfield 137, 3) := by decide +kernel
theorem dX1_readExtras_27 : decode cX1_readExtras 27 = .ok (.putfield 140, 3) := by decide +kernel
theorem dX1_readExtras_20 : decode cX1_readExtras 20 = .ok (.iconst 0, 1) := by decide +kernel
theorem dX1_readExtras_21 : decode cX1_readExtras 21 = .ok (.ireturn, 1) := by decide +kernel
theorem dX1_readSetting_0 : decode cX1_readSetting 0 = .ok (.aload_n 0, 1) := by decide +kernel
theorem dX1_readSetting_1 : decode cX1_readSetting 1 = .ok (.getfield 15, 3) := by decide +kernel
theorem dX1_readSetting_4 : decode cX1_readSetting 4 = .ok (.getfield 99, 3) := by decide +kernel
theorem dX1_readSetting_7 : decode cX1_readSetting 7 = .ok (.invokevirtual 67, 3) := by decide +kernel
theorem dX1_readSetting_10 : decode cX1_readSetting 10 = .ok (.ifCond .eq 9, 3) := by decide +kernel
theorem dX1_readSetting_19 : decode cX1_readSetting 19 = .ok (.aload_n 0, 1) := by decide +kernel
theorem dX1_readSetting_20 : decode cX1_readSetting 20 = .ok (.getfield 9, 3) := by decide +kernel
theorem dX1_readSetting_23 : decode cX1_readSetting 23 = .ok (.invokevirtual 72, 3) := by decide +kernel
theorem dX1_readSetting_26 : decode cX1_readSetting 26 = .ok (.aload_n 0, 1) := by decide +kernel
theorem dX1_readSetting_27 : decode cX1_readSetting 27 = .ok (.invokevirtual 75, 3) := by decide +kernel
theorem dX1_readSetting_30 : decode cX1_readSetting 30 = .ok (.ifCond .ne 5, 3) := by decide +kernel
theorem dX1_readSetting_35 : decode cX1_readSetting 35 = .ok (.aload_n 0, 1) := by decide +kernel
theorem dX1_readSetting_36 : decode cX1_readSetting 36 = .ok (.getfield 78, 3) := by decide +kernel
theorem dX1_readSetting_39 : decode cX1_readSetting 39 = .ok (.lstore_n 1, 1) := by decide +kernel
theorem dX1_readSetting_40 : decode cX1_readSetting 40 = .ok (.aload_n 0, 1) := by decide +kernel
theorem dX1_readSetting_41 : decode cX1_readSetting 41 = .ok (.iconst 0, 1) := by decide +kernel
theorem dX1_readSetting_42 : decode cX1_readSetting 42 = .ok (.ldc 102, 2) := by decide +kernel
theorem dX1_readSetting_44 : decode cX1_readSetting 44 = .ok (.invokevirtual 103, 3) := by decide +kernel
theorem dX1_readSetting_47 : decode cX1_readSetting 47 = .ok (.ifCond .eq 12, 3) := by decide +kernel
theorem dX1_readSetting_59 : decode cX1_readSetting 59 = .ok (.iconst 0, 1) := by decide +kernel
theorem dX1_readSetting_60 : decode cX1_readSetting 60 = .ok (.ireturn, 1) := by decide +kernel
theorem dX1_readSetting_50 : decode cX1_readSetting 50 = .ok (.aload_n 0, 1) := by decide +kernel
theorem dX1_readSetting_51 : decode cX1_readSetting 51 = .ok (.bipush 59, 2) := by decide +kernel
theorem dX1_readSetting_53 : decode cX1_readSetting 53 = .ok (.invokevirtual 88, 3) := by decide +kernel
theorem dX1_readSetting_56 : decode cX1_readSetting 56 = .ok (.ifCond .ne 5, 3) := by decide +kernel
theorem dX1_readSetting_61 : decode cX1_readSetting 61 = .ok (.aload_n 0, 1) := by decide +kernel
theorem dX1_readSetting_62 : decode cX1_readSetting 62 = .ok (.getfield 15, 3) := by decide +kernel
theorem dX1_readSetting_65 : decode cX1_readSetting 65 = .ok (.getfield 99, 3) := by decide +kernel
theorem dX1_readSetting_68 : decode cX1_readSetting 68 = .ok (.lload_n 1, 1) := by decide +kernel
theorem dX1_readSetting_69 : decode cX1_readSetting 69 = .ok (.invokevirtual 91, 3) := by decide +kernel
theorem dX1_readSetting_72 : decode cX1_readSetting 72 = .ok (.istore_n 3, 1) := by decide +kernel
theorem dX1_readSetting_73 : decode cX1_readSetting 73 = .ok (.iload_n 3, 1) := by decide +kernel
theorem dX1_readSetting_74 : decode cX1_readSetting 74 = .ok (.iconst (-1), 1) := by decide +kernel
theorem dX1_readSetting_75 : decode cX1_readSetting 75 = .ok (.if_icmp .eq 16, 3) := by decide +kernel
theorem dX1_readSetting_91 : decode cX1_readSetting 91 = .ok (.iconst 1, 1) := by decide +kernel
theorem dX1_readSetting_92 : decode cX1_readSetting 92 = .ok (.ireturn, 1) := by decide +kernel
theorem dX1_readSetting_78 : decode cX1_readSetting 78 = .ok (.aload_n 0, 1) := by decide +kernel
theorem dX1_readSetting_79 : decode cX1_readSetting 79 = .ok (.getfield 15, 3) := by decide +kernel
theorem dX1_readSetting_82 : decode cX1_readSetting 82 = .ok (.getfield 107, 3) := by decide +kernel
theorem dX1_readSetting_85 : decode cX1_readSetting 85 = .ok (.iload_n 3, 1) := by decide +kernel
theorem dX1_readSetting_86 : decode cX1_readSetting 86 = .ok (.aload_n 0, 1) := by decide +kernel
theorem dX1_readSetting_87 : decode cX1_readSetting 87 = .ok (.getfield 110, 3) := by decide +kernel
theorem dX1_readSetting_90 : decode cX1_readSetting 90 = .ok (.iastore, 1) := by decide +kernel
theorem dX1_readSetting_33 : decode cX1_readSetting 33 = .ok (.iconst 0, 1) := by decide +kernel
theorem dX1_readSetting_34 : decode cX1_readSetting 34 = .ok (.ireturn, 1) := by decide +kernel
theorem dX1_readSetting_13 : decode cX1_readSetting 13 = .ok (.aload_n 0, 1) := by decide +kernel
theorem dX1_readSetting_14 : decode cX1_readSetting 14 = .ok (.iconst 5, 1) := by decide +kernel
theorem dX1_readSetting_15 : decode cX1_readSetting 15 = .ok (.invokevirtual 47, 3) := by decide +kernel
theorem dX1_readSetting_18 : decode cX1_readSetting 18 = .ok (.ireturn, 1) := by decide +kernel
theorem dX1_readType_0 : decode cX1_readType 0 = .ok (.aload_n 0, 1) := by decide +kernel
theorem dX1_readType_1 : decode cX1_readType 1 = .ok (.getfield 15, 3) := by decide +kernel
theorem dX1_readType_4 : decode cX1_readType 4 = .ok (.getfield 63, 3) := by decide +kernel
theorem dX1_readType_7 : decode cX1_readType 7 = .ok (.invokevirtual 67, 3) := by decide +kernel
theorem dX1_readType_10 : decode cX1_readType 10 = .ok (.ifCond .eq 9, 3) := by decide +kernel
theorem dX1_readType_19 : decode cX1_readType 19 = .ok (.aload_n 0, 1) := by decide +kernel
theorem dX1_readType_20 : decode cX1_readType 20 = .ok (.getfield 9, 3) := by decide +kernel
theorem dX1_readType_23 : decode cX1_readType 23 = .ok (.invokevirtual 72, 3) := by decide +kernel
theorem dX1_readType_26 : decode cX1_readType 26 = .ok (.aload_n 0, 1) := by decide +kernel
theorem dX1_readType_27 : decode cX1_readType 27 = .ok (.invokevirtual 75, 3) := by decide +kernel
theorem dX1_readType_30 : decode cX1_readType 30 = .ok (.ifCond .ne 5, 3) := by decide +kernel
theorem dX1_readType_35 : decode cX1_readType 35 = .ok (.aload_n 0, 1) := by decide +kernel
theorem dX1_readType_36 : decode cX1_readType 36 = .ok (.getfield 78, 3) := by decide +kernel
theorem dX1_readType_39 : decode cX1_readType 39 = .ok (.lstore_n 1, 1) := by decide +kernel
theorem dX1_readType_40 : decode cX1_readType 40 = .ok (.aload_n 0, 1) := by decide +kernel
theorem dX1_readType_41 : decode cX1_readType 41 = .ok (.iconst 0, 1) := by decide +kernel
theorem dX1_readType_42 : decode cX1_readType 42 = .ok (.putfield 82, 3) := by decide +kernel
theorem dX1_readType_45 : decode cX1_readType 45 = .ok (.aload_n 0, 1) := by decide +kernel
theorem dX1_readType_46 : decode cX1_readType 46 = .ok (.getfield 9, 3) := by decide +kernel
theorem dX1_readType_49 : decode cX1_readType 49 = .ok (.getfield 37, 3) := by decide +kernel
theorem dX1_readType_52 : decode cX1_readType 52 = .ok (.sipush 129, 3) := by decide +kernel
theorem dX1_readType_55 : decode cX1_readType 55 = .ok (.if_icmp .ne 19, 3) := by decide +kernel
theorem dX1_readType_74 : decode cX1_readType 74 = .ok (.aload_n 0, 1) := by decide +kernel
theorem dX1_readType_75 : decode cX1_readType 75 = .ok (.bipush 59, 2) := by decide +kernel
theorem dX1_readType_77 : decode cX1_readType 77 = .ok (.invokevirtual 88, 3) := by decide +kernel
theorem dX1_readType_80 : decode cX1_readType 80 = .ok (.ifCond .ne 5, 3) := by decide +kernel
theorem dX1_readType_85 : decode cX1_readType 85 = .ok (.aload_n 0, 1) := by decide +kernel
theorem dX1_readType_86 : decode cX1_readType 86 = .ok (.getfield 15, 3) := by decide +kernel
theorem dX1_readType_89 : decode cX1_readType 89 = .ok (.getfield 63, 3) := by decide +kernel
theorem dX1_readType_92 : decode cX1_readType 92 = .ok (.lload_n 1, 1) := by decide +kernel
theorem dX1_readType_93 : decode cX1_readType 93 = .ok (.invokevirtual 91, 3) := by decide +kernel
theorem dX1_readType_96 : decode cX1_readType 96 = .ok (.istore_n 3, 1) := by decide +kernel
theorem dX1_readType_97 : decode cX1_readType 97 = .ok (.iload_n 3, 1) := by decide +kernel
theorem dX1_readType_98 : decode cX1_readType 98 = .ok (.iconst (-1), 1) := by decide +kernel
theorem dX1_readType_99 : decode cX1_readType 99 = .ok (.if_icmp .eq 20, 3) := by decide +kernel
theorem dX1_readType_119 : decode cX1_readType 119 = .ok (.iconst 1, 1) := by decide +kernel
theorem dX1_readType_120 : decode cX1_readType 120 = .ok (.ireturn, 1) := by decide +kernel
theorem dX1_readType_102 : decode cX1_readType 102 = .ok (.aload_n 0, 1) := by decide +kernel
theorem dX1_readType_103 : decode cX1_readType 103 = .ok (.getfield 15, 3) := by decide +kernel
theorem dX1_readType_106 : decode cX1_readType 106 = .ok (.getfield 95, 3) := by decide +kernel
theorem dX1_readType_109 : decode cX1_readType 109 = .ok (.iload_n 3, 1) := by decide +kernel
theorem dX1_readType_110 : decode cX1_readType 110 = .ok (.aload_n 0, 1) := by decide +kernel
theorem dX1_readType_111 : decode cX1_readType 111 = .ok (.getfield 82, 3) := by decide +kernel
theorem dX1_readType_114 : decode cX1_readType 114 = .ok (.iconst 1, 1) := by decide +kernel
theorem dX1_readType_115 : decode cX1_readType 115 = .ok (.iload_n 3, 1) := by decide +kernel
theorem dX1_readType_116 : decode cX1_readType 116 = .ok (.ishl, 1) := by decide +kernel
theorem dX1_readType_117 : decode cX1_readType 117 = .ok (.ior, 1) := by decide +kernel
theorem dX1_readType_118 : decode cX1_readType 118 = .ok (.iastore, 1) := by decide +kernel
theorem dX1_readType_83 : decode cX1_readType 83 = .ok (.iconst 0, 1) := by decide +kernel
theorem dX1_readType_84 : decode cX1_readType 84 = .ok (.ireturn, 1) := by decide +kernel
theorem dX1_readType_58 : decode cX1_readType 58 = .ok (.aload_n 0, 1) := by decide +kernel
theorem dX1_readType_59 : decode cX1_readType 59 = .ok (.getfield 9, 3) := by decide +kernel
theorem dX1_readType_62 : decode cX1_readType 62 = .ok (.invokevirtual 72, 3) := by decide +kernel
theorem dX1_readType_65 : decode cX1_readType 65 = .ok (.aload_n 0, 1) := by decide +kernel
theorem dX1_readType_66 : decode cX1_readType 66 = .ok (.invokevirtual 85, 3) := by decide +kernel
theorem dX1_readType_69 : decode cX1_readType 69 = .ok (.ifCond .ne 5, 3) := by decide +kernel
theorem dX1_readType_72 : decode cX1_readType 72 = .ok (.iconst 0, 1) := by decide +kernel
theorem dX1_readType_73 : decode cX1_readType 73 = .ok (.ireturn, 1) := by decide +kernel
theorem dX1_readType_33 : decode cX1_readType 33 = .ok (.iconst 0, 1) := by decide +kernel
theorem dX1_readType_34 : decode cX1_readType 34 = .ok (.ireturn, 1) := by decide +kernel
theorem dX1_readType_13 : decode cX1_readType 13 = .ok (.aload_n 0, 1) := by decide +kernel
theorem dX1_readType_14 : decode cX1_readType 14 = .ok (.iconst 5, 1) := by decide +kernel
theorem dX1_readType_15 : decode cX1_readType 15 = .ok (.invokevirtual 47, 3) := by decide +kernel
theorem dX1_readType_18 : decode cX1_readType 18 = .ok (.ireturn, 1) := by decide +kernel
abbrev r_x_readExpression8 : Room := { frames := 89, cells := 0, slots := 0, locals := 2640 }
abbrev q_x_readExpression8 (D : va_G) (ks : KS) (ad : Nat → Nat) (kk : Nat → ClassId) (V : Vf) (L : Lf) (Z : XZ) (p0 : Int32) (b : Nat) (A : Nat → Prop) : Array Value → State → Outcome → State → Prop := q_x_readExpression D ks ad kk V L Z p0 b A
theorem x_readExpression8 (l : Launch) (D : va_G) (ks : KS) (sz : Nat) (ad : Nat → Nat) (kk : Nat → ClassId) (V : Vf) (L : Lf) (Z : XZ) (p0 : Int32) (b : Nat) (hMV : rgd bX V) (rg_p0 : 0 ≤ p0.toInt ∧ p0.toInt ≤ 0) (hb2 : b < 2) (rbk : (V 1 1).toInt = (b : Int)) (cd : CD V b) : Met l yX1_readExpression (Cond.code yX1_readExpression cX1_readExpression 3 (some .boolean) :: GW) r_x_readExpression8 (va_Pc [.ref (ad 1), .int p0] (gp D ks (xw ad kk V L Z) (xty kk Z) sz)) (q_x_readExpression8 D ks ad kk V L Z p0 b (va_A (xw ad kk V L Z) sz)) 0 0 (va_A (xw ad kk V L Z) sz) :=
  K_xexpr 8 sz ad kk V L Z p0 b hMV (by omega) hb2 rbk cd (by omega)

abbrev r_x_readE : Room := { frames := 90, cells := 0, slots := 0, locals := 2662 }
abbrev q_x_readE (D : va_G) (ks : KS) (ad : Nat → Nat) (kk : Nat → ClassId) (V : Vf) (L : Lf) (Z : XZ) (p0 : Int32) (b : Nat) (A : Nat → Prop) : Array Value → State → Outcome → State → Prop := va_Qi (fun (r : Int32) (u : Vf × Lf) => rgd bX u.1 ∧ agr [(1, 3), (1, 4), (1, 6), (1, 8), (6, 8), (6, 9), (6, 10)] [42, 43, 44, 48] V u.1 ∧ agL [6, 44] L u.2 ∧ frX (xR b) V u.1 ∧ (0 ≤ r.toInt ∧ r.toInt ≤ 1) ∧ (TX u.1 b) ∧ (CD u.1 b) ∧ (px V u.1 b)) (fun u t => gq D A (xw ad kk u.1 u.2 Z) (xty kk Z) t) A
set_option maxHeartbeats 4000000 in
set_option maxRecDepth 100000 in
theorem x_readE (l : Launch) (D : va_G) (ks : KS) (sz : Nat) (ad : Nat → Nat) (kk : Nat → ClassId) (V : Vf) (L : Lf) (Z : XZ) (p0 : Int32) (b : Nat) (hMV : rgd bX V) (rg_p0 : 0 ≤ p0.toInt ∧ p0.toInt ≤ 2) (hb2 : b < 2) (rbk : (V 1 1).toInt = (b : Int)) (cd : CD V b) (tx : TX V b)  : Met l yX1_readE (Cond.code yX1_readE cX1_readE 2 (some .boolean) :: GW) r_x_readE (va_Pc [.ref (ad 1), .int p0] (gp D ks (xw ad kk V L Z) (xty kk Z) sz)) (q_x_readE D ks ad kk V L Z p0 b (va_A (xw ad kk V L Z) sz)) 0 0 (va_A (xw ad kk V L Z) sz) := by
  refine g_met (q_x_readE D ks ad kk V L Z p0 b) (by decide) (Nat.le_of_ble_eq_true rfl) ?_
  intro p e s m below meth c A ls H locs hx hb hr hml hown hg hlocks hin hnw hgk hP hK hD hS hA hl
  have hown : s.vm.findClass RX1 = some m.cls := hown
  have hl : lv_has ls 2 [(0, .ref (ad 1)), (1, .int p0)] := hl
  have hP : va_P D vwCl (xw ad kk V L Z) H := hP
  have hD : va_D A (xw ad kk V L Z) := hD
  have hK : va_K D vwCl (xty kk Z) s := hK
  have agV : agr [(1, 3), (1, 4), (1, 6), (1, 8), (6, 8), (6, 9), (6, 10)] [42, 43, 44, 48] V V := agr.rf
  have alL : agL [6, 44] L L := agL.rf
  have fwV : frX (xR b) V V := frX.rf
  have r1 : (-1) ≤ ((V 1 1)).toInt ∧ ((V 1 1)).toInt ≤ 1 := hMV 1 1
  refine lv_aload_n hx hb dX1_readE_0 rfl (lv_at hl 0 rfl) ?_
  refine lv_iload_n hx hb dX1_readE_1 rfl (lv_at hl 1 rfl) ?_
  refine va_put (D := D) (ci := 1) (v := .int p0) (ty := tyX1 4) (fs := (xfReader ad V L Z)) (C := RX1) (T := TX1) (N := 9) hx hb hg inX1 tyX1 tyX1_ok nmX1 hown hK hP hD hS 1 xgReader rfl 4 (by decide) (hg _ w308) (fun _ h9 => h9) rfl (tyX1_ok 4 (by decide)) rfl rfl (Nat.le_of_ble_eq_true rfl) dX1_readE_2 (fun H locs hP hD hS => ?_)
  obtain ⟨V2, hV2⟩ : ∃ z, z = up2 V 1 4 p0 := ⟨_, rfl⟩
  have ew3 : (xw ad kk V L Z).set 1 ((ad 1), .inr (1, (xfReader ad V L Z).set 4 (.int p0))) = xw ad kk V2 L Z := by rw [hV2]; exact xw_ss (by decide) rfl (xb_si (by decide))
  have hP : va_P D vwCl (xw ad kk V2 L Z) H := by rw [← ew3]; exact hP
  have hD : va_D A (xw ad kk V2 L Z) := by rw [← ew3]; exact hD
  have hMV2 : rgd bX V2 := hMV.put hV2 (show 0 ≤ p0.toInt ∧ p0.toInt ≤ 2 from by first | omega | ((try (have i_tx := Imp.go tx (by omega))); (try (have i_cd := Imp.go cd (by omega))); (try (have i_cd := Imp.go cd (by omega))); (try (have i_tx := Imp.go tx (by omega))); omega))
  have agV2 : agr [(1, 3), (1, 4), (1, 6), (1, 8), (6, 8), (6, 9), (6, 10)] [42, 43, 44, 48] V V2 := agV.up hV2 rfl
  have fwV2 : frX (xR b) V V2 := frX.up fwV hV2 (Or.inl (by decide))
  refine lv_aload_n hx hb dX1_readE_5 rfl (lv_at hl 0 rfl) ?_
  refine lv_iconst (v := 0) hx hb dX1_readE_6 (by decide) ?_
  have r4 : Int32.toInt 0 = 0 := by decide
  have pq5 : (V2 1 1).toInt = ((V 1 1)).toInt := congrArg Int32.toInt (up2_k hV2 (by decide))
  have cd6 : CD V2 b := ⟨CB.ag cd.1 (show agr [(1, 4)] [] V V2 from (agr.up agr.rf hV2 rfl)) (fun _ => rfl) (fun _ => rfl), CO.ag cd.2 (show agr [(1, 4)] [] V V2 from (agr.up agr.rf hV2 rfl)) (fun _ => rfl) (fun _ => rfl)⟩
  refine gA_int (gA_runV (As := [.int 0]) (rest := []) (ci := 1) (q0 := 1) hx hb hml hown hg hP hD hK hS hA hnw hgk (x_readExpression8 l D ks H.size ad kk V2 L Z 0 (b) hMV2 (by decide) (show b < 2 from by first | omega | ((try (have i_tx := Imp.go tx (by omega))); (try (have i_cd := Imp.go cd (by omega))); (try (have i_cd := Imp.go cd (by omega))); (try (have i_tx := Imp.go tx (by omega))); omega)) (show (V2 1 1).toInt = (b : Int) from by first | omega | ((try (have i_tx := Imp.go tx (by omega))); (try (have i_cd := Imp.go cd (by omega))); (try (have i_cd := Imp.go cd (by omega))); (try (have i_tx := Imp.go tx (by omega))); omega)) cd6) w951 w953 w21 w162 w954 rfl xgReader hdV_yX1_readExpression ⟨Nat.le_of_ble_eq_true rfl, Nat.le_of_ble_eq_true rfl⟩ rfl hl.1 rfl (Nat.le_of_ble_eq_true rfl) dX1_readE_7 ⟨Nat.le_of_ble_eq_true rfl, Nat.le_of_ble_eq_true rfl⟩) hP hD hK hS hA (fun z7 u8 H locs w9 hP hD hK hS => ?_)
  obtain ⟨V12, L13⟩ := u8
  obtain ⟨hMV12, ajV12, axL13, fyV12, rgz7, t10, t11⟩ := w9
  have alL13 : agL [6, 44] L L13 := agL.tr alL axL13 (by decide)
  have hP : va_P D vwCl (xw ad kk V12 L13 Z) H := hP
  have hD : va_D A (xw ad kk V12 L13 Z) := hD
  have hMV12 : rgd bX V12 := hMV12
  have ajV12 : agr [(1, 3), (1, 6), (1, 8), (6, 8), (6, 9), (6, 10)] [42, 43, 44, 48] V2 V12 := ajV12
  have agV12 : agr [(1, 3), (1, 4), (1, 6), (1, 8), (6, 8), (6, 9), (6, 10)] [42, 43, 44, 48] V V12 := agV2.tr ajV12 (by decide) (by decide)
  have fwV12 : frX (xR b) V V12 := frX.tr fwV2 (fyV12)
  have rgz7 : 0 ≤ z7.toInt ∧ z7.toInt ≤ 1 := rgz7
  have t10 : CD V12 b := t10
  have t11 : px V2 V12 b := t11
  refine lv_if_ne (tgt := 15) hx hb dX1_readE_10 (by decide) (fun c14 => ?_) (fun c14 => ?_)
  · skip
    have f15 : z7.toInt ≠ 0 := b_neq rfl (by decide) c14
    refine lv_aload_n hx hb dX1_readE_15 rfl (lv_at hl 0 rfl) ?_
    refine va_get (D := D) (ci := 1) (v := rfN ad 38 (V12 1 1)) (fs := (xfReader ad V12 L13 Z)) (C := RX1) (T := TX1) (N := 9) hx hb hg inX1 hown hK hP 1 xgReader rfl 1 (by decide) (hg _ w305) (fun _ h9 => h9) rfl dX1_readE_16 ?_
    have pq16 : (V12 1 1).toInt = ((V 1 1)).toInt := congrArg Int32.toInt ((ajV12 1 1 rfl).trans (up2_k hV2 (by decide)))
    refine g_topv (v := .ref (ad (38 + b))) (rfN_r (by first | omega | ((try (have i_tx := Imp.go tx (by omega))); (try (have i_cd := Imp.go cd (by omega))); (try (have i_cd := Imp.go cd (by omega))); (try (have i_tx := Imp.go tx (by omega))); omega))) ?_
    refine lv_iconst (v := 0) hx hb dX1_readE_19 (by decide) ?_
    refine gA_void (gA_runV (As := [.int 0]) (rest := []) (ci := 0) (q0 := (38 + b)) hx hb hml hown hg hP hD hK hS hA hnw hgk (x_emit l D ks H.size ad kk V12 L13 Z 0 (b) hMV12 (show b < 2 from by first | omega | ((try (have i_tx := Imp.go tx (by omega))); (try (have i_cd := Imp.go cd (by omega))); (try (have i_cd := Imp.go cd (by omega))); (try (have i_tx := Imp.go tx (by omega))); omega))) w971 w972 w973 w167 w974 rfl (xgBook hb2) hdV_yX0_emit ⟨Nat.le_of_ble_eq_true rfl, Nat.le_of_ble_eq_true rfl⟩ rfl hl.1 rfl (Nat.le_of_ble_eq_true rfl) dX1_readE_20 ⟨Nat.le_of_ble_eq_true rfl, Nat.le_of_ble_eq_true rfl⟩) hP hD hK hS hA (fun u18 H locs w19 hP hD hK hS => ?_)
    obtain ⟨V21, L22⟩ := u18
    obtain ⟨hMV21, ajV21, axL22, fyV21, t20⟩ := w19
    have axL22 : L13 = L22 := Eq.symm axL22
    subst axL22
    have hP : va_P D vwCl (xw ad kk V21 L13 Z) H := hP
    have hD : va_D A (xw ad kk V21 L13 Z) := hD
    have hMV21 : rgd bX V21 := hMV21
    have ajV21 : agr [] [42, 48] V12 V21 := ajV21
    have agV21 : agr [(1, 3), (1, 4), (1, 6), (1, 8), (6, 8), (6, 9), (6, 10)] [42, 43, 44, 48] V V21 := agV12.tr ajV21 (by decide) (by decide)
    have fwV21 : frX (xR b) V V21 := frX.tr fwV12 (fyV21)
    have t20 : emX V12 V21 b 0 := t20
    refine lv_aload_n hx hb dX1_readE_23 rfl (lv_at hl 0 rfl) ?_
    refine lv_bipush (v := 59) hx hb dX1_readE_24 (by decide) ?_
    have r23 : Int32.toInt 59 = 59 := by decide
    refine gA_int (gA_runV (As := [.int 59]) (rest := []) (ci := 1) (q0 := 1) hx hb hml hown hg hP hD hK hS hA hnw hgk (x_take l D ks H.size ad kk V21 L13 Z 59 hMV21 ) w893 w895 w10 w162 w896 rfl xgReader hdV_yX1_take ⟨Nat.le_of_ble_eq_true rfl, Nat.le_of_ble_eq_true rfl⟩ rfl hl.1 rfl (Nat.le_of_ble_eq_true rfl) dX1_readE_26 ⟨Nat.le_of_ble_eq_true rfl, Nat.le_of_ble_eq_true rfl⟩) hP hD hK hS hA (fun z24 u25 H locs w26 hP hD hK hS => ?_)
    obtain ⟨V27, L28⟩ := u25
    obtain ⟨hMV27, ajV27, axL28, rgz24⟩ := w26
    have alL28 : agL [6, 44] L L28 := agL.tr alL13 axL28 (by decide)
    have hP : va_P D vwCl (xw ad kk V27 L28 Z) H := hP
    have hD : va_D A (xw ad kk V27 L28 Z) := hD
    have hMV27 : rgd bX V27 := hMV27
    have ajV27 : agr [(1, 3), (6, 8), (6, 9), (6, 10)] [] V21 V27 := ajV27
    have agV27 : agr [(1, 3), (1, 4), (1, 6), (1, 8), (6, 8), (6, 9), (6, 10)] [42, 43, 44, 48] V V27 := agV21.tr ajV27 (by decide) (by decide)
    have fwV27 : frX (xR b) V V27 := frX.tr fwV21 (frX.ag ajV27 (by decide) (by decide))
    have rgz24 : 0 ≤ z24.toInt ∧ z24.toInt ≤ 1 := rgz24
    have px29 : px V V2 b := px.tr (px.rf : px V V b) (px.ag (show agr [(1, 4)] [] V V2 from (agr.up agr.rf hV2 rfl)) (fun _ => rfl) (fun _ => rfl) (fun _ => rfl))
    have px30 : px V V12 b := px.tr px29 t11
    have px31 : px V V21 b := px.tr px30 ⟨emX.p0x t20, ajV21 43 _ rfl⟩
    have px32 : px V V27 b := px.tr px31 (px.ag (show agr [(1, 3), (6, 8), (6, 9), (6, 10)] [] V21 V27 from (agr.tr agr.rf ajV27 (by decide) (by decide))) (fun _ => rfl) (fun _ => rfl) (fun _ => rfl))
    have tx33 : TX V27 b := TX.ag tx (show agr [(1, 3), (1, 4), (1, 6), (1, 8), (6, 8), (6, 9), (6, 10)] [42, 43, 44, 48] V V27 from (agr.tr (agr.tr (agr.tr (agr.up agr.rf hV2 rfl) ajV12 (by decide) (by decide)) ajV21 (by decide) (by decide)) ajV27 (by decide) (by decide))) px32 (fun _ => rfl) (fun _ => rfl) (fun _ => rfl) (fun _ => rfl) (fun _ => rfl) (fun _ => rfl)
    have cl34 : 0 ≤ (V12 42 b).toInt ∧ (V12 42 b).toInt ≤ 8200 := hMV12 42 b
    have cd35 : CD V21 b := ⟨CB.e1 t10.1 t20 (by omega) (by decide), CO.e1 t10.2 t20 (by decide) (by omega)⟩
    have cd36 : CD V27 b := ⟨CB.ag cd35.1 (show agr [(1, 3), (6, 8), (6, 9), (6, 10)] [] V21 V27 from (agr.tr agr.rf ajV27 (by decide) (by decide))) (fun _ => rfl) (fun _ => rfl), CO.ag cd35.2 (show agr [(1, 3), (6, 8), (6, 9), (6, 10)] [] V21 V27 from (agr.tr agr.rf ajV27 (by decide) (by decide))) (fun _ => rfl) (fun _ => rfl)⟩
    have px37 : px V V2 b := px.tr (px.rf : px V V b) (px.ag (show agr [(1, 4)] [] V V2 from (agr.up agr.rf hV2 rfl)) (fun _ => rfl) (fun _ => rfl) (fun _ => rfl))
    have px38 : px V V12 b := px.tr px37 t11
    have px39 : px V V21 b := px.tr px38 ⟨emX.p0x t20, ajV21 43 _ rfl⟩
    have px40 : px V V27 b := px.tr px39 (px.ag (show agr [(1, 3), (6, 8), (6, 9), (6, 10)] [] V21 V27 from (agr.tr agr.rf ajV27 (by decide) (by decide))) (fun _ => rfl) (fun _ => rfl) (fun _ => rfl))
    exact W.zret (v := z24) hx hb hr (nb_ok (by omega)) (fun t ht hW => ⟨⟨z24, (V27, L28), rfl, ⟨hMV27, agV27, alL28, fwV27, (show 0 ≤ z24.toInt ∧ z24.toInt ≤ 1 from by first | omega | ((try (have i_tx := Imp.go tx (by omega))); (try (have i_cd := Imp.go cd (by omega))); (try (have i_cd := Imp.go cd (by omega))); (try (have i_tx := Imp.go tx (by omega))); omega)), tx33, cd36, px40⟩, by rw [ht]; exact hP, va_K.moved hW.alike hK, hD⟩, hS.F ht⟩) hS.2.2 dX1_readE_29
  · skip
    have f41 : z7.toInt = 0 := b_eq rfl (by decide) c14
    refine lv_iconst (v := 0) hx hb dX1_readE_13 (by decide) ?_
    have px42 : px V V2 b := px.tr (px.rf : px V V b) (px.ag (show agr [(1, 4)] [] V V2 from (agr.up agr.rf hV2 rfl)) (fun _ => rfl) (fun _ => rfl) (fun _ => rfl))
    have px43 : px V V12 b := px.tr px42 t11
    have tx44 : TX V12 b := TX.ag tx (show agr [(1, 3), (1, 4), (1, 6), (1, 8), (6, 8), (6, 9), (6, 10)] [42, 43, 44, 48] V V12 from (agr.tr (agr.up agr.rf hV2 rfl) ajV12 (by decide) (by decide))) px43 (fun _ => rfl) (fun _ => rfl) (fun _ => rfl) (fun _ => rfl) (fun _ => rfl) (fun _ => rfl)
    have px45 : px V V2 b := px.tr (px.rf : px V V b) (px.ag (show agr [(1, 4)] [] V V2 from (agr.up agr.rf hV2 rfl)) (fun _ => rfl) (fun _ => rfl) (fun _ => rfl))
    have px46 : px V V12 b := px.tr px45 t11
    exact W.zret (v := 0) hx hb hr rfl (fun t ht hW => ⟨⟨0, (V12, L13), rfl, ⟨hMV12, agV12, alL13, fwV12, (by decide), tx44, t10, px46⟩, by rw [ht]; exact hP, va_K.moved hW.alike hK, hD⟩, hS.F ht⟩) hS.2.2 dX1_readE_14
abbrev r_x_readMethod : Room := { frames := 91, cells := 0, slots := 0, locals := 2683 }
abbrev q_x_readMethod (D : va_G) (ks : KS) (ad : Nat → Nat) (kk : Nat → ClassId) (V : Vf) (L : Lf) (Z : XZ) (b : Nat) (go : Nat) (A : Nat → Prop) : Array Value → State → Outcome → State → Prop := va_Qi (fun (r : Int32) (u : Vf × Lf) => rgd bX u.1 ∧ agr [(1, 3), (1, 4), (1, 6), (1, 8), (6, 8), (6, 9), (6, 10)] [42, 43, 44, 48, 61] V u.1 ∧ agL [6, 44] L u.2 ∧ frX (xR b) V u.1 ∧ (0 ≤ r.toInt ∧ r.toInt ≤ 1) ∧ (TX u.1 b) ∧ (CD u.1 b) ∧ (px V u.1 b)) (fun u t => gq D A (xw ad kk u.1 u.2 Z) (xty kk Z) t) A
set_option maxHeartbeats 4000000 in
set_option maxRecDepth 100000 in
theorem x_readMethod (l : Launch) (D : va_G) (ks : KS) (sz : Nat) (ad : Nat → Nat) (kk : Nat → ClassId) (V : Vf) (L : Lf) (Z : XZ) (b : Nat) (go : Nat) (hMV : rgd bX V) (hb2 : b < 2) (rbk : (V 1 1).toInt = (b : Int)) (own : (V 1 2).toInt = (go : Int)) (hgo : go < 48) (hgl : 24 * b ≤ go) (hgh : go < 24 * b + 24) (cd : CD V b) (tx : TX V b)  : Met l yX1_readMethod (Cond.code yX1_readMethod cX1_readMethod 2 (some .boolean) :: GW) r_x_readMethod (va_Pc [.ref (ad 1)] (gp D ks (xw ad kk V L Z) (xty kk Z) sz)) (q_x_readMethod D ks ad kk V L Z  b go (va_A (xw ad kk V L Z) sz)) 0 0 (va_A (xw ad kk V L Z) sz) := by
  refine g_met (q_x_readMethod D ks ad kk V L Z  b go) (by decide) (Nat.le_of_ble_eq_true rfl) ?_
  intro p e s m below meth c A ls H locs hx hb hr hml hown hg hlocks hin hnw hgk hP hK hD hS hA hl
  have hown : s.vm.findClass RX1 = some m.cls := hown
  have hl : lv_has ls 2 [(0, .ref (ad 1))] := hl
  have hP : va_P D vwCl (xw ad kk V L Z) H := hP
  have hD : va_D A (xw ad kk V L Z) := hD
  have hK : va_K D vwCl (xty kk Z) s := hK
  have agV : agr [(1, 3), (1, 4), (1, 6), (1, 8), (6, 8), (6, 9), (6, 10)] [42, 43, 44, 48, 61] V V := agr.rf
  have alL : agL [6, 44] L L := agL.rf
  have fwV : frX (xR b) V V := frX.rf
  have r1 : (-1) ≤ ((V 1 1)).toInt ∧ ((V 1 1)).toInt ≤ 1 := hMV 1 1
  have r2 : (-1) ≤ ((V 1 2)).toInt ∧ ((V 1 2)).toInt ≤ 47 := hMV 1 2
  refine lv_aload_n hx hb dX1_readMethod_0 rfl (lv_at hl 0 rfl) ?_
  refine va_get (D := D) (ci := 1) (v := rfN ad 38 (V 1 1)) (fs := (xfReader ad V L Z)) (C := RX1) (T := TX1) (N := 9) hx hb hg inX1 hown hK hP 1 xgReader rfl 1 (by decide) (hg _ w305) (fun _ h9 => h9) rfl dX1_readMethod_1 ?_
  refine g_topv (v := .ref (ad (38 + b))) (rfN_r (by first | omega | ((try (have i_tx := Imp.go tx (by omega))); (try (have i_cd := Imp.go cd (by omega))); (try (have i_cd := Imp.go cd (by omega))); (try (have i_tx := Imp.go tx (by omega))); omega))) ?_
  refine va_getN (D := D) (ci := 0) (v := .int (V 42 b)) (fs := (xfBook ad V b)) (C := RX0) (T := TX0) (N := 13) hx hb hg inX0 hown hK hP (38 + b) (xgBook hb2) rfl 12 (by decide) (hnw.use 630 n630 rfl) (fun _ h9 => h9) rfl dX1_readMethod_4 ?_
  have r3 : 0 ≤ ((V 42 b)).toInt ∧ ((V 42 b)).toInt ≤ 8200 := hMV 42 b
  refine lv_istore_n (lv' := [(1, .int (V 42 b)), (0, .ref (ad 1))]) hx hb dX1_readMethod_7 rfl hl (by decide) rfl (fun ls hl => ?_)
  refine lv_aload_n hx hb dX1_readMethod_8 rfl (lv_at hl 1 rfl) ?_
  refine va_get (D := D) (ci := 1) (v := .ref (ad 6)) (fs := (xfReader ad V L Z)) (C := RX1) (T := TX1) (N := 9) hx hb hg inX1 hown hK hP 1 xgReader rfl 0 (by decide) (hg _ w304) (fun _ h9 => h9) rfl dX1_readMethod_9 ?_
  refine gA_void (gA_runV (As := []) (rest := []) (ci := 9) (q0 := 6) hx hb hml hown hg hP hD hK hS hA hnw hgk (x_next l D ks H.size ad kk V L Z  hMV ) w871 w852 w853 w157 w854 rfl xgTape hdV_yX9_next ⟨Nat.le_of_ble_eq_true rfl, Nat.le_of_ble_eq_true rfl⟩ rfl hl.1 rfl (Nat.le_of_ble_eq_true rfl) dX1_readMethod_12 ⟨Nat.le_of_ble_eq_true rfl, Nat.le_of_ble_eq_true rfl⟩) hP hD hK hS hA (fun u5 H locs w6 hP hD hK hS => ?_)
  obtain ⟨V7, L8⟩ := u5
  obtain ⟨hMV7, ajV7, axL8⟩ := w6
  have alL8 : agL [6, 44] L L8 := agL.tr alL axL8 (by decide)
  have hP : va_P D vwCl (xw ad kk V7 L8 Z) H := hP
  have hD : va_D A (xw ad kk V7 L8 Z) := hD
  have hMV7 : rgd bX V7 := hMV7
  have ajV7 : agr [(6, 8), (6, 9), (6, 10)] [] V V7 := ajV7
  have agV7 : agr [(1, 3), (1, 4), (1, 6), (1, 8), (6, 8), (6, 9), (6, 10)] [42, 43, 44, 48, 61] V V7 := agV.tr ajV7 (by decide) (by decide)
  have fwV7 : frX (xR b) V V7 := frX.tr fwV (frX.ag ajV7 (by decide) (by decide))
  refine lv_aload_n hx hb dX1_readMethod_15 rfl (lv_at hl 1 rfl) ?_
  refine lv_aload_n hx hb dX1_readMethod_16 rfl (lv_at hl 1 rfl) ?_
  refine va_get (D := D) (ci := 1) (v := rfN ad 72 (V7 1 2)) (fs := (xfReader ad V7 L8 Z)) (C := RX1) (T := TX1) (N := 9) hx hb hg inX1 hown hK hP 1 xgReader rfl 2 (by decide) (hg _ w306) (fun _ h9 => h9) rfl dX1_readMethod_17 ?_
  have pq9 : (V7 1 2).toInt = ((V 1 2)).toInt := congrArg Int32.toInt (ajV7 1 2 rfl)
  refine g_topv (v := .ref (ad (72 + go))) (rfN_r (by first | omega | ((try (have i_tx := Imp.go tx (by omega))); (try (have i_cd := Imp.go cd (by omega))); (try (have i_cd := Imp.go cd (by omega))); (try (have i_tx := Imp.go tx (by omega))); omega))) ?_
  have pq10 : (V7 1 1).toInt = ((V 1 1)).toInt := congrArg Int32.toInt (ajV7 1 1 rfl)
  refine gA_int (gA_runV (As := [.ref (ad (72 + go))]) (rest := []) (ci := 1) (q0 := 1) hx hb hml hown hg hP hD hK hS hA hnw hgk (x_takeMethodO l D ks H.size ad kk V7 L8 Z (b) (go) hMV7 (show b < 2 from by first | omega | ((try (have i_tx := Imp.go tx (by omega))); (try (have i_cd := Imp.go cd (by omega))); (try (have i_cd := Imp.go cd (by omega))); (try (have i_tx := Imp.go tx (by omega))); omega)) (show (V7 1 1).toInt = (b : Int) from by first | omega | ((try (have i_tx := Imp.go tx (by omega))); (try (have i_cd := Imp.go cd (by omega))); (try (have i_cd := Imp.go cd (by omega))); (try (have i_tx := Imp.go tx (by omega))); omega)) (show go < 48 from by first | omega | ((try (have i_tx := Imp.go tx (by omega))); (try (have i_cd := Imp.go cd (by omega))); (try (have i_cd := Imp.go cd (by omega))); (try (have i_tx := Imp.go tx (by omega))); omega))) w939 w941 w19 w162 w942 rfl xgReader hdV_yX1_takeMethod ⟨Nat.le_of_ble_eq_true rfl, Nat.le_of_ble_eq_true rfl⟩ rfl hl.1 rfl (Nat.le_of_ble_eq_true rfl) dX1_readMethod_20 ⟨Nat.le_of_ble_eq_true rfl, Nat.le_of_ble_eq_true rfl⟩) hP hD hK hS hA (fun z11 u12 H locs w13 hP hD hK hS => ?_)
  obtain ⟨V16, L17⟩ := u12
  obtain ⟨hMV16, ajV16, axL17, fyV16, rgz11, t14, t15⟩ := w13
  have alL17 : agL [6, 44] L L17 := agL.tr alL8 axL17 (by decide)
  have hP : va_P D vwCl (xw ad kk V16 L17 Z) H := hP
  have hD : va_D A (xw ad kk V16 L17 Z) := hD
  have hMV16 : rgd bX V16 := hMV16
  have ajV16 : agr [(1, 3), (1, 6), (6, 8), (6, 9), (6, 10)] [43, 44] V7 V16 := ajV16
  have agV16 : agr [(1, 3), (1, 4), (1, 6), (1, 8), (6, 8), (6, 9), (6, 10)] [42, 43, 44, 48, 61] V V16 := agV7.tr ajV16 (by decide) (by decide)
  have fwV16 : frX (xR b) V V16 := frX.tr fwV7 (fyV16)
  have rgz11 : 0 ≤ z11.toInt ∧ z11.toInt ≤ 1 := rgz11
  have t14 : Imp (z11.toInt = 1) (0 ≤ (V16 1 6).toInt ∧ (V16 1 6).toInt ≤ 19) := t14
  have t15 : px V7 V16 b := t15
  have r18 : (-1) ≤ ((V16 1 6)).toInt ∧ ((V16 1 6)).toInt ≤ 23 := hMV16 1 6
  refine lv_if_ne (tgt := 28) hx hb dX1_readMethod_23 (by decide) (fun c19 => ?_) (fun c19 => ?_)
  · skip
    have f20 : z11.toInt ≠ 0 := b_neq rfl (by decide) c19
    have tm := Imp.go t14 (by omega)
    refine lv_aload_n hx hb dX1_readMethod_28 rfl (lv_at hl 1 rfl) ?_
    refine va_get (D := D) (ci := 1) (v := rfN ad 72 (V16 1 2)) (fs := (xfReader ad V16 L17 Z)) (C := RX1) (T := TX1) (N := 9) hx hb hg inX1 hown hK hP 1 xgReader rfl 2 (by decide) (hg _ w306) (fun _ h9 => h9) rfl dX1_readMethod_29 ?_
    have pq21 : (V16 1 2).toInt = ((V 1 2)).toInt := congrArg Int32.toInt ((ajV16 1 2 rfl).trans (ajV7 1 2 rfl))
    refine g_topv (v := .ref (ad (72 + go))) (rfN_r (by first | omega | ((try (have i_t14 := Imp.go t14 (by omega))); (try (have i_tx := Imp.go tx (by omega))); (try (have i_cd := Imp.go cd (by omega))); (try (have i_cd := Imp.go cd (by omega))); (try (have i_tx := Imp.go tx (by omega))); (try (have i_t14 := Imp.go t14 (by omega))); omega))) ?_
    refine va_getN (D := D) (ci := 3) (v := .ref (ad (264 + go))) (fs := (xfComp ad V16 go)) (C := RX3) (T := TX3) (N := 13) hx hb hg inX3 hown hK hP (72 + go) (xgComp hgo) rfl 3 (by decide) (hnw.use 508 n508 rfl) (fun _ h9 => h9) rfl dX1_readMethod_32 ?_
    refine lv_aload_n hx hb dX1_readMethod_35 rfl (lv_at hl 1 rfl) ?_
    refine va_get (D := D) (ci := 1) (v := .int (V16 1 6)) (fs := (xfReader ad V16 L17 Z)) (C := RX1) (T := TX1) (N := 9) hx hb hg inX1 hown hK hP 1 xgReader rfl 6 (by decide) (hg _ w310) (fun _ h9 => h9) rfl dX1_readMethod_36 ?_
    refine lv_iload_n hx hb dX1_readMethod_39 rfl (lv_at hl 0 rfl) ?_
    have il22 : go < 48 := by first | omega | ((try (have i_t14 := Imp.go t14 (by omega))); (try (have i_tx := Imp.go tx (by omega))); (try (have i_cd := Imp.go cd (by omega))); (try (have i_cd := Imp.go cd (by omega))); (try (have i_tx := Imp.go tx (by omega))); (try (have i_t14 := Imp.go t14 (by omega))); omega)
    refine va_iast (D := D) (i := (V16 1 6)) (x := (V 42 b)) hx hb hK hP hD hS (264 + go) (257 + go) (xgmethodStarts il22) (xtmethodStarts il22) (i_in (a := ((V16 1 6)).toInt) rfl (by first | omega | ((try (have i_t14 := Imp.go t14 (by omega))); (try (have i_tx := Imp.go tx (by omega))); (try (have i_cd := Imp.go cd (by omega))); (try (have i_cd := Imp.go cd (by omega))); (try (have i_tx := Imp.go tx (by omega))); (try (have i_t14 := Imp.go t14 (by omega))); omega))) dX1_readMethod_40 (fun H locs hP hD hS => ?_)
    have kc23 := i_clamp (x := (V16 1 6)) rfl (by first | omega | ((try (have i_t14 := Imp.go t14 (by omega))); (try (have i_tx := Imp.go tx (by omega))); (try (have i_cd := Imp.go cd (by omega))); (try (have i_cd := Imp.go cd (by omega))); (try (have i_tx := Imp.go tx (by omega))); (try (have i_t14 := Imp.go t14 (by omega))); omega))
    have kl24 : (Int32.toNatClampNeg (V16 1 6)) < 20 := by first | omega | ((try (have i_t14 := Imp.go t14 (by omega))); (try (have i_tx := Imp.go tx (by omega))); (try (have i_cd := Imp.go cd (by omega))); (try (have i_cd := Imp.go cd (by omega))); (try (have i_tx := Imp.go tx (by omega))); (try (have i_t14 := Imp.go t14 (by omega))); omega)
    obtain ⟨V25, hV25⟩ : ∃ z, z = up2 V16 61 (20 * go + (Int32.toNatClampNeg (V16 1 6))) (V 42 b) := ⟨_, rfl⟩
    have ew26 : (xw ad kk V16 L17 Z).set (264 + go) ((ad (264 + go)), .inl ((kk (264 + go)), 20, .inl (upd (fun q => if q < 20 then V16 61 (20 * go + q) else 0) (Int32.toNatClampNeg (V16 1 6)) (V 42 b)))) = xw ad kk V25 L17 Z := by rw [hV25]; exact xpmethodStarts il22 kl24
    have hP : va_P D vwCl (xw ad kk V25 L17 Z) H := by rw [← ew26]; exact hP
    have hD : va_D A (xw ad kk V25 L17 Z) := by rw [← ew26]; exact hD
    have hMV25 : rgd bX V25 := hMV16.put hV25 (show (-1) ≤ ((V 42 b)).toInt ∧ ((V 42 b)).toInt ≤ 8200 from by first | omega | ((try (have i_t14 := Imp.go t14 (by omega))); (try (have i_tx := Imp.go tx (by omega))); (try (have i_cd := Imp.go cd (by omega))); (try (have i_cd := Imp.go cd (by omega))); (try (have i_tx := Imp.go tx (by omega))); (try (have i_t14 := Imp.go t14 (by omega))); omega))
    have agV25 : agr [(1, 3), (1, 4), (1, 6), (1, 8), (6, 8), (6, 9), (6, 10)] [42, 43, 44, 48, 61] V V25 := agV16.up hV25 rfl
    have fwV25 : frX (xR b) V V25 := frX.up fwV16 hV25 (Or.inr ⟨(by show 480 * b ≤ (20 * go + (Int32.toNatClampNeg (V16 1 6))); first | omega | ((try (have i_t14 := Imp.go t14 (by omega))); (try (have i_tx := Imp.go tx (by omega))); (try (have i_cd := Imp.go cd (by omega))); (try (have i_cd := Imp.go cd (by omega))); (try (have i_tx := Imp.go tx (by omega))); (try (have i_t14 := Imp.go t14 (by omega))); omega)), (by show (20 * go + (Int32.toNatClampNeg (V16 1 6))) < 480 * b + 480; first | omega | ((try (have i_t14 := Imp.go t14 (by omega))); (try (have i_tx := Imp.go tx (by omega))); (try (have i_cd := Imp.go cd (by omega))); (try (have i_cd := Imp.go cd (by omega))); (try (have i_tx := Imp.go tx (by omega))); (try (have i_t14 := Imp.go t14 (by omega))); omega))⟩)
    have px27 : px V V7 b := px.tr (px.rf : px V V b) (px.ag (show agr [(6, 8), (6, 9), (6, 10)] [] V V7 from (agr.tr agr.rf ajV7 (by decide) (by decide))) (fun _ => rfl) (fun _ => rfl) (fun _ => rfl))
    have px28 : px V V16 b := px.tr px27 t15
    have tx29 : TX V16 b := TX.ag tx (show agr [(1, 3), (1, 6), (6, 8), (6, 9), (6, 10)] [43, 44] V V16 from (agr.tr (agr.tr agr.rf ajV7 (by decide) (by decide)) ajV16 (by decide) (by decide))) px28 (fun _ => rfl) (fun _ => rfl) (fun _ => rfl) (fun _ => rfl) (fun _ => rfl) (fun _ => rfl)
    have cl30 : 0 ≤ (V 42 b).toInt ∧ (V 42 b).toInt ≤ 8200 := hMV 42 b
    have px31 : px V V7 b := px.tr (px.rf : px V V b) (px.ag (show agr [(6, 8), (6, 9), (6, 10)] [] V V7 from (agr.tr agr.rf ajV7 (by decide) (by decide))) (fun _ => rfl) (fun _ => rfl) (fun _ => rfl))
    have px32 : px V V16 b := px.tr px31 t15
    have gs33 : gs V16 b (V 42 b).toInt := (CB.gs cd.1 (by omega)).up px32.1
    have tx34 : TX V25 b := TX.st tx29 hV25 (by decide) gs33
    refine lv_aload_n hx hb dX1_readMethod_41 rfl (lv_at hl 1 rfl) ?_
    refine lv_iconst (v := 0) hx hb dX1_readMethod_42 (by decide) ?_
    have r35 : Int32.toInt 0 = 0 := by decide
    have pq36 : (V25 1 1).toInt = ((V 1 1)).toInt := congrArg Int32.toInt ((up2_o hV25 (by decide)).trans ((ajV16 1 1 rfl).trans (ajV7 1 1 rfl)))
    have cd37 : CD V25 b := ⟨CB.ag cd.1 (show agr [(1, 3), (1, 6), (6, 8), (6, 9), (6, 10)] [43, 44, 61] V V25 from (agr.up (agr.tr (agr.tr agr.rf ajV7 (by decide) (by decide)) ajV16 (by decide) (by decide)) hV25 rfl)) (fun _ => rfl) (fun _ => rfl), CO.ag cd.2 (show agr [(1, 3), (1, 6), (6, 8), (6, 9), (6, 10)] [43, 44, 61] V V25 from (agr.up (agr.tr (agr.tr agr.rf ajV7 (by decide) (by decide)) ajV16 (by decide) (by decide)) hV25 rfl)) (fun _ => rfl) (fun _ => rfl)⟩
    refine gA_int (gA_runV (As := [.int 0]) (rest := []) (ci := 1) (q0 := 1) hx hb hml hown hg hP hD hK hS hA hnw hgk (x_readE l D ks H.size ad kk V25 L17 Z 0 (b) hMV25 (by decide) (show b < 2 from by first | omega | ((try (have i_t14 := Imp.go t14 (by omega))); (try (have i_tx := Imp.go tx (by omega))); (try (have i_cd := Imp.go cd (by omega))); (try (have i_cd := Imp.go cd (by omega))); (try (have i_tx := Imp.go tx (by omega))); (try (have i_t14 := Imp.go t14 (by omega))); omega)) (show (V25 1 1).toInt = (b : Int) from by first | omega | ((try (have i_t14 := Imp.go t14 (by omega))); (try (have i_tx := Imp.go tx (by omega))); (try (have i_cd := Imp.go cd (by omega))); (try (have i_cd := Imp.go cd (by omega))); (try (have i_tx := Imp.go tx (by omega))); (try (have i_t14 := Imp.go t14 (by omega))); omega)) cd37 tx34) w947 w949 w20 w162 w950 rfl xgReader hdV_yX1_readE ⟨Nat.le_of_ble_eq_true rfl, Nat.le_of_ble_eq_true rfl⟩ rfl hl.1 rfl (Nat.le_of_ble_eq_true rfl) dX1_readMethod_43 ⟨Nat.le_of_ble_eq_true rfl, Nat.le_of_ble_eq_true rfl⟩) hP hD hK hS hA (fun z38 u39 H locs w40 hP hD hK hS => ?_)
    obtain ⟨V44, L45⟩ := u39
    obtain ⟨hMV44, ajV44, axL45, fyV44, rgz38, t41, t42, t43⟩ := w40
    have alL45 : agL [6, 44] L L45 := agL.tr alL17 axL45 (by decide)
    have hP : va_P D vwCl (xw ad kk V44 L45 Z) H := hP
    have hD : va_D A (xw ad kk V44 L45 Z) := hD
    have hMV44 : rgd bX V44 := hMV44
    have ajV44 : agr [(1, 3), (1, 4), (1, 6), (1, 8), (6, 8), (6, 9), (6, 10)] [42, 43, 44, 48] V25 V44 := ajV44
    have agV44 : agr [(1, 3), (1, 4), (1, 6), (1, 8), (6, 8), (6, 9), (6, 10)] [42, 43, 44, 48, 61] V V44 := agV25.tr ajV44 (by decide) (by decide)
    have fwV44 : frX (xR b) V V44 := frX.tr fwV25 (fyV44)
    have rgz38 : 0 ≤ z38.toInt ∧ z38.toInt ≤ 1 := rgz38
    have t41 : TX V44 b := t41
    have t42 : CD V44 b := t42
    have t43 : px V25 V44 b := t43
    have px46 : px V V7 b := px.tr (px.rf : px V V b) (px.ag (show agr [(6, 8), (6, 9), (6, 10)] [] V V7 from (agr.tr agr.rf ajV7 (by decide) (by decide))) (fun _ => rfl) (fun _ => rfl) (fun _ => rfl))
    have px47 : px V V16 b := px.tr px46 t15
    have px48 : px V V25 b := px.tr px47 (px.ag (show agr [] [61] V16 V25 from (agr.up agr.rf hV25 rfl)) (fun _ => rfl) (fun _ => rfl) (fun _ => rfl))
    have px49 : px V V44 b := px.tr px48 t43
    exact W.zret (v := z38) hx hb hr (nb_ok (by omega)) (fun t ht hW => ⟨⟨z38, (V44, L45), rfl, ⟨hMV44, agV44, alL45, fwV44, (show 0 ≤ z38.toInt ∧ z38.toInt ≤ 1 from by first | omega | ((try (have i_t14 := Imp.go t14 (by omega))); (try (have i_tx := Imp.go tx (by omega))); (try (have i_cd := Imp.go cd (by omega))); (try (have i_cd := Imp.go cd (by omega))); (try (have i_tx := Imp.go tx (by omega))); (try (have i_t14 := Imp.go t14 (by omega))); omega)), t41, t42, px49⟩, by rw [ht]; exact hP, va_K.moved hW.alike hK, hD⟩, hS.F ht⟩) hS.2.2 dX1_readMethod_46
  · skip
    have f50 : z11.toInt = 0 := b_eq rfl (by decide) c19
    refine lv_iconst (v := 0) hx hb dX1_readMethod_26 (by decide) ?_
    have px51 : px V V7 b := px.tr (px.rf : px V V b) (px.ag (show agr [(6, 8), (6, 9), (6, 10)] [] V V7 from (agr.tr agr.rf ajV7 (by decide) (by decide))) (fun _ => rfl) (fun _ => rfl) (fun _ => rfl))
    have px52 : px V V16 b := px.tr px51 t15
    have tx53 : TX V16 b := TX.ag tx (show agr [(1, 3), (1, 6), (6, 8), (6, 9), (6, 10)] [43, 44] V V16 from (agr.tr (agr.tr agr.rf ajV7 (by decide) (by decide)) ajV16 (by decide) (by decide))) px52 (fun _ => rfl) (fun _ => rfl) (fun _ => rfl) (fun _ => rfl) (fun _ => rfl) (fun _ => rfl)
    have cd54 : CD V16 b := ⟨CB.ag cd.1 (show agr [(1, 3), (1, 6), (6, 8), (6, 9), (6, 10)] [43, 44] V V16 from (agr.tr (agr.tr agr.rf ajV7 (by decide) (by decide)) ajV16 (by decide) (by decide))) (fun _ => rfl) (fun _ => rfl), CO.ag cd.2 (show agr [(1, 3), (1, 6), (6, 8), (6, 9), (6, 10)] [43, 44] V V16 from (agr.tr (agr.tr agr.rf ajV7 (by decide) (by decide)) ajV16 (by decide) (by decide))) (fun _ => rfl) (fun _ => rfl)⟩
    have px55 : px V V7 b := px.tr (px.rf : px V V b) (px.ag (show agr [(6, 8), (6, 9), (6, 10)] [] V V7 from (agr.tr agr.rf ajV7 (by decide) (by decide))) (fun _ => rfl) (fun _ => rfl) (fun _ => rfl))
    have px56 : px V V16 b := px.tr px55 t15
    exact W.zret (v := 0) hx hb hr rfl (fun t ht hW => ⟨⟨0, (V16, L17), rfl, ⟨hMV16, agV16, alL17, fwV16, (by decide), tx53, cd54, px56⟩, by rw [ht]; exact hP, va_K.moved hW.alike hK, hD⟩, hS.F ht⟩) hS.2.2 dX1_readMethod_27
abbrev r_x_readNeed : Room := { frames := 3, cells := 0, slots := 0, locals := 64 }
abbrev q_x_readNeed (D : va_G) (ks : KS) (ad : Nat → Nat) (kk : Nat → ClassId) (V : Vf) (L : Lf) (Z : XZ) (b : Nat) (go : Nat) (A : Nat → Prop) : Array Value → State → Outcome → State → Prop := va_Qi (fun (r : Int32) (u : Vf × Lf) => rgd bX u.1 ∧ agr [(1, 3), (1, 6), (6, 8), (6, 9), (6, 10)] [43, 44, 49, 58, 59, 60] V u.1 ∧ agL [6, 44] L u.2 ∧ frX (xR b) V u.1 ∧ (0 ≤ r.toInt ∧ r.toInt ≤ 1) ∧ (TX u.1 b) ∧ (CD u.1 b) ∧ (px V u.1 b)) (fun u t => gq D A (xw ad kk u.1 u.2 Z) (xty kk Z) t) A
set_option maxHeartbeats 4000000 in
set_option maxRecDepth 100000 in
theorem x_readNeed (l : Launch) (D : va_G) (ks : KS) (sz : Nat) (ad : Nat → Nat) (kk : Nat → ClassId) (V : Vf) (L : Lf) (Z : XZ) (b : Nat) (go : Nat) (hMV : rgd bX V) (hb2 : b < 2) (rbk : (V 1 1).toInt = (b : Int)) (own : (V 1 2).toInt = (go : Int)) (hgo : go < 48) (hgl : 24 * b ≤ go) (hgh : go < 24 * b + 24) (cd : CD V b) (tx : TX V b)  : Met l yX1_readNeed (Cond.code yX1_readNeed cX1_readNeed 4 (some .boolean) :: GW) r_x_readNeed (va_Pc [.ref (ad 1)] (gp D ks (xw ad kk V L Z) (xty kk Z) sz)) (q_x_readNeed D ks ad kk V L Z  b go (va_A (xw ad kk V L Z) sz)) 0 0 (va_A (xw ad kk V L Z) sz) := by
  refine g_met (q_x_readNeed D ks ad kk V L Z  b go) (by decide) (Nat.le_of_ble_eq_true rfl) ?_
  intro p e s m below meth c A ls H locs hx hb hr hml hown hg hlocks hin hnw hgk hP hK hD hS hA hl
  have hown : s.vm.findClass RX1 = some m.cls := hown
  have hl : lv_has ls 4 [(0, .ref (ad 1))] := hl
  have hP : va_P D vwCl (xw ad kk V L Z) H := hP
  have hD : va_D A (xw ad kk V L Z) := hD
  have hK : va_K D vwCl (xty kk Z) s := hK
  have agV : agr [(1, 3), (1, 6), (6, 8), (6, 9), (6, 10)] [43, 44, 49, 58, 59, 60] V V := agr.rf
  have alL : agL [6, 44] L L := agL.rf
  have fwV : frX (xR b) V V := frX.rf
  have r1 : (-1) ≤ ((V 1 1)).toInt ∧ ((V 1 1)).toInt ≤ 1 := hMV 1 1
  have r2 : (-1) ≤ ((V 1 2)).toInt ∧ ((V 1 2)).toInt ≤ 47 := hMV 1 2
  refine lv_aload_n hx hb dX1_readNeed_0 rfl (lv_at hl 0 rfl) ?_
  refine va_get (D := D) (ci := 1) (v := rfN ad 72 (V 1 2)) (fs := (xfReader ad V L Z)) (C := RX1) (T := TX1) (N := 9) hx hb hg inX1 hown hK hP 1 xgReader rfl 2 (by decide) (hg _ w306) (fun _ h9 => h9) rfl dX1_readNeed_1 ?_
  refine g_topv (v := .ref (ad (72 + go))) (rfN_r (by first | omega | ((try (have i_tx := Imp.go tx (by omega))); (try (have i_cd := Imp.go cd (by omega))); (try (have i_cd := Imp.go cd (by omega))); (try (have i_tx := Imp.go tx (by omega))); omega))) ?_
  refine va_getN (D := D) (ci := 3) (v := .int (V 49 go)) (fs := (xfComp ad V go)) (C := RX3) (T := TX3) (N := 13) hx hb hg inX3 hown hK hP (72 + go) (xgComp hgo) rfl 4 (by decide) (hnw.use 513 n513 rfl) (fun _ h9 => h9) rfl dX1_readNeed_4 ?_
  have r3 : 0 ≤ ((V 49 go)).toInt ∧ ((V 49 go)).toInt ≤ 8 := hMV 49 go
  refine lv_bipush (v := 8) hx hb dX1_readNeed_7 (by decide) ?_
  refine lv_icmp_lt (tgt := 18) hx hb dX1_readNeed_9 (by decide) (fun c4 => ?_) (fun c4 => ?_)
  · skip
    have f5 : ((V 49 go)).toInt < 8 := b_lt rfl (by decide) c4
    refine lv_aload_n hx hb dX1_readNeed_18 rfl (lv_at hl 0 rfl) ?_
    refine va_get (D := D) (ci := 1) (v := .ref (ad 6)) (fs := (xfReader ad V L Z)) (C := RX1) (T := TX1) (N := 9) hx hb hg inX1 hown hK hP 1 xgReader rfl 0 (by decide) (hg _ w304) (fun _ h9 => h9) rfl dX1_readNeed_19 ?_
    refine gA_void (gA_runV (As := []) (rest := []) (ci := 9) (q0 := 6) hx hb hml hown hg hP hD hK hS hA hnw hgk (x_next l D ks H.size ad kk V L Z  hMV ) w871 w852 w853 w157 w854 rfl xgTape hdV_yX9_next ⟨Nat.le_of_ble_eq_true rfl, Nat.le_of_ble_eq_true rfl⟩ rfl hl.1 rfl (Nat.le_of_ble_eq_true rfl) dX1_readNeed_22 ⟨Nat.le_of_ble_eq_true rfl, Nat.le_of_ble_eq_true rfl⟩) hP hD hK hS hA (fun u7 H locs w8 hP hD hK hS => ?_)
    obtain ⟨V9, L10⟩ := u7
    obtain ⟨hMV9, ajV9, axL10⟩ := w8
    have alL10 : agL [6, 44] L L10 := agL.tr alL axL10 (by decide)
    have hP : va_P D vwCl (xw ad kk V9 L10 Z) H := hP
    have hD : va_D A (xw ad kk V9 L10 Z) := hD
    have hMV9 : rgd bX V9 := hMV9
    have ajV9 : agr [(6, 8), (6, 9), (6, 10)] [] V V9 := ajV9
    have agV9 : agr [(1, 3), (1, 6), (6, 8), (6, 9), (6, 10)] [43, 44, 49, 58, 59, 60] V V9 := agV.tr ajV9 (by decide) (by decide)
    have fwV9 : frX (xR b) V V9 := frX.tr fwV (frX.ag ajV9 (by decide) (by decide))
    refine lv_aload_n hx hb dX1_readNeed_25 rfl (lv_at hl 0 rfl) ?_
    refine va_get (D := D) (ci := 1) (v := .ref (ad 6)) (fs := (xfReader ad V9 L10 Z)) (C := RX1) (T := TX1) (N := 9) hx hb hg inX1 hown hK hP 1 xgReader rfl 0 (by decide) (hg _ w304) (fun _ h9 => h9) rfl dX1_readNeed_26 ?_
    refine va_getN (D := D) (ci := 9) (v := .int (V9 6 9)) (fs := (xfTape ad V9 L10 Z)) (C := RX9) (T := TX9) (N := 12) hx hb hg inX9 hown hK hP 6 xgTape rfl 9 (by decide) (hnw.use 262 n262 rfl) (fun _ h9 => h9) rfl dX1_readNeed_29 ?_
    refine lv_sipush (v := 138) hx hb dX1_readNeed_32 (by decide) ?_
    refine lv_icmp_ne (tgt := 42) hx hb dX1_readNeed_35 (by decide) (fun c11 => ?_) (fun c11 => ?_)
    · skip
      have f12 : ((V9 6 9)).toInt ≠ 138 := b_neq rfl (by decide) c11
      refine lv_aload_n hx hb dX1_readNeed_42 rfl (lv_at hl 0 rfl) ?_
      refine va_get (D := D) (ci := 1) (v := .ref (ad 6)) (fs := (xfReader ad V9 L10 Z)) (C := RX1) (T := TX1) (N := 9) hx hb hg inX1 hown hK hP 1 xgReader rfl 0 (by decide) (hg _ w304) (fun _ h9 => h9) rfl dX1_readNeed_43 ?_
      refine va_getN (D := D) (ci := 9) (v := .int (V9 6 9)) (fs := (xfTape ad V9 L10 Z)) (C := RX9) (T := TX9) (N := 12) hx hb hg inX9 hown hK hP 6 xgTape rfl 9 (by decide) (hnw.use 262 n262 rfl) (fun _ h9 => h9) rfl dX1_readNeed_46 ?_
      refine lv_sipush (v := 139) hx hb dX1_readNeed_49 (by decide) ?_
      refine lv_icmp_ne (tgt := 59) hx hb dX1_readNeed_52 (by decide) (fun c13 => ?_) (fun c13 => ?_)
      · skip
        have f14 : ((V9 6 9)).toInt ≠ 139 := b_neq rfl (by decide) c13
        refine lv_iconst (v := 0) hx hb dX1_readNeed_59 (by decide) ?_
        refine lv_istore_n (lv' := [(1, .int 0), (0, .ref (ad 1))]) hx hb dX1_readNeed_60 rfl hl (by decide) rfl (fun ls hl => ?_)
        refine lv_iload_n hx hb dX1_readNeed_61 rfl (lv_at hl 0 rfl) ?_
        refine lv_if_eq (tgt := 72) hx hb dX1_readNeed_62 (by decide) (fun _ => ?_) (fun q => absurd (by decide) q)
        refine lv_aload_n hx hb dX1_readNeed_72 rfl (lv_at hl 1 rfl) ?_
        have pq15 : (V9 1 1).toInt = ((V 1 1)).toInt := congrArg Int32.toInt (ajV9 1 1 rfl)
        refine gA_int (gA_runV (As := []) (rest := []) (ci := 1) (q0 := 1) hx hb hml hown hg hP hD hK hS hA hnw hgk (x_isToldType l D ks H.size ad kk V9 L10 Z (b) hMV9 (show b < 2 from by first | omega | ((try (have i_tx := Imp.go tx (by omega))); (try (have i_cd := Imp.go cd (by omega))); (try (have i_cd := Imp.go cd (by omega))); (try (have i_tx := Imp.go tx (by omega))); omega)) (show (V9 1 1).toInt = (b : Int) from by first | omega | ((try (have i_tx := Imp.go tx (by omega))); (try (have i_cd := Imp.go cd (by omega))); (try (have i_cd := Imp.go cd (by omega))); (try (have i_tx := Imp.go tx (by omega))); omega))) w888 w890 w9 w162 w891 rfl xgReader hdV_yX1_isToldType ⟨Nat.le_of_ble_eq_true rfl, Nat.le_of_ble_eq_true rfl⟩ rfl hl.1 rfl (Nat.le_of_ble_eq_true rfl) dX1_readNeed_73 ⟨Nat.le_of_ble_eq_true rfl, Nat.le_of_ble_eq_true rfl⟩) hP hD hK hS hA (fun z16 u17 H locs w18 hP hD hK hS => ?_)
        obtain ⟨V20, L21⟩ := u17
        obtain ⟨hMV20, ajV20, axL21, rgz16, t19⟩ := w18
        have axL21 : L10 = L21 := Eq.symm axL21
        subst axL21
        have hP : va_P D vwCl (xw ad kk V20 L10 Z) H := hP
        have hD : va_D A (xw ad kk V20 L10 Z) := hD
        have hMV20 : rgd bX V20 := hMV20
        have ajV20 : agr [(1, 3), (1, 6)] [] V9 V20 := ajV20
        have agV20 : agr [(1, 3), (1, 6), (6, 8), (6, 9), (6, 10)] [43, 44, 49, 58, 59, 60] V V20 := agV9.tr ajV20 (by decide) (by decide)
        have fwV20 : frX (xR b) V V20 := frX.tr fwV9 (frX.ag ajV20 (by decide) (by decide))
        have rgz16 : 0 ≤ z16.toInt ∧ z16.toInt ≤ 1 := rgz16
        have t19 : Imp (z16.toInt = 1) (0 ≤ (V20 1 6).toInt ∧ (V20 1 6).toInt ≤ 23) := t19
        have r22 : (-1) ≤ ((V20 1 6)).toInt ∧ ((V20 1 6)).toInt ≤ 23 := hMV20 1 6
        refine lv_if_ne (tgt := 81) hx hb dX1_readNeed_76 (by decide) (fun c23 => ?_) (fun c23 => ?_)
        · skip
          have f24 : z16.toInt ≠ 0 := b_neq rfl (by decide) c23
          refine lv_aload_n hx hb dX1_readNeed_81 rfl (lv_at hl 1 rfl) ?_
          refine va_get (D := D) (ci := 1) (v := .int (V20 1 6)) (fs := (xfReader ad V20 L10 Z)) (C := RX1) (T := TX1) (N := 9) hx hb hg inX1 hown hK hP 1 xgReader rfl 6 (by decide) (hg _ w310) (fun _ h9 => h9) rfl dX1_readNeed_82 ?_
          refine lv_istore_n (lv' := [(2, .int (V20 1 6)), (1, .int 0), (0, .ref (ad 1))]) hx hb dX1_readNeed_85 rfl hl (by decide) rfl (fun ls hl => ?_)
          refine lv_iconst (v := (-1)) hx hb dX1_readNeed_86 (by decide) ?_
          refine lv_istore_n (lv' := [(3, .int (-1)), (2, .int (V20 1 6)), (1, .int 0), (0, .ref (ad 1))]) hx hb dX1_readNeed_87 rfl hl (by decide) rfl (fun ls hl => ?_)
          refine lv_aload_n hx hb dX1_readNeed_88 rfl (lv_at hl 3 rfl) ?_
          refine va_get (D := D) (ci := 1) (v := .ref (ad 6)) (fs := (xfReader ad V20 L10 Z)) (C := RX1) (T := TX1) (N := 9) hx hb hg inX1 hown hK hP 1 xgReader rfl 0 (by decide) (hg _ w304) (fun _ h9 => h9) rfl dX1_readNeed_89 ?_
          refine gA_void (gA_runV (As := []) (rest := []) (ci := 9) (q0 := 6) hx hb hml hown hg hP hD hK hS hA hnw hgk (x_next l D ks H.size ad kk V20 L10 Z  hMV20 ) w871 w852 w853 w157 w854 rfl xgTape hdV_yX9_next ⟨Nat.le_of_ble_eq_true rfl, Nat.le_of_ble_eq_true rfl⟩ rfl hl.1 rfl (Nat.le_of_ble_eq_true rfl) dX1_readNeed_92 ⟨Nat.le_of_ble_eq_true rfl, Nat.le_of_ble_eq_true rfl⟩) hP hD hK hS hA (fun u26 H locs w27 hP hD hK hS => ?_)
          obtain ⟨V28, L29⟩ := u26
          obtain ⟨hMV28, ajV28, axL29⟩ := w27
          have alL29 : agL [6, 44] L L29 := agL.tr alL10 axL29 (by decide)
          have hP : va_P D vwCl (xw ad kk V28 L29 Z) H := hP
          have hD : va_D A (xw ad kk V28 L29 Z) := hD
          have hMV28 : rgd bX V28 := hMV28
          have ajV28 : agr [(6, 8), (6, 9), (6, 10)] [] V20 V28 := ajV28
          have agV28 : agr [(1, 3), (1, 6), (6, 8), (6, 9), (6, 10)] [43, 44, 49, 58, 59, 60] V V28 := agV20.tr ajV28 (by decide) (by decide)
          have fwV28 : frX (xR b) V V28 := frX.tr fwV20 (frX.ag ajV28 (by decide) (by decide))
          refine lv_iload_n hx hb dX1_readNeed_95 rfl (lv_at hl 2 rfl) ?_
          refine lv_iconst (v := 2) hx hb dX1_readNeed_96 (by decide) ?_
          refine lv_icmp_eq (tgt := 127) hx hb dX1_readNeed_97 (by decide) (fun q => absurd q (by decide)) (fun _ => ?_)
          refine lv_aload_n hx hb dX1_readNeed_100 rfl (lv_at hl 3 rfl) ?_
          refine va_get (D := D) (ci := 1) (v := .ref (ad 6)) (fs := (xfReader ad V28 L29 Z)) (C := RX1) (T := TX1) (N := 9) hx hb hg inX1 hown hK hP 1 xgReader rfl 0 (by decide) (hg _ w304) (fun _ h9 => h9) rfl dX1_readNeed_101 ?_
          refine va_getN (D := D) (ci := 9) (v := .int (V28 6 9)) (fs := (xfTape ad V28 L29 Z)) (C := RX9) (T := TX9) (N := 12) hx hb hg inX9 hown hK hP 6 xgTape rfl 9 (by decide) (hnw.use 262 n262 rfl) (fun _ h9 => h9) rfl dX1_readNeed_104 ?_
          refine lv_sipush (v := 133) hx hb dX1_readNeed_107 (by decide) ?_
          refine lv_icmp_ne (tgt := 127) hx hb dX1_readNeed_110 (by decide) (fun c30 => ?_) (fun c30 => ?_)
          · skip
            have f31 : ((V28 6 9)).toInt ≠ 133 := b_neq rfl (by decide) c30
            refine lv_aload_n hx hb dX1_readNeed_127 rfl (lv_at hl 3 rfl) ?_
            refine lv_bipush (v := 59) hx hb dX1_readNeed_128 (by decide) ?_
            have r32 : Int32.toInt 59 = 59 := by decide
            refine gA_int (gA_runV (As := [.int 59]) (rest := []) (ci := 1) (q0 := 1) hx hb hml hown hg hP hD hK hS hA hnw hgk (x_take l D ks H.size ad kk V28 L29 Z 59 hMV28 ) w893 w895 w10 w162 w896 rfl xgReader hdV_yX1_take ⟨Nat.le_of_ble_eq_true rfl, Nat.le_of_ble_eq_true rfl⟩ rfl hl.1 rfl (Nat.le_of_ble_eq_true rfl) dX1_readNeed_130 ⟨Nat.le_of_ble_eq_true rfl, Nat.le_of_ble_eq_true rfl⟩) hP hD hK hS hA (fun z33 u34 H locs w35 hP hD hK hS => ?_)
            obtain ⟨V36, L37⟩ := u34
            obtain ⟨hMV36, ajV36, axL37, rgz33⟩ := w35
            have alL37 : agL [6, 44] L L37 := agL.tr alL29 axL37 (by decide)
            have hP : va_P D vwCl (xw ad kk V36 L37 Z) H := hP
            have hD : va_D A (xw ad kk V36 L37 Z) := hD
            have hMV36 : rgd bX V36 := hMV36
            have ajV36 : agr [(1, 3), (6, 8), (6, 9), (6, 10)] [] V28 V36 := ajV36
            have agV36 : agr [(1, 3), (1, 6), (6, 8), (6, 9), (6, 10)] [43, 44, 49, 58, 59, 60] V V36 := agV28.tr ajV36 (by decide) (by decide)
            have fwV36 : frX (xR b) V V36 := frX.tr fwV28 (frX.ag ajV36 (by decide) (by decide))
            have rgz33 : 0 ≤ z33.toInt ∧ z33.toInt ≤ 1 := rgz33
            refine lv_if_ne (tgt := 138) hx hb dX1_readNeed_133 (by decide) (fun c38 => ?_) (fun c38 => ?_)
            · skip
              have f39 : z33.toInt ≠ 0 := b_neq rfl (by decide) c38
              refine lv_aload_n hx hb dX1_readNeed_138 rfl (lv_at hl 3 rfl) ?_
              refine va_get (D := D) (ci := 1) (v := rfN ad 72 (V36 1 2)) (fs := (xfReader ad V36 L37 Z)) (C := RX1) (T := TX1) (N := 9) hx hb hg inX1 hown hK hP 1 xgReader rfl 2 (by decide) (hg _ w306) (fun _ h9 => h9) rfl dX1_readNeed_139 ?_
              have pq40 : (V36 1 2).toInt = ((V 1 2)).toInt := congrArg Int32.toInt ((ajV36 1 2 rfl).trans ((ajV28 1 2 rfl).trans ((ajV20 1 2 rfl).trans (ajV9 1 2 rfl))))
              refine g_topv (v := .ref (ad (72 + go))) (rfN_r (by first | omega | ((try (have i_t19 := Imp.go t19 (by omega))); (try (have i_tx := Imp.go tx (by omega))); (try (have i_cd := Imp.go cd (by omega))); (try (have i_cd := Imp.go cd (by omega))); (try (have i_tx := Imp.go tx (by omega))); (try (have i_t19 := Imp.go t19 (by omega))); omega))) ?_
              refine lv_iload_n hx hb dX1_readNeed_142 rfl (lv_at hl 2 rfl) ?_
              refine lv_iload_n hx hb dX1_readNeed_143 rfl (lv_at hl 1 rfl) ?_
              refine lv_iload_n hx hb dX1_readNeed_144 rfl (lv_at hl 0 rfl) ?_
              have r41 : Int32.toInt 0 = 0 := by decide
              have r42 : Int32.toInt (-1) = (-1) := by decide
              refine gA_void (gA_runV (As := [.int 0, .int (V20 1 6), .int (-1)]) (rest := []) (ci := 3) (q0 := (72 + go)) hx hb hml hown hg hP hD hK hS hA hnw hgk (x_addNeed l D ks H.size ad kk V36 L37 Z 0 (V20 1 6) (-1) (go) hMV36 (show go < 48 from by first | omega | ((try (have i_t19 := Imp.go t19 (by omega))); (try (have i_tx := Imp.go tx (by omega))); (try (have i_cd := Imp.go cd (by omega))); (try (have i_cd := Imp.go cd (by omega))); (try (have i_tx := Imp.go tx (by omega))); (try (have i_t19 := Imp.go t19 (by omega))); omega))) w1011 w1012 w1013 w169 w1014 rfl (xgComp hgo) hdV_yX3_addNeed ⟨Nat.le_of_ble_eq_true rfl, Nat.le_of_ble_eq_true rfl⟩ rfl hl.1 rfl (Nat.le_of_ble_eq_true rfl) dX1_readNeed_145 ⟨Nat.le_of_ble_eq_true rfl, Nat.le_of_ble_eq_true rfl⟩) hP hD hK hS hA (fun u44 H locs w45 hP hD hK hS => ?_)
              obtain ⟨V46, L47⟩ := u44
              obtain ⟨hMV46, ajV46, axL47, fyV46⟩ := w45
              have axL47 : L37 = L47 := Eq.symm axL47
              subst axL47
              have hP : va_P D vwCl (xw ad kk V46 L37 Z) H := hP
              have hD : va_D A (xw ad kk V46 L37 Z) := hD
              have hMV46 : rgd bX V46 := hMV46
              have ajV46 : agr [] [49, 58, 59, 60] V36 V46 := ajV46
              have agV46 : agr [(1, 3), (1, 6), (6, 8), (6, 9), (6, 10)] [43, 44, 49, 58, 59, 60] V V46 := agV36.tr ajV46 (by decide) (by decide)
              have fwV46 : frX (xR b) V V46 := frX.tr fwV36 (frX_IB fyV46 (by first | omega | ((try (have i_t19 := Imp.go t19 (by omega))); (try (have i_tx := Imp.go tx (by omega))); (try (have i_cd := Imp.go cd (by omega))); (try (have i_cd := Imp.go cd (by omega))); (try (have i_tx := Imp.go tx (by omega))); (try (have i_t19 := Imp.go t19 (by omega))); omega)) (by first | omega | ((try (have i_t19 := Imp.go t19 (by omega))); (try (have i_tx := Imp.go tx (by omega))); (try (have i_cd := Imp.go cd (by omega))); (try (have i_cd := Imp.go cd (by omega))); (try (have i_tx := Imp.go tx (by omega))); (try (have i_t19 := Imp.go t19 (by omega))); omega)))
              refine lv_iconst (v := 1) hx hb dX1_readNeed_148 (by decide) ?_
              have px48 : px V V46 b := px.tr (px.rf : px V V b) (px.ag (show agr [(1, 3), (1, 6), (6, 8), (6, 9), (6, 10)] [49, 58, 59, 60] V V46 from (agr.tr (agr.tr (agr.tr (agr.tr (agr.tr agr.rf ajV9 (by decide) (by decide)) ajV20 (by decide) (by decide)) ajV28 (by decide) (by decide)) ajV36 (by decide) (by decide)) ajV46 (by decide) (by decide))) (fun _ => rfl) (fun _ => rfl) (fun _ => rfl))
              have tx49 : TX V46 b := TX.ag tx (show agr [(1, 3), (1, 6), (6, 8), (6, 9), (6, 10)] [49, 58, 59, 60] V V46 from (agr.tr (agr.tr (agr.tr (agr.tr (agr.tr agr.rf ajV9 (by decide) (by decide)) ajV20 (by decide) (by decide)) ajV28 (by decide) (by decide)) ajV36 (by decide) (by decide)) ajV46 (by decide) (by decide))) px48 (fun _ => rfl) (fun _ => rfl) (fun _ => rfl) (fun _ => rfl) (fun _ => rfl) (fun _ => rfl)
              have cd50 : CD V46 b := ⟨CB.ag cd.1 (show agr [(1, 3), (1, 6), (6, 8), (6, 9), (6, 10)] [49, 58, 59, 60] V V46 from (agr.tr (agr.tr (agr.tr (agr.tr (agr.tr agr.rf ajV9 (by decide) (by decide)) ajV20 (by decide) (by decide)) ajV28 (by decide) (by decide)) ajV36 (by decide) (by decide)) ajV46 (by decide) (by decide))) (fun _ => rfl) (fun _ => rfl), CO.ag cd.2 (show agr [(1, 3), (1, 6), (6, 8), (6, 9), (6, 10)] [49, 58, 59, 60] V V46 from (agr.tr (agr.tr (agr.tr (agr.tr (agr.tr agr.rf ajV9 (by decide) (by decide)) ajV20 (by decide) (by decide)) ajV28 (by decide) (by decide)) ajV36 (by decide) (by decide)) ajV46 (by decide) (by decide))) (fun _ => rfl) (fun _ => rfl)⟩
              have px51 : px V V46 b := px.tr (px.rf : px V V b) (px.ag (show agr [(1, 3), (1, 6), (6, 8), (6, 9), (6, 10)] [49, 58, 59, 60] V V46 from (agr.tr (agr.tr (agr.tr (agr.tr (agr.tr agr.rf ajV9 (by decide) (by decide)) ajV20 (by decide) (by decide)) ajV28 (by decide) (by decide)) ajV36 (by decide) (by decide)) ajV46 (by decide) (by decide))) (fun _ => rfl) (fun _ => rfl) (fun _ => rfl))
              exact W.zret (v := 1) hx hb hr rfl (fun t ht hW => ⟨⟨1, (V46, L37), rfl, ⟨hMV46, agV46, alL37, fwV46, (by decide), tx49, cd50, px51⟩, by rw [ht]; exact hP, va_K.moved hW.alike hK, hD⟩, hS.F ht⟩) hS.2.2 dX1_readNeed_149
            · skip
              have f52 : z33.toInt = 0 := b_eq rfl (by decide) c38
              refine lv_iconst (v := 0) hx hb dX1_readNeed_136 (by decide) ?_
              have px53 : px V V36 b := px.tr (px.rf : px V V b) (px.ag (show agr [(1, 3), (1, 6), (6, 8), (6, 9), (6, 10)] [] V V36 from (agr.tr (agr.tr (agr.tr (agr.tr agr.rf ajV9 (by decide) (by decide)) ajV20 (by decide) (by decide)) ajV28 (by decide) (by decide)) ajV36 (by decide) (by decide))) (fun _ => rfl) (fun _ => rfl) (fun _ => rfl))
              have tx54 : TX V36 b := TX.ag tx (show agr [(1, 3), (1, 6), (6, 8), (6, 9), (6, 10)] [] V V36 from (agr.tr (agr.tr (agr.tr (agr.tr agr.rf ajV9 (by decide) (by decide)) ajV20 (by decide) (by decide)) ajV28 (by decide) (by decide)) ajV36 (by decide) (by decide))) px53 (fun _ => rfl) (fun _ => rfl) (fun _ => rfl) (fun _ => rfl) (fun _ => rfl) (fun _ => rfl)
              have cd55 : CD V36 b := ⟨CB.ag cd.1 (show agr [(1, 3), (1, 6), (6, 8), (6, 9), (6, 10)] [] V V36 from (agr.tr (agr.tr (agr.tr (agr.tr agr.rf ajV9 (by decide) (by decide)) ajV20 (by decide) (by decide)) ajV28 (by decide) (by decide)) ajV36 (by decide) (by decide))) (fun _ => rfl) (fun _ => rfl), CO.ag cd.2 (show agr [(1, 3), (1, 6), (6, 8), (6, 9), (6, 10)] [] V V36 from (agr.tr (agr.tr (agr.tr (agr.tr agr.rf ajV9 (by decide) (by decide)) ajV20 (by decide) (by decide)) ajV28 (by decide) (by decide)) ajV36 (by decide) (by decide))) (fun _ => rfl) (fun _ => rfl)⟩
              have px56 : px V V36 b := px.tr (px.rf : px V V b) (px.ag (show agr [(1, 3), (1, 6), (6, 8), (6, 9), (6, 10)] [] V V36 from (agr.tr (agr.tr (agr.tr (agr.tr agr.rf ajV9 (by decide) (by decide)) ajV20 (by decide) (by decide)) ajV28 (by decide) (by decide)) ajV36 (by decide) (by decide))) (fun _ => rfl) (fun _ => rfl) (fun _ => rfl))
              exact W.zret (v := 0) hx hb hr rfl (fun t ht hW => ⟨⟨0, (V36, L37), rfl, ⟨hMV36, agV36, alL37, fwV36, (by decide), tx54, cd55, px56⟩, by rw [ht]; exact hP, va_K.moved hW.alike hK, hD⟩, hS.F ht⟩) hS.2.2 dX1_readNeed_137
          · skip
            have f57 : ((V28 6 9)).toInt = 133 := b_eq rfl (by decide) c30
            refine lv_aload_n hx hb dX1_readNeed_113 rfl (lv_at hl 3 rfl) ?_
            have pq58 : (V28 1 1).toInt = ((V 1 1)).toInt := congrArg Int32.toInt ((ajV28 1 1 rfl).trans ((ajV20 1 1 rfl).trans (ajV9 1 1 rfl)))
            refine gA_int (gA_runV (As := []) (rest := []) (ci := 1) (q0 := 1) hx hb hml hown hg hP hD hK hS hA hnw hgk (x_takeCalled l D ks H.size ad kk V28 L29 Z (b) hMV28 (show b < 2 from by first | omega | ((try (have i_t19 := Imp.go t19 (by omega))); (try (have i_tx := Imp.go tx (by omega))); (try (have i_cd := Imp.go cd (by omega))); (try (have i_cd := Imp.go cd (by omega))); (try (have i_tx := Imp.go tx (by omega))); (try (have i_t19 := Imp.go t19 (by omega))); omega)) (show (V28 1 1).toInt = (b : Int) from by first | omega | ((try (have i_t19 := Imp.go t19 (by omega))); (try (have i_tx := Imp.go tx (by omega))); (try (have i_cd := Imp.go cd (by omega))); (try (have i_cd := Imp.go cd (by omega))); (try (have i_tx := Imp.go tx (by omega))); (try (have i_t19 := Imp.go t19 (by omega))); omega))) w923 w925 w15 w162 w926 rfl xgReader hdV_yX1_takeCalled ⟨Nat.le_of_ble_eq_true rfl, Nat.le_of_ble_eq_true rfl⟩ rfl hl.1 rfl (Nat.le_of_ble_eq_true rfl) dX1_readNeed_114 ⟨Nat.le_of_ble_eq_true rfl, Nat.le_of_ble_eq_true rfl⟩) hP hD hK hS hA (fun z59 u60 H locs w61 hP hD hK hS => ?_)
            obtain ⟨V63, L64⟩ := u60
            obtain ⟨hMV63, ajV63, axL64, fyV63, rgz59, t62⟩ := w61
            have alL64 : agL [6, 44] L L64 := agL.tr alL29 axL64 (by decide)
            have hP : va_P D vwCl (xw ad kk V63 L64 Z) H := hP
            have hD : va_D A (xw ad kk V63 L64 Z) := hD
            have hMV63 : rgd bX V63 := hMV63
            have ajV63 : agr [(1, 3), (1, 6), (6, 8), (6, 9), (6, 10)] [43, 44] V28 V63 := ajV63
            have agV63 : agr [(1, 3), (1, 6), (6, 8), (6, 9), (6, 10)] [43, 44, 49, 58, 59, 60] V V63 := agV28.tr ajV63 (by decide) (by decide)
            have fwV63 : frX (xR b) V V63 := frX.tr fwV28 (fyV63)
            have rgz59 : 0 ≤ z59.toInt ∧ z59.toInt ≤ 1 := rgz59
            have t62 : px V28 V63 b := t62
            refine lv_if_ne (tgt := 122) hx hb dX1_readNeed_117 (by decide) (fun c65 => ?_) (fun c65 => ?_)
            · skip
              have f66 : z59.toInt ≠ 0 := b_neq rfl (by decide) c65
              refine lv_aload_n hx hb dX1_readNeed_122 rfl (lv_at hl 3 rfl) ?_
              refine va_get (D := D) (ci := 1) (v := .int (V63 1 6)) (fs := (xfReader ad V63 L64 Z)) (C := RX1) (T := TX1) (N := 9) hx hb hg inX1 hown hK hP 1 xgReader rfl 6 (by decide) (hg _ w310) (fun _ h9 => h9) rfl dX1_readNeed_123 ?_
              have r67 : (-1) ≤ ((V63 1 6)).toInt ∧ ((V63 1 6)).toInt ≤ 23 := hMV63 1 6
              refine lv_istore_n (lv' := [(3, .int (V63 1 6)), (2, .int (V20 1 6)), (1, .int 0), (0, .ref (ad 1))]) hx hb dX1_readNeed_126 rfl hl (by decide) rfl (fun ls hl => ?_)
              refine lv_aload_n hx hb dX1_readNeed_127 rfl (lv_at hl 3 rfl) ?_
              refine lv_bipush (v := 59) hx hb dX1_readNeed_128 (by decide) ?_
              have r68 : Int32.toInt 59 = 59 := by decide
              refine gA_int (gA_runV (As := [.int 59]) (rest := []) (ci := 1) (q0 := 1) hx hb hml hown hg hP hD hK hS hA hnw hgk (x_take l D ks H.size ad kk V63 L64 Z 59 hMV63 ) w893 w895 w10 w162 w896 rfl xgReader hdV_yX1_take ⟨Nat.le_of_ble_eq_true rfl, Nat.le_of_ble_eq_true rfl⟩ rfl hl.1 rfl (Nat.le_of_ble_eq_true rfl) dX1_readNeed_130 ⟨Nat.le_of_ble_eq_true rfl, Nat.le_of_ble_eq_true rfl⟩) hP hD hK hS hA (fun z69 u70 H locs w71 hP hD hK hS => ?_)
              obtain ⟨V72, L73⟩ := u70
              obtain ⟨hMV72, ajV72, axL73, rgz69⟩ := w71
              have alL73 : agL [6, 44] L L73 := agL.tr alL64 axL73 (by decide)
              have hP : va_P D vwCl (xw ad kk V72 L73 Z) H := hP
              have hD : va_D A (xw ad kk V72 L73 Z) := hD
              have hMV72 : rgd bX V72 := hMV72
              have ajV72 : agr [(1, 3), (6, 8), (6, 9), (6, 10)] [] V63 V72 := ajV72
              have agV72 : agr [(1, 3), (1, 6), (6, 8), (6, 9), (6, 10)] [43, 44, 49, 58, 59, 60] V V72 := agV63.tr ajV72 (by decide) (by decide)
              have fwV72 : frX (xR b) V V72 := frX.tr fwV63 (frX.ag ajV72 (by decide) (by decide))
              have rgz69 : 0 ≤ z69.toInt ∧ z69.toInt ≤ 1 := rgz69
              refine lv_if_ne (tgt := 138) hx hb dX1_readNeed_133 (by decide) (fun c74 => ?_) (fun c74 => ?_)
              · skip
                have f75 : z69.toInt ≠ 0 := b_neq rfl (by decide) c74
                refine lv_aload_n hx hb dX1_readNeed_138 rfl (lv_at hl 3 rfl) ?_
                refine va_get (D := D) (ci := 1) (v := rfN ad 72 (V72 1 2)) (fs := (xfReader ad V72 L73 Z)) (C := RX1) (T := TX1) (N := 9) hx hb hg inX1 hown hK hP 1 xgReader rfl 2 (by decide) (hg _ w306) (fun _ h9 => h9) rfl dX1_readNeed_139 ?_
                have pq76 : (V72 1 2).toInt = ((V 1 2)).toInt := congrArg Int32.toInt ((ajV72 1 2 rfl).trans ((ajV63 1 2 rfl).trans ((ajV28 1 2 rfl).trans ((ajV20 1 2 rfl).trans (ajV9 1 2 rfl)))))
                refine g_topv (v := .ref (ad (72 + go))) (rfN_r (by first | omega | ((try (have i_t19 := Imp.go t19 (by omega))); (try (have i_tx := Imp.go tx (by omega))); (try (have i_cd := Imp.go cd (by omega))); (try (have i_cd := Imp.go cd (by omega))); (try (have i_tx := Imp.go tx (by omega))); (try (have i_t19 := Imp.go t19 (by omega))); omega))) ?_
                refine lv_iload_n hx hb dX1_readNeed_142 rfl (lv_at hl 2 rfl) ?_
                refine lv_iload_n hx hb dX1_readNeed_143 rfl (lv_at hl 1 rfl) ?_
                refine lv_iload_n hx hb dX1_readNeed_144 rfl (lv_at hl 0 rfl) ?_
                have r77 : Int32.toInt 0 = 0 := by decide
                refine gA_void (gA_runV (As := [.int 0, .int (V20 1 6), .int (V63 1 6)]) (rest := []) (ci := 3) (q0 := (72 + go)) hx hb hml hown hg hP hD hK hS hA hnw hgk (x_addNeed l D ks H.size ad kk V72 L73 Z 0 (V20 1 6) (V63 1 6) (go) hMV72 (show go < 48 from by first | omega | ((try (have i_t19 := Imp.go t19 (by omega))); (try (have i_tx := Imp.go tx (by omega))); (try (have i_cd := Imp.go cd (by omega))); (try (have i_cd := Imp.go cd (by omega))); (try (have i_tx := Imp.go tx (by omega))); (try (have i_t19 := Imp.go t19 (by omega))); omega))) w1011 w1012 w1013 w169 w1014 rfl (xgComp hgo) hdV_yX3_addNeed ⟨Nat.le_of_ble_eq_true rfl, Nat.le_of_ble_eq_true rfl⟩ rfl hl.1 rfl (Nat.le_of_ble_eq_true rfl) dX1_readNeed_145 ⟨Nat.le_of_ble_eq_true rfl, Nat.le_of_ble_eq_true rfl⟩) hP hD hK hS hA (fun u79 H locs w80 hP hD hK hS => ?_)
                obtain ⟨V81, L82⟩ := u79
                obtain ⟨hMV81, ajV81, axL82, fyV81⟩ := w80
                have axL82 : L73 = L82 := Eq.symm axL82
                subst axL82
                have hP : va_P D vwCl (xw ad kk V81 L73 Z) H := hP
                have hD : va_D A (xw ad kk V81 L73 Z) := hD
                have hMV81 : rgd bX V81 := hMV81
                have ajV81 : agr [] [49, 58, 59, 60] V72 V81 := ajV81
                have agV81 : agr [(1, 3), (1, 6), (6, 8), (6, 9), (6, 10)] [43, 44, 49, 58, 59, 60] V V81 := agV72.tr ajV81 (by decide) (by decide)
                have fwV81 : frX (xR b) V V81 := frX.tr fwV72 (frX_IB fyV81 (by first | omega | ((try (have i_t19 := Imp.go t19 (by omega))); (try (have i_tx := Imp.go tx (by omega))); (try (have i_cd := Imp.go cd (by omega))); (try (have i_cd := Imp.go cd (by omega))); (try (have i_tx := Imp.go tx (by omega))); (try (have i_t19 := Imp.go t19 (by omega))); omega)) (by first | omega | ((try (have i_t19 := Imp.go t19 (by omega))); (try (have i_tx := Imp.go tx (by omega))); (try (have i_cd := Imp.go cd (by omega))); (try (have i_cd := Imp.go cd (by omega))); (try (have i_tx := Imp.go tx (by omega))); (try (have i_t19 := Imp.go t19 (by omega))); omega)))
                refine lv_iconst (v := 1) hx hb dX1_readNeed_148 (by decide) ?_
                have px83 : px V V28 b := px.tr (px.rf : px V V b) (px.ag (show agr [(1, 3), (1, 6), (6, 8), (6, 9), (6, 10)] [] V V28 from (agr.tr (agr.tr (agr.tr agr.rf ajV9 (by decide) (by decide)) ajV20 (by decide) (by decide)) ajV28 (by decide) (by decide))) (fun _ => rfl) (fun _ => rfl) (fun _ => rfl))
                have px84 : px V V63 b := px.tr px83 t62
                have px85 : px V V81 b := px.tr px84 (px.ag (show agr [(1, 3), (6, 8), (6, 9), (6, 10)] [49, 58, 59, 60] V63 V81 from (agr.tr (agr.tr agr.rf ajV72 (by decide) (by decide)) ajV81 (by decide) (by decide))) (fun _ => rfl) (fun _ => rfl) (fun _ => rfl))
                have tx86 : TX V81 b := TX.ag tx (show agr [(1, 3), (1, 6), (6, 8), (6, 9), (6, 10)] [43, 44, 49, 58, 59, 60] V V81 from (agr.tr (agr.tr (agr.tr (agr.tr (agr.tr (agr.tr agr.rf ajV9 (by decide) (by decide)) ajV20 (by decide) (by decide)) ajV28 (by decide) (by decide)) ajV63 (by decide) (by decide)) ajV72 (by decide) (by decide)) ajV81 (by decide) (by decide))) px85 (fun _ => rfl) (fun _ => rfl) (fun _ => rfl) (fun _ => rfl) (fun _ => rfl) (fun _ => rfl)
                have cd87 : CD V81 b := ⟨CB.ag cd.1 (show agr [(1, 3), (1, 6), (6, 8), (6, 9), (6, 10)] [43, 44, 49, 58, 59, 60] V V81 from (agr.tr (agr.tr (agr.tr (agr.tr (agr.tr (agr.tr agr.rf ajV9 (by decide) (by decide)) ajV20 (by decide) (by decide)) ajV28 (by decide) (by decide)) ajV63 (by decide) (by decide)) ajV72 (by decide) (by decide)) ajV81 (by decide) (by decide))) (fun _ => rfl) (fun _ => rfl), CO.ag cd.2 (show agr [(1, 3), (1, 6), (6, 8), (6, 9), (6, 10)] [43, 44, 49, 58, 59, 60] V V81 from (agr.tr (agr.tr (agr.tr (agr.tr (agr.tr (agr.tr agr.rf ajV9 (by decide) (by decide)) ajV20 (by decide) (by decide)) ajV28 (by decide) (by decide)) ajV63 (by decide) (by decide)) ajV72 (by decide) (by decide)) ajV81 (by decide) (by decide))) (fun _ => rfl) (fun _ => rfl)⟩
                have px88 : px V V28 b := px.tr (px.rf : px V V b) (px.ag (show agr [(1, 3), (1, 6), (6, 8), (6, 9), (6, 10)] [] V V28 from (agr.tr (agr.tr (agr.tr agr.rf ajV9 (by decide) (by decide)) ajV20 (by decide) (by decide)) ajV28 (by decide) (by decide))) (fun _ => rfl) (fun _ => rfl) (fun _ => rfl))
                have px89 : px V V63 b := px.tr px88 t62
                have px90 : px V V81 b := px.tr px89 (px.ag (show agr [(1, 3), (6, 8), (6, 9), (6, 10)] [49, 58, 59, 60] V63 V81 from (agr.tr (agr.tr agr.rf ajV72 (by decide) (by decide)) ajV81 (by decide) (by decide))) (fun _ => rfl) (fun _ => rfl) (fun _ => rfl))
                exact W.zret (v := 1) hx hb hr rfl (fun t ht hW => ⟨⟨1, (V81, L73), rfl, ⟨hMV81, agV81, alL73, fwV81, (by decide), tx86, cd87, px90⟩, by rw [ht]; exact hP, va_K.moved hW.alike hK, hD⟩, hS.F ht⟩) hS.2.2 dX1_readNeed_149
              · skip
                have f91 : z69.toInt = 0 := b_eq rfl (by decide) c74
                refine lv_iconst (v := 0) hx hb dX1_readNeed_136 (by decide) ?_
                have px92 : px V V28 b := px.tr (px.rf : px V V b) (px.ag (show agr [(1, 3), (1, 6), (6, 8), (6, 9), (6, 10)] [] V V28 from (agr.tr (agr.tr (agr.tr agr.rf ajV9 (by decide) (by decide)) ajV20 (by decide) (by decide)) ajV28 (by decide) (by decide))) (fun _ => rfl) (fun _ => rfl) (fun _ => rfl))
                have px93 : px V V63 b := px.tr px92 t62
                have px94 : px V V72 b := px.tr px93 (px.ag (show agr [(1, 3), (6, 8), (6, 9), (6, 10)] [] V63 V72 from (agr.tr agr.rf ajV72 (by decide) (by decide))) (fun _ => rfl) (fun _ => rfl) (fun _ => rfl))
                have tx95 : TX V72 b := TX.ag tx (show agr [(1, 3), (1, 6), (6, 8), (6, 9), (6, 10)] [43, 44] V V72 from (agr.tr (agr.tr (agr.tr (agr.tr (agr.tr agr.rf ajV9 (by decide) (by decide)) ajV20 (by decide) (by decide)) ajV28 (by decide) (by decide)) ajV63 (by decide) (by decide)) ajV72 (by decide) (by decide))) px94 (fun _ => rfl) (fun _ => rfl) (fun _ => rfl) (fun _ => rfl) (fun _ => rfl) (fun _ => rfl)
                have cd96 : CD V72 b := ⟨CB.ag cd.1 (show agr [(1, 3), (1, 6), (6, 8), (6, 9), (6, 10)] [43, 44] V V72 from (agr.tr (agr.tr (agr.tr (agr.tr (agr.tr agr.rf ajV9 (by decide) (by decide)) ajV20 (by decide) (by decide)) ajV28 (by decide) (by decide)) ajV63 (by decide) (by decide)) ajV72 (by decide) (by decide))) (fun _ => rfl) (fun _ => rfl), CO.ag cd.2 (show agr [(1, 3), (1, 6), (6, 8), (6, 9), (6, 10)] [43, 44] V V72 from (agr.tr (agr.tr (agr.tr (agr.tr (agr.tr agr.rf ajV9 (by decide) (by decide)) ajV20 (by decide) (by decide)) ajV28 (by decide) (by decide)) ajV63 (by decide) (by decide)) ajV72 (by decide) (by decide))) (fun _ => rfl) (fun _ => rfl)⟩
                have px97 : px V V28 b := px.tr (px.rf : px V V b) (px.ag (show agr [(1, 3), (1, 6), (6, 8), (6, 9), (6, 10)] [] V V28 from (agr.tr (agr.tr (agr.tr agr.rf ajV9 (by decide) (by decide)) ajV20 (by decide) (by decide)) ajV28 (by decide) (by decide))) (fun _ => rfl) (fun _ => rfl) (fun _ => rfl))
                have px98 : px V V63 b := px.tr px97 t62
                have px99 : px V V72 b := px.tr px98 (px.ag (show agr [(1, 3), (6, 8), (6, 9), (6, 10)] [] V63 V72 from (agr.tr agr.rf ajV72 (by decide) (by decide))) (fun _ => rfl) (fun _ => rfl) (fun _ => rfl))
                exact W.zret (v := 0) hx hb hr rfl (fun t ht hW => ⟨⟨0, (V72, L73), rfl, ⟨hMV72, agV72, alL73, fwV72, (by decide), tx95, cd96, px99⟩, by rw [ht]; exact hP, va_K.moved hW.alike hK, hD⟩, hS.F ht⟩) hS.2.2 dX1_readNeed_137
            · skip
              have f100 : z59.toInt = 0 := b_eq rfl (by decide) c65
              refine lv_iconst (v := 0) hx hb dX1_readNeed_120 (by decide) ?_
              have px101 : px V V28 b := px.tr (px.rf : px V V b) (px.ag (show agr [(1, 3), (1, 6), (6, 8), (6, 9), (6, 10)] [] V V28 from (agr.tr (agr.tr (agr.tr agr.rf ajV9 (by decide) (by decide)) ajV20 (by decide) (by decide)) ajV28 (by decide) (by decide))) (fun _ => rfl) (fun _ => rfl) (fun _ => rfl))
              have px102 : px V V63 b := px.tr px101 t62
              have tx103 : TX V63 b := TX.ag tx (show agr [(1, 3), (1, 6), (6, 8), (6, 9), (6, 10)] [43, 44] V V63 from (agr.tr (agr.tr (agr.tr (agr.tr agr.rf ajV9 (by decide) (by decide)) ajV20 (by decide) (by decide)) ajV28 (by decide) (by decide)) ajV63 (by decide) (by decide))) px102 (fun _ => rfl) (fun _ => rfl) (fun _ => rfl) (fun _ => rfl) (fun _ => rfl) (fun _ => rfl)
              have cd104 : CD V63 b := ⟨CB.ag cd.1 (show agr [(1, 3), (1, 6), (6, 8), (6, 9), (6, 10)] [43, 44] V V63 from (agr.tr (agr.tr (agr.tr (agr.tr agr.rf ajV9 (by decide) (by decide)) ajV20 (by decide) (by decide)) ajV28 (by decide) (by decide)) ajV63 (by decide) (by decide))) (fun _ => rfl) (fun _ => rfl), CO.ag cd.2 (show agr [(1, 3), (1, 6), (6, 8), (6, 9), (6, 10)] [43, 44] V V63 from (agr.tr (agr.tr (agr.tr (agr.tr agr.rf ajV9 (by decide) (by decide)) ajV20 (by decide) (by decide)) ajV28 (by decide) (by decide)) ajV63 (by decide) (by decide))) (fun _ => rfl) (fun _ => rfl)⟩
              have px105 : px V V28 b := px.tr (px.rf : px V V b) (px.ag (show agr [(1, 3), (1, 6), (6, 8), (6, 9), (6, 10)] [] V V28 from (agr.tr (agr.tr (agr.tr agr.rf ajV9 (by decide) (by decide)) ajV20 (by decide) (by decide)) ajV28 (by decide) (by decide))) (fun _ => rfl) (fun _ => rfl) (fun _ => rfl))
              have px106 : px V V63 b := px.tr px105 t62
              exact W.zret (v := 0) hx hb hr rfl (fun t ht hW => ⟨⟨0, (V63, L64), rfl, ⟨hMV63, agV63, alL64, fwV63, (by decide), tx103, cd104, px106⟩, by rw [ht]; exact hP, va_K.moved hW.alike hK, hD⟩, hS.F ht⟩) hS.2.2 dX1_readNeed_121
        · skip
          have f107 : z16.toInt = 0 := b_eq rfl (by decide) c23
          refine lv_iconst (v := 0) hx hb dX1_readNeed_79 (by decide) ?_
          have px108 : px V V20 b := px.tr (px.rf : px V V b) (px.ag (show agr [(1, 3), (1, 6), (6, 8), (6, 9), (6, 10)] [] V V20 from (agr.tr (agr.tr agr.rf ajV9 (by decide) (by decide)) ajV20 (by decide) (by decide))) (fun _ => rfl) (fun _ => rfl) (fun _ => rfl))
          have tx109 : TX V20 b := TX.ag tx (show agr [(1, 3), (1, 6), (6, 8), (6, 9), (6, 10)] [] V V20 from (agr.tr (agr.tr agr.rf ajV9 (by decide) (by decide)) ajV20 (by decide) (by decide))) px108 (fun _ => rfl) (fun _ => rfl) (fun _ => rfl) (fun _ => rfl) (fun _ => rfl) (fun _ => rfl)
          have cd110 : CD V20 b := ⟨CB.ag cd.1 (show agr [(1, 3), (1, 6), (6, 8), (6, 9), (6, 10)] [] V V20 from (agr.tr (agr.tr agr.rf ajV9 (by decide) (by decide)) ajV20 (by decide) (by decide))) (fun _ => rfl) (fun _ => rfl), CO.ag cd.2 (show agr [(1, 3), (1, 6), (6, 8), (6, 9), (6, 10)] [] V V20 from (agr.tr (agr.tr agr.rf ajV9 (by decide) (by decide)) ajV20 (by decide) (by decide))) (fun _ => rfl) (fun _ => rfl)⟩
          have px111 : px V V20 b := px.tr (px.rf : px V V b) (px.ag (show agr [(1, 3), (1, 6), (6, 8), (6, 9), (6, 10)] [] V V20 from (agr.tr (agr.tr agr.rf ajV9 (by decide) (by decide)) ajV20 (by decide) (by decide))) (fun _ => rfl) (fun _ => rfl) (fun _ => rfl))
          exact W.zret (v := 0) hx hb hr rfl (fun t ht hW => ⟨⟨0, (V20, L10), rfl, ⟨hMV20, agV20, alL10, fwV20, (by decide), tx109, cd110, px111⟩, by rw [ht]; exact hP, va_K.moved hW.alike hK, hD⟩, hS.F ht⟩) hS.2.2 dX1_readNeed_80
      · skip
        have f112 : ((V9 6 9)).toInt = 139 := b_eq rfl (by decide) c13
        refine lv_iconst (v := 2) hx hb dX1_readNeed_55 (by decide) ?_
        refine lv_goto (tgt := 60) hx hb dX1_readNeed_56 (by decide) ?_
        refine lv_istore_n (lv' := [(1, .int 2), (0, .ref (ad 1))]) hx hb dX1_readNeed_60 rfl hl (by decide) rfl (fun ls hl => ?_)
        refine lv_iload_n hx hb dX1_readNeed_61 rfl (lv_at hl 0 rfl) ?_
        refine lv_if_eq (tgt := 72) hx hb dX1_readNeed_62 (by decide) (fun q => absurd q (by decide)) (fun _ => ?_)
        refine lv_aload_n hx hb dX1_readNeed_65 rfl (lv_at hl 1 rfl) ?_
        refine va_get (D := D) (ci := 1) (v := .ref (ad 6)) (fs := (xfReader ad V9 L10 Z)) (C := RX1) (T := TX1) (N := 9) hx hb hg inX1 hown hK hP 1 xgReader rfl 0 (by decide) (hg _ w304) (fun _ h9 => h9) rfl dX1_readNeed_66 ?_
        refine gA_void (gA_runV (As := []) (rest := []) (ci := 9) (q0 := 6) hx hb hml hown hg hP hD hK hS hA hnw hgk (x_next l D ks H.size ad kk V9 L10 Z  hMV9 ) w871 w852 w853 w157 w854 rfl xgTape hdV_yX9_next ⟨Nat.le_of_ble_eq_true rfl, Nat.le_of_ble_eq_true rfl⟩ rfl hl.1 rfl (Nat.le_of_ble_eq_true rfl) dX1_readNeed_69 ⟨Nat.le_of_ble_eq_true rfl, Nat.le_of_ble_eq_true rfl⟩) hP hD hK hS hA (fun u114 H locs w115 hP hD hK hS => ?_)
        obtain ⟨V116, L117⟩ := u114
        obtain ⟨hMV116, ajV116, axL117⟩ := w115
        have alL117 : agL [6, 44] L L117 := agL.tr alL10 axL117 (by decide)
        have hP : va_P D vwCl (xw ad kk V116 L117 Z) H := hP
        have hD : va_D A (xw ad kk V116 L117 Z) := hD
        have hMV116 : rgd bX V116 := hMV116
        have ajV116 : agr [(6, 8), (6, 9), (6, 10)] [] V9 V116 := ajV116
        have agV116 : agr [(1, 3), (1, 6), (6, 8), (6, 9), (6, 10)] [43, 44, 49, 58, 59, 60] V V116 := agV9.tr ajV116 (by decide) (by decide)
        have fwV116 : frX (xR b) V V116 := frX.tr fwV9 (frX.ag ajV116 (by decide) (by decide))
        refine lv_aload_n hx hb dX1_readNeed_72 rfl (lv_at hl 1 rfl) ?_
        have pq118 : (V116 1 1).toInt = ((V 1 1)).toInt := congrArg Int32.toInt ((ajV116 1 1 rfl).trans (ajV9 1 1 rfl))
        refine gA_int (gA_runV (As := []) (rest := []) (ci := 1) (q0 := 1) hx hb hml hown hg hP hD hK hS hA hnw hgk (x_isToldType l D ks H.size ad kk V116 L117 Z (b) hMV116 (show b < 2 from by first | omega | ((try (have i_tx := Imp.go tx (by omega))); (try (have i_cd := Imp.go cd (by omega))); (try (have i_cd := Imp.go cd (by omega))); (try (have i_tx := Imp.go tx (by omega))); omega)) (show (V116 1 1).toInt = (b : Int) from by first | omega | ((try (have i_tx := Imp.go tx (by omega))); (try (have i_cd := Imp.go cd (by omega))); (try (have i_cd := Imp.go cd (by omega))); (try (have i_tx := Imp.go tx (by omega))); omega))) w888 w890 w9 w162 w891 rfl xgReader hdV_yX1_isToldType ⟨Nat.le_of_ble_eq_true rfl, Nat.le_of_ble_eq_true rfl⟩ rfl hl.1 rfl (Nat.le_of_ble_eq_true rfl) dX1_readNeed_73 ⟨Nat.le_of_ble_eq_true rfl, Nat.le_of_ble_eq_true rfl⟩) hP hD hK hS hA (fun z119 u120 H locs w121 hP hD hK hS => ?_)
        obtain ⟨V123, L124⟩ := u120
        obtain ⟨hMV123, ajV123, axL124, rgz119, t122⟩ := w121
        have axL124 : L117 = L124 := Eq.symm axL124
        subst axL124
        have hP : va_P D vwCl (xw ad kk V123 L117 Z) H := hP
        have hD : va_D A (xw ad kk V123 L117 Z) := hD
        have hMV123 : rgd bX V123 := hMV123
        have ajV123 : agr [(1, 3), (1, 6)] [] V116 V123 := ajV123
        have agV123 : agr [(1, 3), (1, 6), (6, 8), (6, 9), (6, 10)] [43, 44, 49, 58, 59, 60] V V123 := agV116.tr ajV123 (by decide) (by decide)
        have fwV123 : frX (xR b) V V123 := frX.tr fwV116 (frX.ag ajV123 (by decide) (by decide))
        have rgz119 : 0 ≤ z119.toInt ∧ z119.toInt ≤ 1 := rgz119
        have t122 : Imp (z119.toInt = 1) (0 ≤ (V123 1 6).toInt ∧ (V123 1 6).toInt ≤ 23) := t122
        have r125 : (-1) ≤ ((V123 1 6)).toInt ∧ ((V123 1 6)).toInt ≤ 23 := hMV123 1 6
        refine lv_if_ne (tgt := 81) hx hb dX1_readNeed_76 (by decide) (fun c126 => ?_) (fun c126 => ?_)
        · skip
          have f127 : z119.toInt ≠ 0 := b_neq rfl (by decide) c126
          refine lv_aload_n hx hb dX1_readNeed_81 rfl (lv_at hl 1 rfl) ?_
          refine va_get (D := D) (ci := 1) (v := .int (V123 1 6)) (fs := (xfReader ad V123 L117 Z)) (C := RX1) (T := TX1) (N := 9) hx hb hg inX1 hown hK hP 1 xgReader rfl 6 (by decide) (hg _ w310) (fun _ h9 => h9) rfl dX1_readNeed_82 ?_
          refine lv_istore_n (lv' := [(2, .int (V123 1 6)), (1, .int 2), (0, .ref (ad 1))]) hx hb dX1_readNeed_85 rfl hl (by decide) rfl (fun ls hl => ?_)
          refine lv_iconst (v := (-1)) hx hb dX1_readNeed_86 (by decide) ?_
          refine lv_istore_n (lv' := [(3, .int (-1)), (2, .int (V123 1 6)), (1, .int 2), (0, .ref (ad 1))]) hx hb dX1_readNeed_87 rfl hl (by decide) rfl (fun ls hl => ?_)
          refine lv_aload_n hx hb dX1_readNeed_88 rfl (lv_at hl 3 rfl) ?_
          refine va_get (D := D) (ci := 1) (v := .ref (ad 6)) (fs := (xfReader ad V123 L117 Z)) (C := RX1) (T := TX1) (N := 9) hx hb hg inX1 hown hK hP 1 xgReader rfl 0 (by decide) (hg _ w304) (fun _ h9 => h9) rfl dX1_readNeed_89 ?_
          refine gA_void (gA_runV (As := []) (rest := []) (ci := 9) (q0 := 6) hx hb hml hown hg hP hD hK hS hA hnw hgk (x_next l D ks H.size ad kk V123 L117 Z  hMV123 ) w871 w852 w853 w157 w854 rfl xgTape hdV_yX9_next ⟨Nat.le_of_ble_eq_true rfl, Nat.le_of_ble_eq_true rfl⟩ rfl hl.1 rfl (Nat.le_of_ble_eq_true rfl) dX1_readNeed_92 ⟨Nat.le_of_ble_eq_true rfl, Nat.le_of_ble_eq_true rfl⟩) hP hD hK hS hA (fun u129 H locs w130 hP hD hK hS => ?_)
          obtain ⟨V131, L132⟩ := u129
          obtain ⟨hMV131, ajV131, axL132⟩ := w130
          have alL132 : agL [6, 44] L L132 := agL.tr alL117 axL132 (by decide)
          have hP : va_P D vwCl (xw ad kk V131 L132 Z) H := hP
          have hD : va_D A (xw ad kk V131 L132 Z) := hD
          have hMV131 : rgd bX V131 := hMV131
          have ajV131 : agr [(6, 8), (6, 9), (6, 10)] [] V123 V131 := ajV131
          have agV131 : agr [(1, 3), (1, 6), (6, 8), (6, 9), (6, 10)] [43, 44, 49, 58, 59, 60] V V131 := agV123.tr ajV131 (by decide) (by decide)
          have fwV131 : frX (xR b) V V131 := frX.tr fwV123 (frX.ag ajV131 (by decide) (by decide))
          refine lv_iload_n hx hb dX1_readNeed_95 rfl (lv_at hl 2 rfl) ?_
          refine lv_iconst (v := 2) hx hb dX1_readNeed_96 (by decide) ?_
          refine lv_icmp_eq (tgt := 127) hx hb dX1_readNeed_97 (by decide) (fun _ => ?_) (fun q => absurd (by decide) q)
          refine lv_aload_n hx hb dX1_readNeed_127 rfl (lv_at hl 3 rfl) ?_
          refine lv_bipush (v := 59) hx hb dX1_readNeed_128 (by decide) ?_
          have r133 : Int32.toInt 59 = 59 := by decide
          refine gA_int (gA_runV (As := [.int 59]) (rest := []) (ci := 1) (q0 := 1) hx hb hml hown hg hP hD hK hS hA hnw hgk (x_take l D ks H.size ad kk V131 L132 Z 59 hMV131 ) w893 w895 w10 w162 w896 rfl xgReader hdV_yX1_take ⟨Nat.le_of_ble_eq_true rfl, Nat.le_of_ble_eq_true rfl⟩ rfl hl.1 rfl (Nat.le_of_ble_eq_true rfl) dX1_readNeed_130 ⟨Nat.le_of_ble_eq_true rfl, Nat.le_of_ble_eq_true rfl⟩) hP hD hK hS hA (fun z134 u135 H locs w136 hP hD hK hS => ?_)
          obtain ⟨V137, L138⟩ := u135
          obtain ⟨hMV137, ajV137, axL138, rgz134⟩ := w136
          have alL138 : agL [6, 44] L L138 := agL.tr alL132 axL138 (by decide)
          have hP : va_P D vwCl (xw ad kk V137 L138 Z) H := hP
          have hD : va_D A (xw ad kk V137 L138 Z) := hD
          have hMV137 : rgd bX V137 := hMV137
          have ajV137 : agr [(1, 3), (6, 8), (6, 9), (6, 10)] [] V131 V137 := ajV137
          have agV137 : agr [(1, 3), (1, 6), (6, 8), (6, 9), (6, 10)] [43, 44, 49, 58, 59, 60] V V137 := agV131.tr ajV137 (by decide) (by decide)
          have fwV137 : frX (xR b) V V137 := frX.tr fwV131 (frX.ag ajV137 (by decide) (by decide))
          have rgz134 : 0 ≤ z134.toInt ∧ z134.toInt ≤ 1 := rgz134
          refine lv_if_ne (tgt := 138) hx hb dX1_readNeed_133 (by decide) (fun c139 => ?_) (fun c139 => ?_)
          · skip
            have f140 : z134.toInt ≠ 0 := b_neq rfl (by decide) c139
            refine lv_aload_n hx hb dX1_readNeed_138 rfl (lv_at hl 3 rfl) ?_
            refine va_get (D := D) (ci := 1) (v := rfN ad 72 (V137 1 2)) (fs := (xfReader ad V137 L138 Z)) (C := RX1) (T := TX1) (N := 9) hx hb hg inX1 hown hK hP 1 xgReader rfl 2 (by decide) (hg _ w306) (fun _ h9 => h9) rfl dX1_readNeed_139 ?_
            have pq141 : (V137 1 2).toInt = ((V 1 2)).toInt := congrArg Int32.toInt ((ajV137 1 2 rfl).trans ((ajV131 1 2 rfl).trans ((ajV123 1 2 rfl).trans ((ajV116 1 2 rfl).trans (ajV9 1 2 rfl)))))
            refine g_topv (v := .ref (ad (72 + go))) (rfN_r (by first | omega | ((try (have i_t122 := Imp.go t122 (by omega))); (try (have i_tx := Imp.go tx (by omega))); (try (have i_cd := Imp.go cd (by omega))); (try (have i_cd := Imp.go cd (by omega))); (try (have i_tx := Imp.go tx (by omega))); (try (have i_t122 := Imp.go t122 (by omega))); omega))) ?_
            refine lv_iload_n hx hb dX1_readNeed_142 rfl (lv_at hl 2 rfl) ?_
            refine lv_iload_n hx hb dX1_readNeed_143 rfl (lv_at hl 1 rfl) ?_
            refine lv_iload_n hx hb dX1_readNeed_144 rfl (lv_at hl 0 rfl) ?_
            have r142 : Int32.toInt 2 = 2 := by decide
            have r143 : Int32.toInt (-1) = (-1) := by decide
            refine gA_void (gA_runV (As := [.int 2, .int (V123 1 6), .int (-1)]) (rest := []) (ci := 3) (q0 := (72 + go)) hx hb hml hown hg hP hD hK hS hA hnw hgk (x_addNeed l D ks H.size ad kk V137 L138 Z 2 (V123 1 6) (-1) (go) hMV137 (show go < 48 from by first | omega | ((try (have i_t122 := Imp.go t122 (by omega))); (try (have i_tx := Imp.go tx (by omega))); (try (have i_cd := Imp.go cd (by omega))); (try (have i_cd := Imp.go cd (by omega))); (try (have i_tx := Imp.go tx (by omega))); (try (have i_t122 := Imp.go t122 (by omega))); omega))) w1011 w1012 w1013 w169 w1014 rfl (xgComp hgo) hdV_yX3_addNeed ⟨Nat.le_of_ble_eq_true rfl, Nat.le_of_ble_eq_true rfl⟩ rfl hl.1 rfl (Nat.le_of_ble_eq_true rfl) dX1_readNeed_145 ⟨Nat.le_of_ble_eq_true rfl, Nat.le_of_ble_eq_true rfl⟩) hP hD hK hS hA (fun u145 H locs w146 hP hD hK hS => ?_)
            obtain ⟨V147, L148⟩ := u145
            obtain ⟨hMV147, ajV147, axL148, fyV147⟩ := w146
            have axL148 : L138 = L148 := Eq.symm axL148
            subst axL148
            have hP : va_P D vwCl (xw ad kk V147 L138 Z) H := hP
            have hD : va_D A (xw ad kk V147 L138 Z) := hD
            have hMV147 : rgd bX V147 := hMV147
            have ajV147 : agr [] [49, 58, 59, 60] V137 V147 := ajV147
            have agV147 : agr [(1, 3), (1, 6), (6, 8), (6, 9), (6, 10)] [43, 44, 49, 58, 59, 60] V V147 := agV137.tr ajV147 (by decide) (by decide)
            have fwV147 : frX (xR b) V V147 := frX.tr fwV137 (frX_IB fyV147 (by first | omega | ((try (have i_t122 := Imp.go t122 (by omega))); (try (have i_tx := Imp.go tx (by omega))); (try (have i_cd := Imp.go cd (by omega))); (try (have i_cd := Imp.go cd (by omega))); (try (have i_tx := Imp.go tx (by omega))); (try (have i_t122 := Imp.go t122 (by omega))); omega)) (by first | omega | ((try (have i_t122 := Imp.go t122 (by omega))); (try (have i_tx := Imp.go tx (by omega))); (try (have i_cd := Imp.go cd (by omega))); (try (have i_cd := Imp.go cd (by omega))); (try (have i_tx := Imp.go tx (by omega))); (try (have i_t122 := Imp.go t122 (by omega))); omega)))
            refine lv_iconst (v := 1) hx hb dX1_readNeed_148 (by decide) ?_
            have px149 : px V V147 b := px.tr (px.rf : px V V b) (px.ag (show agr [(1, 3), (1, 6), (6, 8), (6, 9), (6, 10)] [49, 58, 59, 60] V V147 from (agr.tr (agr.tr (agr.tr (agr.tr (agr.tr (agr.tr agr.rf ajV9 (by decide) (by decide)) ajV116 (by decide) (by decide)) ajV123 (by decide) (by decide)) ajV131 (by decide) (by decide)) ajV137 (by decide) (by decide)) ajV147 (by decide) (by decide))) (fun _ => rfl) (fun _ => rfl) (fun _ => rfl))
            have tx150 : TX V147 b := TX.ag tx (show agr [(1, 3), (1, 6), (6, 8), (6, 9), (6, 10)] [49, 58, 59, 60] V V147 from (agr.tr (agr.tr (agr.tr (agr.tr (agr.tr (agr.tr agr.rf ajV9 (by decide) (by decide)) ajV116 (by decide) (by decide)) ajV123 (by decide) (by decide)) ajV131 (by decide) (by decide)) ajV137 (by decide) (by decide)) ajV147 (by decide) (by decide))) px149 (fun _ => rfl) (fun _ => rfl) (fun _ => rfl) (fun _ => rfl) (fun _ => rfl) (fun _ => rfl)
            have cd151 : CD V147 b := ⟨CB.ag cd.1 (show agr [(1, 3), (1, 6), (6, 8), (6, 9), (6, 10)] [49, 58, 59, 60] V V147 from (agr.tr (agr.tr (agr.tr (agr.tr (agr.tr (agr.tr agr.rf ajV9 (by decide) (by decide)) ajV116 (by decide) (by decide)) ajV123 (by decide) (by decide)) ajV131 (by decide) (by decide)) ajV137 (by decide) (by decide)) ajV147 (by decide) (by decide))) (fun _ => rfl) (fun _ => rfl), CO.ag cd.2 (show agr [(1, 3), (1, 6), (6, 8), (6, 9), (6, 10)] [49, 58, 59, 60] V V147 from (agr.tr (agr.tr (agr.tr (agr.tr (agr.tr (agr.tr agr.rf ajV9 (by decide) (by decide)) ajV116 (by decide) (by decide)) ajV123 (by decide) (by decide)) ajV131 (by decide) (by decide)) ajV137 (by decide) (by decide)) ajV147 (by decide) (by decide))) (fun _ => rfl) (fun _ => rfl)⟩
            have px152 : px V V147 b := px.tr (px.rf : px V V b) (px.ag (show agr [(1, 3), (1, 6), (6, 8), (6, 9), (6, 10)] [49, 58, 59, 60] V V147 from (agr.tr (agr.tr (agr.tr (agr.tr (agr.tr (agr.tr agr.rf ajV9 (by decide) (by decide)) ajV116 (by decide) (by decide)) ajV123 (by decide) (by decide)) ajV131 (by decide) (by decide)) ajV137 (by decide) (by decide)) ajV147 (by decide) (by decide))) (fun _ => rfl) (fun _ => rfl) (fun _ => rfl))
            exact W.zret (v := 1) hx hb hr rfl (fun t ht hW => ⟨⟨1, (V147, L138), rfl, ⟨hMV147, agV147, alL138, fwV147, (by decide), tx150, cd151, px152⟩, by rw [ht]; exact hP, va_K.moved hW.alike hK, hD⟩, hS.F ht⟩) hS.2.2 dX1_readNeed_149
          · skip
            have f153 : z134.toInt = 0 := b_eq rfl (by decide) c139
            refine lv_iconst (v := 0) hx hb dX1_readNeed_136 (by decide) ?_
            have px154 : px V V137 b := px.tr (px.rf : px V V b) (px.ag (show agr [(1, 3), (1, 6), (6, 8), (6, 9), (6, 10)] [] V V137 from (agr.tr (agr.tr (agr.tr (agr.tr (agr.tr agr.rf ajV9 (by decide) (by decide)) ajV116 (by decide) (by decide)) ajV123 (by decide) (by decide)) ajV131 (by decide) (by decide)) ajV137 (by decide) (by decide))) (fun _ => rfl) (fun _ => rfl) (fun _ => rfl))
            have tx155 : TX V137 b := TX.ag tx (show agr [(1, 3), (1, 6), (6, 8), (6, 9), (6, 10)] [] V V137 from (agr.tr (agr.tr (agr.tr (agr.tr (agr.tr agr.rf ajV9 (by decide) (by decide)) ajV116 (by decide) (by decide)) ajV123 (by decide) (by decide)) ajV131 (by decide) (by decide)) ajV137 (by decide) (by decide))) px154 (fun _ => rfl) (fun _ => rfl) (fun _ => rfl) (fun _ => rfl) (fun _ => rfl) (fun _ => rfl)
            have cd156 : CD V137 b := ⟨CB.ag cd.1 (show agr [(1, 3), (1, 6), (6, 8), (6, 9), (6, 10)] [] V V137 from (agr.tr (agr.tr (agr.tr (agr.tr (agr.tr agr.rf ajV9 (by decide) (by decide)) ajV116 (by decide) (by decide)) ajV123 (by decide) (by decide)) ajV131 (by decide) (by decide)) ajV137 (by decide) (by decide))) (fun _ => rfl) (fun _ => rfl), CO.ag cd.2 (show agr [(1, 3), (1, 6), (6, 8), (6, 9), (6, 10)] [] V V137 from (agr.tr (agr.tr (agr.tr (agr.tr (agr.tr agr.rf ajV9 (by decide) (by decide)) ajV116 (by decide) (by decide)) ajV123 (by decide) (by decide)) ajV131 (by decide) (by decide)) ajV137 (by decide) (by decide))) (fun _ => rfl) (fun _ => rfl)⟩
            have px157 : px V V137 b := px.tr (px.rf : px V V b) (px.ag (show agr [(1, 3), (1, 6), (6, 8), (6, 9), (6, 10)] [] V V137 from (agr.tr (agr.tr (agr.tr (agr.tr (agr.tr agr.rf ajV9 (by decide) (by decide)) ajV116 (by decide) (by decide)) ajV123 (by decide) (by decide)) ajV131 (by decide) (by decide)) ajV137 (by decide) (by decide))) (fun _ => rfl) (fun _ => rfl) (fun _ => rfl))
            exact W.zret (v := 0) hx hb hr rfl (fun t ht hW => ⟨⟨0, (V137, L138), rfl, ⟨hMV137, agV137, alL138, fwV137, (by decide), tx155, cd156, px157⟩, by rw [ht]; exact hP, va_K.moved hW.alike hK, hD⟩, hS.F ht⟩) hS.2.2 dX1_readNeed_137
        · skip
          have f158 : z119.toInt = 0 := b_eq rfl (by decide) c126
          refine lv_iconst (v := 0) hx hb dX1_readNeed_79 (by decide) ?_
          have px159 : px V V123 b := px.tr (px.rf : px V V b) (px.ag (show agr [(1, 3), (1, 6), (6, 8), (6, 9), (6, 10)] [] V V123 from (agr.tr (agr.tr (agr.tr agr.rf ajV9 (by decide) (by decide)) ajV116 (by decide) (by decide)) ajV123 (by decide) (by decide))) (fun _ => rfl) (fun _ => rfl) (fun _ => rfl))
          have tx160 : TX V123 b := TX.ag tx (show agr [(1, 3), (1, 6), (6, 8), (6, 9), (6, 10)] [] V V123 from (agr.tr (agr.tr (agr.tr agr.rf ajV9 (by decide) (by decide)) ajV116 (by decide) (by decide)) ajV123 (by decide) (by decide))) px159 (fun _ => rfl) (fun _ => rfl) (fun _ => rfl) (fun _ => rfl) (fun _ => rfl) (fun _ => rfl)
          have cd161 : CD V123 b := ⟨CB.ag cd.1 (show agr [(1, 3), (1, 6), (6, 8), (6, 9), (6, 10)] [] V V123 from (agr.tr (agr.tr (agr.tr agr.rf ajV9 (by decide) (by decide)) ajV116 (by decide) (by decide)) ajV123 (by decide) (by decide))) (fun _ => rfl) (fun _ => rfl), CO.ag cd.2 (show agr [(1, 3), (1, 6), (6, 8), (6, 9), (6, 10)] [] V V123 from (agr.tr (agr.tr (agr.tr agr.rf ajV9 (by decide) (by decide)) ajV116 (by decide) (by decide)) ajV123 (by decide) (by decide))) (fun _ => rfl) (fun _ => rfl)⟩
          have px162 : px V V123 b := px.tr (px.rf : px V V b) (px.ag (show agr [(1, 3), (1, 6), (6, 8), (6, 9), (6, 10)] [] V V123 from (agr.tr (agr.tr (agr.tr agr.rf ajV9 (by decide) (by decide)) ajV116 (by decide) (by decide)) ajV123 (by decide) (by decide))) (fun _ => rfl) (fun _ => rfl) (fun _ => rfl))
          exact W.zret (v := 0) hx hb hr rfl (fun t ht hW => ⟨⟨0, (V123, L117), rfl, ⟨hMV123, agV123, alL117, fwV123, (by decide), tx160, cd161, px162⟩, by rw [ht]; exact hP, va_K.moved hW.alike hK, hD⟩, hS.F ht⟩) hS.2.2 dX1_readNeed_80
    · skip
      have f163 : ((V9 6 9)).toInt = 138 := b_eq rfl (by decide) c11
      refine lv_iconst (v := 1) hx hb dX1_readNeed_38 (by decide) ?_
      refine lv_goto (tgt := 60) hx hb dX1_readNeed_39 (by decide) ?_
      refine lv_istore_n (lv' := [(1, .int 1), (0, .ref (ad 1))]) hx hb dX1_readNeed_60 rfl hl (by decide) rfl (fun ls hl => ?_)
      refine lv_iload_n hx hb dX1_readNeed_61 rfl (lv_at hl 0 rfl) ?_
      refine lv_if_eq (tgt := 72) hx hb dX1_readNeed_62 (by decide) (fun q => absurd q (by decide)) (fun _ => ?_)
      refine lv_aload_n hx hb dX1_readNeed_65 rfl (lv_at hl 1 rfl) ?_
      refine va_get (D := D) (ci := 1) (v := .ref (ad 6)) (fs := (xfReader ad V9 L10 Z)) (C := RX1) (T := TX1) (N := 9) hx hb hg inX1 hown hK hP 1 xgReader rfl 0 (by decide) (hg _ w304) (fun _ h9 => h9) rfl dX1_readNeed_66 ?_
      refine gA_void (gA_runV (As := []) (rest := []) (ci := 9) (q0 := 6) hx hb hml hown hg hP hD hK hS hA hnw hgk (x_next l D ks H.size ad kk V9 L10 Z  hMV9 ) w871 w852 w853 w157 w854 rfl xgTape hdV_yX9_next ⟨Nat.le_of_ble_eq_true rfl, Nat.le_of_ble_eq_true rfl⟩ rfl hl.1 rfl (Nat.le_of_ble_eq_true rfl) dX1_readNeed_69 ⟨Nat.le_of_ble_eq_true rfl, Nat.le_of_ble_eq_true rfl⟩) hP hD hK hS hA (fun u165 H locs w166 hP hD hK hS => ?_)
      obtain ⟨V167, L168⟩ := u165
      obtain ⟨hMV167, ajV167, axL168⟩ := w166
      have alL168 : agL [6, 44] L L168 := agL.tr alL10 axL168 (by decide)
      have hP : va_P D vwCl (xw ad kk V167 L168 Z) H := hP
      have hD : va_D A (xw ad kk V167 L168 Z) := hD
      have hMV167 : rgd bX V167 := hMV167
      have ajV167 : agr [(6, 8), (6, 9), (6, 10)] [] V9 V167 := ajV167
      have agV167 : agr [(1, 3), (1, 6), (6, 8), (6, 9), (6, 10)] [43, 44, 49, 58, 59, 60] V V167 := agV9.tr ajV167 (by decide) (by decide)
      have fwV167 : frX (xR b) V V167 := frX.tr fwV9 (frX.ag ajV167 (by decide) (by decide))
      refine lv_aload_n hx hb dX1_readNeed_72 rfl (lv_at hl 1 rfl) ?_
      have pq169 : (V167 1 1).toInt = ((V 1 1)).toInt := congrArg Int32.toInt ((ajV167 1 1 rfl).trans (ajV9 1 1 rfl))
      refine gA_int (gA_runV (As := []) (rest := []) (ci := 1) (q0 := 1) hx hb hml hown hg hP hD hK hS hA hnw hgk (x_isToldType l D ks H.size ad kk V167 L168 Z (b) hMV167 (show b < 2 from by first | omega | ((try (have i_tx := Imp.go tx (by omega))); (try (have i_cd := Imp.go cd (by omega))); (try (have i_cd := Imp.go cd (by omega))); (try (have i_tx := Imp.go tx (by omega))); omega)) (show (V167 1 1).toInt = (b : Int) from by first | omega | ((try (have i_tx := Imp.go tx (by omega))); (try (have i_cd := Imp.go cd (by omega))); (try (have i_cd := Imp.go cd (by omega))); (try (have i_tx := Imp.go tx (by omega))); omega))) w888 w890 w9 w162 w891 rfl xgReader hdV_yX1_isToldType ⟨Nat.le_of_ble_eq_true rfl, Nat.le_of_ble_eq_true rfl⟩ rfl hl.1 rfl (Nat.le_of_ble_eq_true rfl) dX1_readNeed_73 ⟨Nat.le_of_ble_eq_true rfl, Nat.le_of_ble_eq_true rfl⟩) hP hD hK hS hA (fun z170 u171 H locs w172 hP hD hK hS => ?_)
      obtain ⟨V174, L175⟩ := u171
      obtain ⟨hMV174, ajV174, axL175, rgz170, t173⟩ := w172
      have axL175 : L168 = L175 := Eq.symm axL175
      subst axL175
      have hP : va_P D vwCl (xw ad kk V174 L168 Z) H := hP
      have hD : va_D A (xw ad kk V174 L168 Z) := hD
      have hMV174 : rgd bX V174 := hMV174
      have ajV174 : agr [(1, 3), (1, 6)] [] V167 V174 := ajV174
      have agV174 : agr [(1, 3), (1, 6), (6, 8), (6, 9), (6, 10)] [43, 44, 49, 58, 59, 60] V V174 := agV167.tr ajV174 (by decide) (by decide)
      have fwV174 : frX (xR b) V V174 := frX.tr fwV167 (frX.ag ajV174 (by decide) (by decide))
      have rgz170 : 0 ≤ z170.toInt ∧ z170.toInt ≤ 1 := rgz170
      have t173 : Imp (z170.toInt = 1) (0 ≤ (V174 1 6).toInt ∧ (V174 1 6).toInt ≤ 23) := t173
      have r176 : (-1) ≤ ((V174 1 6)).toInt ∧ ((V174 1 6)).toInt ≤ 23 := hMV174 1 6
      refine lv_if_ne (tgt := 81) hx hb dX1_readNeed_76 (by decide) (fun c177 => ?_) (fun c177 => ?_)
      · skip
        have f178 : z170.toInt ≠ 0 := b_neq rfl (by decide) c177
        refine lv_aload_n hx hb dX1_readNeed_81 rfl (lv_at hl 1 rfl) ?_
        refine va_get (D := D) (ci := 1) (v := .int (V174 1 6)) (fs := (xfReader ad V174 L168 Z)) (C := RX1) (T := TX1) (N := 9) hx hb hg inX1 hown hK hP 1 xgReader rfl 6 (by decide) (hg _ w310) (fun _ h9 => h9) rfl dX1_readNeed_82 ?_
        refine lv_istore_n (lv' := [(2, .int (V174 1 6)), (1, .int 1), (0, .ref (ad 1))]) hx hb dX1_readNeed_85 rfl hl (by decide) rfl (fun ls hl => ?_)
        refine lv_iconst (v := (-1)) hx hb dX1_readNeed_86 (by decide) ?_
        refine lv_istore_n (lv' := [(3, .int (-1)), (2, .int (V174 1 6)), (1, .int 1), (0, .ref (ad 1))]) hx hb dX1_readNeed_87 rfl hl (by decide) rfl (fun ls hl => ?_)
        refine lv_aload_n hx hb dX1_readNeed_88 rfl (lv_at hl 3 rfl) ?_
        refine va_get (D := D) (ci := 1) (v := .ref (ad 6)) (fs := (xfReader ad V174 L168 Z)) (C := RX1) (T := TX1) (N := 9) hx hb hg inX1 hown hK hP 1 xgReader rfl 0 (by decide) (hg _ w304) (fun _ h9 => h9) rfl dX1_readNeed_89 ?_
        refine gA_void (gA_runV (As := []) (rest := []) (ci := 9) (q0 := 6) hx hb hml hown hg hP hD hK hS hA hnw hgk (x_next l D ks H.size ad kk V174 L168 Z  hMV174 ) w871 w852 w853 w157 w854 rfl xgTape hdV_yX9_next ⟨Nat.le_of_ble_eq_true rfl, Nat.le_of_ble_eq_true rfl⟩ rfl hl.1 rfl (Nat.le_of_ble_eq_true rfl) dX1_readNeed_92 ⟨Nat.le_of_ble_eq_true rfl, Nat.le_of_ble_eq_true rfl⟩) hP hD hK hS hA (fun u180 H locs w181 hP hD hK hS => ?_)
        obtain ⟨V182, L183⟩ := u180
        obtain ⟨hMV182, ajV182, axL183⟩ := w181
        have alL183 : agL [6, 44] L L183 := agL.tr alL168 axL183 (by decide)
        have hP : va_P D vwCl (xw ad kk V182 L183 Z) H := hP
        have hD : va_D A (xw ad kk V182 L183 Z) := hD
        have hMV182 : rgd bX V182 := hMV182
        have ajV182 : agr [(6, 8), (6, 9), (6, 10)] [] V174 V182 := ajV182
        have agV182 : agr [(1, 3), (1, 6), (6, 8), (6, 9), (6, 10)] [43, 44, 49, 58, 59, 60] V V182 := agV174.tr ajV182 (by decide) (by decide)
        have fwV182 : frX (xR b) V V182 := frX.tr fwV174 (frX.ag ajV182 (by decide) (by decide))
        refine lv_iload_n hx hb dX1_readNeed_95 rfl (lv_at hl 2 rfl) ?_
        refine lv_iconst (v := 2) hx hb dX1_readNeed_96 (by decide) ?_
        refine lv_icmp_eq (tgt := 127) hx hb dX1_readNeed_97 (by decide) (fun q => absurd q (by decide)) (fun _ => ?_)
        refine lv_aload_n hx hb dX1_readNeed_100 rfl (lv_at hl 3 rfl) ?_
        refine va_get (D := D) (ci := 1) (v := .ref (ad 6)) (fs := (xfReader ad V182 L183 Z)) (C := RX1) (T := TX1) (N := 9) hx hb hg inX1 hown hK hP 1 xgReader rfl 0 (by decide) (hg _ w304) (fun _ h9 => h9) rfl dX1_readNeed_101 ?_
        refine va_getN (D := D) (ci := 9) (v := .int (V182 6 9)) (fs := (xfTape ad V182 L183 Z)) (C := RX9) (T := TX9) (N := 12) hx hb hg inX9 hown hK hP 6 xgTape rfl 9 (by decide) (hnw.use 262 n262 rfl) (fun _ h9 => h9) rfl dX1_readNeed_104 ?_
        refine lv_sipush (v := 133) hx hb dX1_readNeed_107 (by decide) ?_
        refine lv_icmp_ne (tgt := 127) hx hb dX1_readNeed_110 (by decide) (fun c184 => ?_) (fun c184 => ?_)
        · skip
          have f185 : ((V182 6 9)).toInt ≠ 133 := b_neq rfl (by decide) c184
          refine lv_aload_n hx hb dX1_readNeed_127 rfl (lv_at hl 3 rfl) ?_
          refine lv_bipush (v := 59) hx hb dX1_readNeed_128 (by decide) ?_
          have r186 : Int32.toInt 59 = 59 := by decide
          refine gA_int (gA_runV (As := [.int 59]) (rest := []) (ci := 1) (q0 := 1) hx hb hml hown hg hP hD hK hS hA hnw hgk (x_take l D ks H.size ad kk V182 L183 Z 59 hMV182 ) w893 w895 w10 w162 w896 rfl xgReader hdV_yX1_take ⟨Nat.le_of_ble_eq_true rfl, Nat.le_of_ble_eq_true rfl⟩ rfl hl.1 rfl (Nat.le_of_ble_eq_true rfl) dX1_readNeed_130 ⟨Nat.le_of_ble_eq_true rfl, Nat.le_of_ble_eq_true rfl⟩) hP hD hK hS hA (fun z187 u188 H locs w189 hP hD hK hS => ?_)
          obtain ⟨V190, L191⟩ := u188
          obtain ⟨hMV190, ajV190, axL191, rgz187⟩ := w189
          have alL191 : agL [6, 44] L L191 := agL.tr alL183 axL191 (by decide)
          have hP : va_P D vwCl (xw ad kk V190 L191 Z) H := hP
          have hD : va_D A (xw ad kk V190 L191 Z) := hD
          have hMV190 : rgd bX V190 := hMV190
          have ajV190 : agr [(1, 3), (6, 8), (6, 9), (6, 10)] [] V182 V190 := ajV190
          have agV190 : agr [(1, 3), (1, 6), (6, 8), (6, 9), (6, 10)] [43, 44, 49, 58, 59, 60] V V190 := agV182.tr ajV190 (by decide) (by decide)
          have fwV190 : frX (xR b) V V190 := frX.tr fwV182 (frX.ag ajV190 (by decide) (by decide))
          have rgz187 : 0 ≤ z187.toInt ∧ z187.toInt ≤ 1 := rgz187
          refine lv_if_ne (tgt := 138) hx hb dX1_readNeed_133 (by decide) (fun c192 => ?_) (fun c192 => ?_)
          · skip
            have f193 : z187.toInt ≠ 0 := b_neq rfl (by decide) c192
            refine lv_aload_n hx hb dX1_readNeed_138 rfl (lv_at hl 3 rfl) ?_
            refine va_get (D := D) (ci := 1) (v := rfN ad 72 (V190 1 2)) (fs := (xfReader ad V190 L191 Z)) (C := RX1) (T := TX1) (N := 9) hx hb hg inX1 hown hK hP 1 xgReader rfl 2 (by decide) (hg _ w306) (fun _ h9 => h9) rfl dX1_readNeed_139 ?_
            have pq194 : (V190 1 2).toInt = ((V 1 2)).toInt := congrArg Int32.toInt ((ajV190 1 2 rfl).trans ((ajV182 1 2 rfl).trans ((ajV174 1 2 rfl).trans ((ajV167 1 2 rfl).trans (ajV9 1 2 rfl)))))
            refine g_topv (v := .ref (ad (72 + go))) (rfN_r (by first | omega | ((try (have i_t173 := Imp.go t173 (by omega))); (try (have i_tx := Imp.go tx (by omega))); (try (have i_cd := Imp.go cd (by omega))); (try (have i_cd := Imp.go cd (by omega))); (try (have i_tx := Imp.go tx (by omega))); (try (have i_t173 := Imp.go t173 (by omega))); omega))) ?_
            refine lv_iload_n hx hb dX1_readNeed_142 rfl (lv_at hl 2 rfl) ?_
            refine lv_iload_n hx hb dX1_readNeed_143 rfl (lv_at hl 1 rfl) ?_
            refine lv_iload_n hx hb dX1_readNeed_144 rfl (lv_at hl 0 rfl) ?_
            have r195 : Int32.toInt 1 = 1 := by decide
            have r196 : Int32.toInt (-1) = (-1) := by decide
            refine gA_void (gA_runV (As := [.int 1, .int (V174 1 6), .int (-1)]) (rest := []) (ci := 3) (q0 := (72 + go)) hx hb hml hown hg hP hD hK hS hA hnw hgk (x_addNeed l D ks H.size ad kk V190 L191 Z 1 (V174 1 6) (-1) (go) hMV190 (show go < 48 from by first | omega | ((try (have i_t173 := Imp.go t173 (by omega))); (try (have i_tx := Imp.go tx (by omega))); (try (have i_cd := Imp.go cd (by omega))); (try (have i_cd := Imp.go cd (by omega))); (try (have i_tx := Imp.go tx (by omega))); (try (have i_t173 := Imp.go t173 (by omega))); omega))) w1011 w1012 w1013 w169 w1014 rfl (xgComp hgo) hdV_yX3_addNeed ⟨Nat.le_of_ble_eq_true rfl, Nat.le_of_ble_eq_true rfl⟩ rfl hl.1 rfl (Nat.le_of_ble_eq_true rfl) dX1_readNeed_145 ⟨Nat.le_of_ble_eq_true rfl, Nat.le_of_ble_eq_true rfl⟩) hP hD hK hS hA (fun u198 H locs w199 hP hD hK hS => ?_)
            obtain ⟨V200, L201⟩ := u198
            obtain ⟨hMV200, ajV200, axL201, fyV200⟩ := w199
            have axL201 : L191 = L201 := Eq.symm axL201
            subst axL201
            have hP : va_P D vwCl (xw ad kk V200 L191 Z) H := hP
            have hD : va_D A (xw ad kk V200 L191 Z) := hD
            have hMV200 : rgd bX V200 := hMV200
            have ajV200 : agr [] [49, 58, 59, 60] V190 V200 := ajV200
            have agV200 : agr [(1, 3), (1, 6), (6, 8), (6, 9), (6, 10)] [43, 44, 49, 58, 59, 60] V V200 := agV190.tr ajV200 (by decide) (by decide)
            have fwV200 : frX (xR b) V V200 := frX.tr fwV190 (frX_IB fyV200 (by first | omega | ((try (have i_t173 := Imp.go t173 (by omega))); (try (have i_tx := Imp.go tx (by omega))); (try (have i_cd := Imp.go cd (by omega))); (try (have i_cd := Imp.go cd (by omega))); (try (have i_tx := Imp.go tx (by omega))); (try (have i_t173 := Imp.go t173 (by omega))); omega)) (by first | omega | ((try (have i_t173 := Imp.go t173 (by omega))); (try (have i_tx := Imp.go tx (by omega))); (try (have i_cd := Imp.go cd (by omega))); (try (have i_cd := Imp.go cd (by omega))); (try (have i_tx := Imp.go tx (by omega))); (try (have i_t173 := Imp.go t173 (by omega))); omega)))
            refine lv_iconst (v := 1) hx hb dX1_readNeed_148 (by decide) ?_
            have px202 : px V V200 b := px.tr (px.rf : px V V b) (px.ag (show agr [(1, 3), (1, 6), (6, 8), (6, 9), (6, 10)] [49, 58, 59, 60] V V200 from (agr.tr (agr.tr (agr.tr (agr.tr (agr.tr (agr.tr agr.rf ajV9 (by decide) (by decide)) ajV167 (by decide) (by decide)) ajV174 (by decide) (by decide)) ajV182 (by decide) (by decide)) ajV190 (by decide) (by decide)) ajV200 (by decide) (by decide))) (fun _ => rfl) (fun _ => rfl) (fun _ => rfl))
            have tx203 : TX V200 b := TX.ag tx (show agr [(1, 3), (1, 6), (6, 8), (6, 9), (6, 10)] [49, 58, 59, 60] V V200 from (agr.tr (agr.tr (agr.tr (agr.tr (agr.tr (agr.tr agr.rf ajV9 (by decide) (by decide)) ajV167 (by decide) (by decide)) ajV174 (by decide) (by decide)) ajV182 (by decide) (by decide)) ajV190 (by decide) (by decide)) ajV200 (by decide) (by decide))) px202 (fun _ => rfl) (fun _ => rfl) (fun _ => rfl) (fun _ => rfl) (fun _ => rfl) (fun _ => rfl)
            have cd204 : CD V200 b := ⟨CB.ag cd.1 (show agr [(1, 3), (1, 6), (6, 8), (6, 9), (6, 10)] [49, 58, 59, 60] V V200 from (agr.tr (agr.tr (agr.tr (agr.tr (agr.tr (agr.tr agr.rf ajV9 (by decide) (by decide)) ajV167 (by decide) (by decide)) ajV174 (by decide) (by decide)) ajV182 (by decide) (by decide)) ajV190 (by decide) (by decide)) ajV200 (by decide) (by decide))) (fun _ => rfl) (fun _ => rfl), CO.ag cd.2 (show agr [(1, 3), (1, 6), (6, 8), (6, 9), (6, 10)] [49, 58, 59, 60] V V200 from (agr.tr (agr.tr (agr.tr (agr.tr (agr.tr (agr.tr agr.rf ajV9 (by decide) (by decide)) ajV167 (by decide) (by decide)) ajV174 (by decide) (by decide)) ajV182 (by decide) (by decide)) ajV190 (by decide) (by decide)) ajV200 (by decide) (by decide))) (fun _ => rfl) (fun _ => rfl)⟩
            have px205 : px V V200 b := px.tr (px.rf : px V V b) (px.ag (show agr [(1, 3), (1, 6), (6, 8), (6, 9), (6, 10)] [49, 58, 59, 60] V V200 from (agr.tr (agr.tr (agr.tr (agr.tr (agr.tr (agr.tr agr.rf ajV9 (by decide) (by decide)) ajV167 (by decide) (by decide)) ajV174 (by decide) (by decide)) ajV182 (by decide) (by decide)) ajV190 (by decide) (by decide)) ajV200 (by decide) (by decide))) (fun _ => rfl) (fun _ => rfl) (fun _ => rfl))
            exact W.zret (v := 1) hx hb hr rfl (fun t ht hW => ⟨⟨1, (V200, L191), rfl, ⟨hMV200, agV200, alL191, fwV200, (by decide), tx203, cd204, px205⟩, by rw [ht]; exact hP, va_K.moved hW.alike hK, hD⟩, hS.F ht⟩) hS.2.2 dX1_readNeed_149
          · skip
            have f206 : z187.toInt = 0 := b_eq rfl (by decide) c192
            refine lv_iconst (v := 0) hx hb dX1_readNeed_136 (by decide) ?_
            have px207 : px V V190 b := px.tr (px.rf : px V V b) (px.ag (show agr [(1, 3), (1, 6), (6, 8), (6, 9), (6, 10)] [] V V190 from (agr.tr (agr.tr (agr.tr (agr.tr (agr.tr agr.rf ajV9 (by decide) (by decide)) ajV167 (by decide) (by decide)) ajV174 (by decide) (by decide)) ajV182 (by decide) (by decide)) ajV190 (by decide) (by decide))) (fun _ => rfl) (fun _ => rfl) (fun _ => rfl))
            have tx208 : TX V190 b := TX.ag tx (show agr [(1, 3), (1, 6), (6, 8), (6, 9), (6, 10)] [] V V190 from (agr.tr (agr.tr (agr.tr (agr.tr (agr.tr agr.rf ajV9 (by decide) (by decide)) ajV167 (by decide) (by decide)) ajV174 (by decide) (by decide)) ajV182 (by decide) (by decide)) ajV190 (by decide) (by decide))) px207 (fun _ => rfl) (fun _ => rfl) (fun _ => rfl) (fun _ => rfl) (fun _ => rfl) (fun _ => rfl)
            have cd209 : CD V190 b := ⟨CB.ag cd.1 (show agr [(1, 3), (1, 6), (6, 8), (6, 9), (6, 10)] [] V V190 from (agr.tr (agr.tr (agr.tr (agr.tr (agr.tr agr.rf ajV9 (by decide) (by decide)) ajV167 (by decide) (by decide)) ajV174 (by decide) (by decide)) ajV182 (by decide) (by decide)) ajV190 (by decide) (by decide))) (fun _ => rfl) (fun _ => rfl), CO.ag cd.2 (show agr [(1, 3), (1, 6), (6, 8), (6, 9), (6, 10)] [] V V190 from (agr.tr (agr.tr (agr.tr (agr.tr (agr.tr agr.rf ajV9 (by decide) (by decide)) ajV167 (by decide) (by decide)) ajV174 (by decide) (by decide)) ajV182 (by decide) (by decide)) ajV190 (by decide) (by decide))) (fun _ => rfl) (fun _ => rfl)⟩
            have px210 : px V V190 b := px.tr (px.rf : px V V b) (px.ag (show agr [(1, 3), (1, 6), (6, 8), (6, 9), (6, 10)] [] V V190 from (agr.tr (agr.tr (agr.tr (agr.tr (agr.tr agr.rf ajV9 (by decide) (by decide)) ajV167 (by decide) (by decide)) ajV174 (by decide) (by decide)) ajV182 (by decide) (by decide)) ajV190 (by decide) (by decide))) (fun _ => rfl) (fun _ => rfl) (fun _ => rfl))
            exact W.zret (v := 0) hx hb hr rfl (fun t ht hW => ⟨⟨0, (V190, L191), rfl, ⟨hMV190, agV190, alL191, fwV190, (by decide), tx208, cd209, px210⟩, by rw [ht]; exact hP, va_K.moved hW.alike hK, hD⟩, hS.F ht⟩) hS.2.2 dX1_readNeed_137
        · skip
          have f211 : ((V182 6 9)).toInt = 133 := b_eq rfl (by decide) c184
          refine lv_aload_n hx hb dX1_readNeed_113 rfl (lv_at hl 3 rfl) ?_
          have pq212 : (V182 1 1).toInt = ((V 1 1)).toInt := congrArg Int32.toInt ((ajV182 1 1 rfl).trans ((ajV174 1 1 rfl).trans ((ajV167 1 1 rfl).trans (ajV9 1 1 rfl))))
          refine gA_int (gA_runV (As := []) (rest := []) (ci := 1) (q0 := 1) hx hb hml hown hg hP hD hK hS hA hnw hgk (x_takeCalled l D ks H.size ad kk V182 L183 Z (b) hMV182 (show b < 2 from by first | omega | ((try (have i_t173 := Imp.go t173 (by omega))); (try (have i_tx := Imp.go tx (by omega))); (try (have i_cd := Imp.go cd (by omega))); (try (have i_cd := Imp.go cd (by omega))); (try (have i_tx := Imp.go tx (by omega))); (try (have i_t173 := Imp.go t173 (by omega))); omega)) (show (V182 1 1).toInt = (b : Int) from by first | omega | ((try (have i_t173 := Imp.go t173 (by omega))); (try (have i_tx := Imp.go tx (by omega))); (try (have i_cd := Imp.go cd (by omega))); (try (have i_cd := Imp.go cd (by omega))); (try (have i_tx := Imp.go tx (by omega))); (try (have i_t173 := Imp.go t173 (by omega))); omega))) w923 w925 w15 w162 w926 rfl xgReader hdV_yX1_takeCalled ⟨Nat.le_of_ble_eq_true rfl, Nat.le_of_ble_eq_true rfl⟩ rfl hl.1 rfl (Nat.le_of_ble_eq_true rfl) dX1_readNeed_114 ⟨Nat.le_of_ble_eq_true rfl, Nat.le_of_ble_eq_true rfl⟩) hP hD hK hS hA (fun z213 u214 H locs w215 hP hD hK hS => ?_)
          obtain ⟨V217, L218⟩ := u214
          obtain ⟨hMV217, ajV217, axL218, fyV217, rgz213, t216⟩ := w215
          have alL218 : agL [6, 44] L L218 := agL.tr alL183 axL218 (by decide)
          have hP : va_P D vwCl (xw ad kk V217 L218 Z) H := hP
          have hD : va_D A (xw ad kk V217 L218 Z) := hD
          have hMV217 : rgd bX V217 := hMV217
          have ajV217 : agr [(1, 3), (1, 6), (6, 8), (6, 9), (6, 10)] [43, 44] V182 V217 := ajV217
          have agV217 : agr [(1, 3), (1, 6), (6, 8), (6, 9), (6, 10)] [43, 44, 49, 58, 59, 60] V V217 := agV182.tr ajV217 (by decide) (by decide)
          have fwV217 : frX (xR b) V V217 := frX.tr fwV182 (fyV217)
          have rgz213 : 0 ≤ z213.toInt ∧ z213.toInt ≤ 1 := rgz213
          have t216 : px V182 V217 b := t216
          refine lv_if_ne (tgt := 122) hx hb dX1_readNeed_117 (by decide) (fun c219 => ?_) (fun c219 => ?_)
          · skip
            have f220 : z213.toInt ≠ 0 := b_neq rfl (by decide) c219
            refine lv_aload_n hx hb dX1_readNeed_122 rfl (lv_at hl 3 rfl) ?_
            refine va_get (D := D) (ci := 1) (v := .int (V217 1 6)) (fs := (xfReader ad V217 L218 Z)) (C := RX1) (T := TX1) (N := 9) hx hb hg inX1 hown hK hP 1 xgReader rfl 6 (by decide) (hg _ w310) (fun _ h9 => h9) rfl dX1_readNeed_123 ?_
            have r221 : (-1) ≤ ((V217 1 6)).toInt ∧ ((V217 1 6)).toInt ≤ 23 := hMV217 1 6
            refine lv_istore_n (lv' := [(3, .int (V217 1 6)), (2, .int (V174 1 6)), (1, .int 1), (0, .ref (ad 1))]) hx hb dX1_readNeed_126 rfl hl (by decide) rfl (fun ls hl => ?_)
            refine lv_aload_n hx hb dX1_readNeed_127 rfl (lv_at hl 3 rfl) ?_
            refine lv_bipush (v := 59) hx hb dX1_readNeed_128 (by decide) ?_
            have r222 : Int32.toInt 59 = 59 := by decide
            refine gA_int (gA_runV (As := [.int 59]) (rest := []) (ci := 1) (q0 := 1) hx hb hml hown hg hP hD hK hS hA hnw hgk (x_take l D ks H.size ad kk V217 L218 Z 59 hMV217 ) w893 w895 w10 w162 w896 rfl xgReader hdV_yX1_take ⟨Nat.le_of_ble_eq_true rfl, Nat.le_of_ble_eq_true rfl⟩ rfl hl.1 rfl (Nat.le_of_ble_eq_true rfl) dX1_readNeed_130 ⟨Nat.le_of_ble_eq_true rfl, Nat.le_of_ble_eq_true rfl⟩) hP hD hK hS hA (fun z223 u224 H locs w225 hP hD hK hS => ?_)
            obtain ⟨V226, L227⟩ := u224
            obtain ⟨hMV226, ajV226, axL227, rgz223⟩ := w225
            have alL227 : agL [6, 44] L L227 := agL.tr alL218 axL227 (by decide)
            have hP : va_P D vwCl (xw ad kk V226 L227 Z) H := hP
            have hD : va_D A (xw ad kk V226 L227 Z) := hD
            have hMV226 : rgd bX V226 := hMV226
            have ajV226 : agr [(1, 3), (6, 8), (6, 9), (6, 10)] [] V217 V226 := ajV226
            have agV226 : agr [(1, 3), (1, 6), (6, 8), (6, 9), (6, 10)] [43, 44, 49, 58, 59, 60] V V226 := agV217.tr ajV226 (by decide) (by decide)
            have fwV226 : frX (xR b) V V226 := frX.tr fwV217 (frX.ag ajV226 (by decide) (by decide))
            have rgz223 : 0 ≤ z223.toInt ∧ z223.toInt ≤ 1 := rgz223
            refine lv_if_ne (tgt := 138) hx hb dX1_readNeed_133 (by decide) (fun c228 => ?_) (fun c228 => ?_)
            · skip
              have f229 : z223.toInt ≠ 0 := b_neq rfl (by decide) c228
              refine lv_aload_n hx hb dX1_readNeed_138 rfl (lv_at hl 3 rfl) ?_
              refine va_get (D := D) (ci := 1) (v := rfN ad 72 (V226 1 2)) (fs := (xfReader ad V226 L227 Z)) (C := RX1) (T := TX1) (N := 9) hx hb hg inX1 hown hK hP 1 xgReader rfl 2 (by decide) (hg _ w306) (fun _ h9 => h9) rfl dX1_readNeed_139 ?_
              have pq230 : (V226 1 2).toInt = ((V 1 2)).toInt := congrArg Int32.toInt ((ajV226 1 2 rfl).trans ((ajV217 1 2 rfl).trans ((ajV182 1 2 rfl).trans ((ajV174 1 2 rfl).trans ((ajV167 1 2 rfl).trans (ajV9 1 2 rfl))))))
              refine g_topv (v := .ref (ad (72 + go))) (rfN_r (by first | omega | ((try (have i_t173 := Imp.go t173 (by omega))); (try (have i_tx := Imp.go tx (by omega))); (try (have i_cd := Imp.go cd (by omega))); (try (have i_cd := Imp.go cd (by omega))); (try (have i_tx := Imp.go tx (by omega))); (try (have i_t173 := Imp.go t173 (by omega))); omega))) ?_
              refine lv_iload_n hx hb dX1_readNeed_142 rfl (lv_at hl 2 rfl) ?_
              refine lv_iload_n hx hb dX1_readNeed_143 rfl (lv_at hl 1 rfl) ?_
              refine lv_iload_n hx hb dX1_readNeed_144 rfl (lv_at hl 0 rfl) ?_
              have r231 : Int32.toInt 1 = 1 := by decide
              refine gA_void (gA_runV (As := [.int 1, .int (V174 1 6), .int (V217 1 6)]) (rest := []) (ci := 3) (q0 := (72 + go)) hx hb hml hown hg hP hD hK hS hA hnw hgk (x_addNeed l D ks H.size ad kk V226 L227 Z 1 (V174 1 6) (V217 1 6) (go) hMV226 (show go < 48 from by first | omega | ((try (have i_t173 := Imp.go t173 (by omega))); (try (have i_tx := Imp.go tx (by omega))); (try (have i_cd := Imp.go cd (by omega))); (try (have i_cd := Imp.go cd (by omega))); (try (have i_tx := Imp.go tx (by omega))); (try (have i_t173 := Imp.go t173 (by omega))); omega))) w1011 w1012 w1013 w169 w1014 rfl (xgComp hgo) hdV_yX3_addNeed ⟨Nat.le_of_ble_eq_true rfl, Nat.le_of_ble_eq_true rfl⟩ rfl hl.1 rfl (Nat.le_of_ble_eq_true rfl) dX1_readNeed_145 ⟨Nat.le_of_ble_eq_true rfl, Nat.le_of_ble_eq_true rfl⟩) hP hD hK hS hA (fun u233 H locs w234 hP hD hK hS => ?_)
              obtain ⟨V235, L236⟩ := u233
              obtain ⟨hMV235, ajV235, axL236, fyV235⟩ := w234
              have axL236 : L227 = L236 := Eq.symm axL236
              subst axL236
              have hP : va_P D vwCl (xw ad kk V235 L227 Z) H := hP
              have hD : va_D A (xw ad kk V235 L227 Z) := hD
              have hMV235 : rgd bX V235 := hMV235
              have ajV235 : agr [] [49, 58, 59, 60] V226 V235 := ajV235
              have agV235 : agr [(1, 3), (1, 6), (6, 8), (6, 9), (6, 10)] [43, 44, 49, 58, 59, 60] V V235 := agV226.tr ajV235 (by decide) (by decide)
              have fwV235 : frX (xR b) V V235 := frX.tr fwV226 (frX_IB fyV235 (by first | omega | ((try (have i_t173 := Imp.go t173 (by omega))); (try (have i_tx := Imp.go tx (by omega))); (try (have i_cd := Imp.go cd (by omega))); (try (have i_cd := Imp.go cd (by omega))); (try (have i_tx := Imp.go tx (by omega))); (try (have i_t173 := Imp.go t173 (by omega))); omega)) (by first | omega | ((try (have i_t173 := Imp.go t173 (by omega))); (try (have i_tx := Imp.go tx (by omega))); (try (have i_cd := Imp.go cd (by omega))); (try (have i_cd := Imp.go cd (by omega))); (try (have i_tx := Imp.go tx (by omega))); (try (have i_t173 := Imp.go t173 (by omega))); omega)))
              refine lv_iconst (v := 1) hx hb dX1_readNeed_148 (by decide) ?_
              have px237 : px V V182 b := px.tr (px.rf : px V V b) (px.ag (show agr [(1, 3), (1, 6), (6, 8), (6, 9), (6, 10)] [] V V182 from (agr.tr (agr.tr (agr.tr (agr.tr agr.rf ajV9 (by decide) (by decide)) ajV167 (by decide) (by decide)) ajV174 (by decide) (by decide)) ajV182 (by decide) (by decide))) (fun _ => rfl) (fun _ => rfl) (fun _ => rfl))
              have px238 : px V V217 b := px.tr px237 t216
              have px239 : px V V235 b := px.tr px238 (px.ag (show agr [(1, 3), (6, 8), (6, 9), (6, 10)] [49, 58, 59, 60] V217 V235 from (agr.tr (agr.tr agr.rf ajV226 (by decide) (by decide)) ajV235 (by decide) (by decide))) (fun _ => rfl) (fun _ => rfl) (fun _ => rfl))
              have tx240 : TX V235 b := TX.ag tx (show agr [(1, 3), (1, 6), (6, 8), (6, 9), (6, 10)] [43, 44, 49, 58, 59, 60] V V235 from (agr.tr (agr.tr (agr.tr (agr.tr (agr.tr (agr.tr (agr.tr agr.rf ajV9 (by decide) (by decide)) ajV167 (by decide) (by decide)) ajV174 (by decide) (by decide)) ajV182 (by decide) (by decide)) ajV217 (by decide) (by decide)) ajV226 (by decide) (by decide)) ajV235 (by decide) (by decide))) px239 (fun _ => rfl) (fun _ => rfl) (fun _ => rfl) (fun _ => rfl) (fun _ => rfl) (fun _ => rfl)
              have cd241 : CD V235 b := ⟨CB.ag cd.1 (show agr [(1, 3), (1, 6), (6, 8), (6, 9), (6, 10)] [43, 44, 49, 58, 59, 60] V V235 from (agr.tr (agr.tr (agr.tr (agr.tr (agr.tr (agr.tr (agr.tr agr.rf ajV9 (by decide) (by decide)) ajV167 (by decide) (by decide)) ajV174 (by decide) (by decide)) ajV182 (by decide) (by decide)) ajV217 (by decide) (by decide)) ajV226 (by decide) (by decide)) ajV235 (by decide) (by decide))) (fun _ => rfl) (fun _ => rfl), CO.ag cd.2 (show agr [(1, 3), (1, 6), (6, 8), (6, 9), (6, 10)] [43, 44, 49, 58, 59, 60] V V235 from (agr.tr (agr.tr (agr.tr (agr.tr (agr.tr (agr.tr (agr.tr agr.rf ajV9 (by decide) (by decide)) ajV167 (by decide) (by decide)) ajV174 (by decide) (by decide)) ajV182 (by decide) (by decide)) ajV217 (by decide) (by decide)) ajV226 (by decide) (by decide)) ajV235 (by decide) (by decide))) (fun _ => rfl) (fun _ => rfl)⟩
              have px242 : px V V182 b := px.tr (px.rf : px V V b) (px.ag (show agr [(1, 3), (1, 6), (6, 8), (6, 9), (6, 10)] [] V V182 from (agr.tr (agr.tr (agr.tr (agr.tr agr.rf ajV9 (by decide) (by decide)) ajV167 (by decide) (by decide)) ajV174 (by decide) (by decide)) ajV182 (by decide) (by decide))) (fun _ => rfl) (fun _ => rfl) (fun _ => rfl))
              have px243 : px V V217 b := px.tr px242 t216
              have px244 : px V V235 b := px.tr px243 (px.ag (show agr [(1, 3), (6, 8), (6, 9), (6, 10)] [49, 58, 59, 60] V217 V235 from (agr.tr (agr.tr agr.rf ajV226 (by decide) (by decide)) ajV235 (by decide) (by decide))) (fun _ => rfl) (fun _ => rfl) (fun _ => rfl))
              exact W.zret (v := 1) hx hb hr rfl (fun t ht hW => ⟨⟨1, (V235, L227), rfl, ⟨hMV235, agV235, alL227, fwV235, (by decide), tx240, cd241, px244⟩, by rw [ht]; exact hP, va_K.moved hW.alike hK, hD⟩, hS.F ht⟩) hS.2.2 dX1_readNeed_149
            · skip
              have f245 : z223.toInt = 0 := b_eq rfl (by decide) c228
              refine lv_iconst (v := 0) hx hb dX1_readNeed_136 (by decide) ?_
              have px246 : px V V182 b := px.tr (px.rf : px V V b) (px.ag (show agr [(1, 3), (1, 6), (6, 8), (6, 9), (6, 10)] [] V V182 from (agr.tr (agr.tr (agr.tr (agr.tr agr.rf ajV9 (by decide) (by decide)) ajV167 (by decide) (by decide)) ajV174 (by decide) (by decide)) ajV182 (by decide) (by decide))) (fun _ => rfl) (fun _ => rfl) (fun _ => rfl))
              have px247 : px V V217 b := px.tr px246 t216
              have px248 : px V V226 b := px.tr px247 (px.ag (show agr [(1, 3), (6, 8), (6, 9), (6, 10)] [] V217 V226 from (agr.tr agr.rf ajV226 (by decide) (by decide))) (fun _ => rfl) (fun _ => rfl) (fun _ => rfl))
              have tx249 : TX V226 b := TX.ag tx (show agr [(1, 3), (1, 6), (6, 8), (6, 9), (6, 10)] [43, 44] V V226 from (agr.tr (agr.tr (agr.tr (agr.tr (agr.tr (agr.tr agr.rf ajV9 (by decide) (by decide)) ajV167 (by decide) (by decide)) ajV174 (by decide) (by decide)) ajV182 (by decide) (by decide)) ajV217 (by decide) (by decide)) ajV226 (by decide) (by decide))) px248 (fun _ => rfl) (fun _ => rfl) (fun _ => rfl) (fun _ => rfl) (fun _ => rfl) (fun _ => rfl)
              have cd250 : CD V226 b := ⟨CB.ag cd.1 (show agr [(1, 3), (1, 6), (6, 8), (6, 9), (6, 10)] [43, 44] V V226 from (agr.tr (agr.tr (agr.tr (agr.tr (agr.tr (agr.tr agr.rf ajV9 (by decide) (by decide)) ajV167 (by decide) (by decide)) ajV174 (by decide) (by decide)) ajV182 (by decide) (by decide)) ajV217 (by decide) (by decide)) ajV226 (by decide) (by decide))) (fun _ => rfl) (fun _ => rfl), CO.ag cd.2 (show agr [(1, 3), (1, 6), (6, 8), (6, 9), (6, 10)] [43, 44] V V226 from (agr.tr (agr.tr (agr.tr (agr.tr (agr.tr (agr.tr agr.rf ajV9 (by decide) (by decide)) ajV167 (by decide) (by decide)) ajV174 (by decide) (by decide)) ajV182 (by decide) (by decide)) ajV217 (by decide) (by decide)) ajV226 (by decide) (by decide))) (fun _ => rfl) (fun _ => rfl)⟩
              have px251 : px V V182 b := px.tr (px.rf : px V V b) (px.ag (show agr [(1, 3), (1, 6), (6, 8), (6, 9), (6, 10)] [] V V182 from (agr.tr (agr.tr (agr.tr (agr.tr agr.rf ajV9 (by decide) (by decide)) ajV167 (by decide) (by decide)) ajV174 (by decide) (by decide)) ajV182 (by decide) (by decide))) (fun _ => rfl) (fun _ => rfl) (fun _ => rfl))
              have px252 : px V V217 b := px.tr px251 t216
              have px253 : px V V226 b := px.tr px252 (px.ag (show agr [(1, 3), (6, 8), (6, 9), (6, 10)] [] V217 V226 from (agr.tr agr.rf ajV226 (by decide) (by decide))) (fun _ => rfl) (fun _ => rfl) (fun _ => rfl))
              exact W.zret (v := 0) hx hb hr rfl (fun t ht hW => ⟨⟨0, (V226, L227), rfl, ⟨hMV226, agV226, alL227, fwV226, (by decide), tx249, cd250, px253⟩, by rw [ht]; exact hP, va_K.moved hW.alike hK, hD⟩, hS.F ht⟩) hS.2.2 dX1_readNeed_137
          · skip
            have f254 : z213.toInt = 0 := b_eq rfl (by decide) c219
            refine lv_iconst (v := 0) hx hb dX1_readNeed_120 (by decide) ?_
            have px255 : px V V182 b := px.tr (px.rf : px V V b) (px.ag (show agr [(1, 3), (1, 6), (6, 8), (6, 9), (6, 10)] [] V V182 from (agr.tr (agr.tr (agr.tr (agr.tr agr.rf ajV9 (by decide) (by decide)) ajV167 (by decide) (by decide)) ajV174 (by decide) (by decide)) ajV182 (by decide) (by decide))) (fun _ => rfl) (fun _ => rfl) (fun _ => rfl))
            have px256 : px V V217 b := px.tr px255 t216
            have tx257 : TX V217 b := TX.ag tx (show agr [(1, 3), (1, 6), (6, 8), (6, 9), (6, 10)] [43, 44] V V217 from (agr.tr (agr.tr (agr.tr (agr.tr (agr.tr agr.rf ajV9 (by decide) (by decide)) ajV167 (by decide) (by decide)) ajV174 (by decide) (by decide)) ajV182 (by decide) (by decide)) ajV217 (by decide) (by decide))) px256 (fun _ => rfl) (fun _ => rfl) (fun _ => rfl) (fun _ => rfl) (fun _ => rfl) (fun _ => rfl)
            have cd258 : CD V217 b := ⟨CB.ag cd.1 (show agr [(1, 3), (1, 6), (6, 8), (6, 9), (6, 10)] [43, 44] V V217 from (agr.tr (agr.tr (agr.tr (agr.tr (agr.tr agr.rf ajV9 (by decide) (by decide)) ajV167 (by decide) (by decide)) ajV174 (by decide) (by decide)) ajV182 (by decide) (by decide)) ajV217 (by decide) (by decide))) (fun _ => rfl) (fun _ => rfl), CO.ag cd.2 (show agr [(1, 3), (1, 6), (6, 8), (6, 9), (6, 10)] [43, 44] V V217 from (agr.tr (agr.tr (agr.tr (agr.tr (agr.tr agr.rf ajV9 (by decide) (by decide)) ajV167 (by decide) (by decide)) ajV174 (by decide) (by decide)) ajV182 (by decide) (by decide)) ajV217 (by decide) (by decide))) (fun _ => rfl) (fun _ => rfl)⟩
            have px259 : px V V182 b := px.tr (px.rf : px V V b) (px.ag (show agr [(1, 3), (1, 6), (6, 8), (6, 9), (6, 10)] [] V V182 from (agr.tr (agr.tr (agr.tr (agr.tr agr.rf ajV9 (by decide) (by decide)) ajV167 (by decide) (by decide)) ajV174 (by decide) (by decide)) ajV182 (by decide) (by decide))) (fun _ => rfl) (fun _ => rfl) (fun _ => rfl))
            have px260 : px V V217 b := px.tr px259 t216
            exact W.zret (v := 0) hx hb hr rfl (fun t ht hW => ⟨⟨0, (V217, L218), rfl, ⟨hMV217, agV217, alL218, fwV217, (by decide), tx257, cd258, px260⟩, by rw [ht]; exact hP, va_K.moved hW.alike hK, hD⟩, hS.F ht⟩) hS.2.2 dX1_readNeed_121
      · skip
        have f261 : z170.toInt = 0 := b_eq rfl (by decide) c177
        refine lv_iconst (v := 0) hx hb dX1_readNeed_79 (by decide) ?_
        have px262 : px V V174 b := px.tr (px.rf : px V V b) (px.ag (show agr [(1, 3), (1, 6), (6, 8), (6, 9), (6, 10)] [] V V174 from (agr.tr (agr.tr (agr.tr agr.rf ajV9 (by decide) (by decide)) ajV167 (by decide) (by decide)) ajV174 (by decide) (by decide))) (fun _ => rfl) (fun _ => rfl) (fun _ => rfl))
        have tx263 : TX V174 b := TX.ag tx (show agr [(1, 3), (1, 6), (6, 8), (6, 9), (6, 10)] [] V V174 from (agr.tr (agr.tr (agr.tr agr.rf ajV9 (by decide) (by decide)) ajV167 (by decide) (by decide)) ajV174 (by decide) (by decide))) px262 (fun _ => rfl) (fun _ => rfl) (fun _ => rfl) (fun _ => rfl) (fun _ => rfl) (fun _ => rfl)
        have cd264 : CD V174 b := ⟨CB.ag cd.1 (show agr [(1, 3), (1, 6), (6, 8), (6, 9), (6, 10)] [] V V174 from (agr.tr (agr.tr (agr.tr agr.rf ajV9 (by decide) (by decide)) ajV167 (by decide) (by decide)) ajV174 (by decide) (by decide))) (fun _ => rfl) (fun _ => rfl), CO.ag cd.2 (show agr [(1, 3), (1, 6), (6, 8), (6, 9), (6, 10)] [] V V174 from (agr.tr (agr.tr (agr.tr agr.rf ajV9 (by decide) (by decide)) ajV167 (by decide) (by decide)) ajV174 (by decide) (by decide))) (fun _ => rfl) (fun _ => rfl)⟩
        have px265 : px V V174 b := px.tr (px.rf : px V V b) (px.ag (show agr [(1, 3), (1, 6), (6, 8), (6, 9), (6, 10)] [] V V174 from (agr.tr (agr.tr (agr.tr agr.rf ajV9 (by decide) (by decide)) ajV167 (by decide) (by decide)) ajV174 (by decide) (by decide))) (fun _ => rfl) (fun _ => rfl) (fun _ => rfl))
        exact W.zret (v := 0) hx hb hr rfl (fun t ht hW => ⟨⟨0, (V174, L168), rfl, ⟨hMV174, agV174, alL168, fwV174, (by decide), tx263, cd264, px265⟩, by rw [ht]; exact hP, va_K.moved hW.alike hK, hD⟩, hS.F ht⟩) hS.2.2 dX1_readNeed_80
  · skip
    have f266 : 8 ≤ ((V 49 go)).toInt := b_nlt rfl (by decide) c4
    refine lv_aload_n hx hb dX1_readNeed_12 rfl (lv_at hl 0 rfl) ?_
    refine lv_iconst (v := 5) hx hb dX1_readNeed_13 (by decide) ?_
    have r267 : Int32.toInt 5 = 5 := by decide
    refine gA_int (gA_runV (As := [.int 5]) (rest := []) (ci := 1) (q0 := 1) hx hb hml hown hg hP hD hK hS hA hnw hgk (x_wrong l D ks H.size ad kk V L Z 5 hMV ) w867 w869 w6 w162 w870 rfl xgReader hdV_yX1_wrong ⟨Nat.le_of_ble_eq_true rfl, Nat.le_of_ble_eq_true rfl⟩ rfl hl.1 rfl (Nat.le_of_ble_eq_true rfl) dX1_readNeed_14 ⟨Nat.le_of_ble_eq_true rfl, Nat.le_of_ble_eq_true rfl⟩) hP hD hK hS hA (fun z268 u269 H locs w270 hP hD hK hS => ?_)
    obtain ⟨V271, L272⟩ := u269
    obtain ⟨hMV271, ajV271, axL272, rgz268⟩ := w270
    have axL272 : L = L272 := Eq.symm axL272
    subst axL272
    have hP : va_P D vwCl (xw ad kk V271 L Z) H := hP
    have hD : va_D A (xw ad kk V271 L Z) := hD
    have hMV271 : rgd bX V271 := hMV271
    have ajV271 : agr [(1, 3)] [] V V271 := ajV271
    have agV271 : agr [(1, 3), (1, 6), (6, 8), (6, 9), (6, 10)] [43, 44, 49, 58, 59, 60] V V271 := agV.tr ajV271 (by decide) (by decide)
    have fwV271 : frX (xR b) V V271 := frX.tr fwV (frX.ag ajV271 (by decide) (by decide))
    have rgz268 : 0 ≤ z268.toInt ∧ z268.toInt ≤ 0 := rgz268
    have px273 : px V V271 b := px.tr (px.rf : px V V b) (px.ag (show agr [(1, 3)] [] V V271 from (agr.tr agr.rf ajV271 (by decide) (by decide))) (fun _ => rfl) (fun _ => rfl) (fun _ => rfl))
    have tx274 : TX V271 b := TX.ag tx (show agr [(1, 3)] [] V V271 from (agr.tr agr.rf ajV271 (by decide) (by decide))) px273 (fun _ => rfl) (fun _ => rfl) (fun _ => rfl) (fun _ => rfl) (fun _ => rfl) (fun _ => rfl)
    have cd275 : CD V271 b := ⟨CB.ag cd.1 (show agr [(1, 3)] [] V V271 from (agr.tr agr.rf ajV271 (by decide) (by decide))) (fun _ => rfl) (fun _ => rfl), CO.ag cd.2 (show agr [(1, 3)] [] V V271 from (agr.tr agr.rf ajV271 (by decide) (by decide))) (fun _ => rfl) (fun _ => rfl)⟩
    have px276 : px V V271 b := px.tr (px.rf : px V V b) (px.ag (show agr [(1, 3)] [] V V271 from (agr.tr agr.rf ajV271 (by decide) (by decide))) (fun _ => rfl) (fun _ => rfl) (fun _ => rfl))
    exact W.zret (v := z268) hx hb hr (nb_ok (by omega)) (fun t ht hW => ⟨⟨z268, (V271, L), rfl, ⟨hMV271, agV271, alL, fwV271, (show 0 ≤ z268.toInt ∧ z268.toInt ≤ 1 from by first | omega | ((try (have i_tx := Imp.go tx (by omega))); (try (have i_cd := Imp.go cd (by omega))); (try (have i_cd := Imp.go cd (by omega))); (try (have i_tx := Imp.go tx (by omega))); omega)), tx274, cd275, px276⟩, by rw [ht]; exact hP, va_K.moved hW.alike hK, hD⟩, hS.F ht⟩) hS.2.2 dX1_readNeed_17
abbrev r_x_readMember : Room := { frames := 92, cells := 0, slots := 0, locals := 2704 }
abbrev q_x_readMember (D : va_G) (ks : KS) (ad : Nat → Nat) (kk : Nat → ClassId) (V : Vf) (L : Lf) (Z : XZ) (b : Nat) (go : Nat) (A : Nat → Prop) : Array Value → State → Outcome → State → Prop := va_Qi (fun (r : Int32) (u : Vf × Lf) => rgd bX u.1 ∧ agr [(1, 2), (1, 3), (1, 4), (1, 6), (1, 8), (6, 8), (6, 9), (6, 10)] [42, 43, 44, 48, 49, 56, 57, 58, 59, 60, 61] V u.1 ∧ agL [6, 44] L u.2 ∧ frX (xR b) V u.1 ∧ (0 ≤ r.toInt ∧ r.toInt ≤ 1) ∧ (TX u.1 b) ∧ ((u.1 1 2).toInt = (V 1 2).toInt ∨ (u.1 1 2).toInt = -1) ∧ (CD u.1 b) ∧ (px V u.1 b)) (fun u t => gq D A (xw ad kk u.1 u.2 Z) (xty kk Z) t) A
set_option maxHeartbeats 4000000 in
set_option maxRecDepth 100000 in
theorem x_readMember (l : Launch) (D : va_G) (ks : KS) (sz : Nat) (ad : Nat → Nat) (kk : Nat → ClassId) (V : Vf) (L : Lf) (Z : XZ) (b : Nat) (go : Nat) (hMV : rgd bX V) (hb2 : b < 2) (rbk : (V 1 1).toInt = (b : Int)) (own : (V 1 2).toInt = (go : Int)) (hgo : go < 48) (hgl : 24 * b ≤ go) (hgh : go < 24 * b + 24) (cd : CD V b) (tx : TX V b)  : Met l yX1_readMember (Cond.code yX1_readMember cX1_readMember 2 (some .boolean) :: GW) r_x_readMember (va_Pc [.ref (ad 1)] (gp D ks (xw ad kk V L Z) (xty kk Z) sz)) (q_x_readMember D ks ad kk V L Z  b go (va_A (xw ad kk V L Z) sz)) 0 0 (va_A (xw ad kk V L Z) sz) := by
  refine g_met (q_x_readMember D ks ad kk V L Z  b go) (by decide) (Nat.le_of_ble_eq_true rfl) ?_
  intro p e s m below meth c A ls H locs hx hb hr hml hown hg hlocks hin hnw hgk hP hK hD hS hA hl
  have hown : s.vm.findClass RX1 = some m.cls := hown
  have hl : lv_has ls 2 [(0, .ref (ad 1))] := hl
  have hP : va_P D vwCl (xw ad kk V L Z) H := hP
  have hD : va_D A (xw ad kk V L Z) := hD
  have hK : va_K D vwCl (xty kk Z) s := hK
  have agV : agr [(1, 2), (1, 3), (1, 4), (1, 6), (1, 8), (6, 8), (6, 9), (6, 10)] [42, 43, 44, 48, 49, 56, 57, 58, 59, 60, 61] V V := agr.rf
  have alL : agL [6, 44] L L := agL.rf
  have fwV : frX (xR b) V V := frX.rf
  have r1 : (-1) ≤ ((V 1 1)).toInt ∧ ((V 1 1)).toInt ≤ 1 := hMV 1 1
  have r2 : (-1) ≤ ((V 1 2)).toInt ∧ ((V 1 2)).toInt ≤ 47 := hMV 1 2
  refine lv_aload_n hx hb dX1_readMember_0 rfl (lv_at hl 0 rfl) ?_
  refine va_get (D := D) (ci := 1) (v := rfN ad 38 (V 1 1)) (fs := (xfReader ad V L Z)) (C := RX1) (T := TX1) (N := 9) hx hb hg inX1 hown hK hP 1 xgReader rfl 1 (by decide) (hg _ w305) (fun _ h9 => h9) rfl dX1_readMember_1 ?_
  refine g_topv (v := .ref (ad (38 + b))) (rfN_r (by first | omega | ((try (have i_tx := Imp.go tx (by omega))); (try (have i_cd := Imp.go cd (by omega))); (try (have i_cd := Imp.go cd (by omega))); (try (have i_tx := Imp.go tx (by omega))); omega))) ?_
  refine va_getN (D := D) (ci := 0) (v := .int (V 42 b)) (fs := (xfBook ad V b)) (C := RX0) (T := TX0) (N := 13) hx hb hg inX0 hown hK hP (38 + b) (xgBook hb2) rfl 12 (by decide) (hnw.use 630 n630 rfl) (fun _ h9 => h9) rfl dX1_readMember_4 ?_
  have r3 : 0 ≤ ((V 42 b)).toInt ∧ ((V 42 b)).toInt ≤ 8200 := hMV 42 b
  refine lv_istore_n (lv' := [(1, .int (V 42 b)), (0, .ref (ad 1))]) hx hb dX1_readMember_7 rfl hl (by decide) rfl (fun ls hl => ?_)
  refine lv_aload_n hx hb dX1_readMember_8 rfl (lv_at hl 1 rfl) ?_
  refine va_get (D := D) (ci := 1) (v := .ref (ad 6)) (fs := (xfReader ad V L Z)) (C := RX1) (T := TX1) (N := 9) hx hb hg inX1 hown hK hP 1 xgReader rfl 0 (by decide) (hg _ w304) (fun _ h9 => h9) rfl dX1_readMember_9 ?_
  refine va_getN (D := D) (ci := 9) (v := .int (V 6 9)) (fs := (xfTape ad V L Z)) (C := RX9) (T := TX9) (N := 12) hx hb hg inX9 hown hK hP 6 xgTape rfl 9 (by decide) (hnw.use 262 n262 rfl) (fun _ h9 => h9) rfl dX1_readMember_12 ?_
  by_cases q4 : (V 6 9) = 125
  · refine g_top (v := 125) q4 ?_
    have fq4 : ((V 6 9)).toInt = 125 := b_eq rfl (by decide) q4
    refine lv_lookup (x := 125) (off := 49) (tgt := 64) hx hb dX1_readMember_15 (by decide) (by decide) (by decide) ?_
    refine lv_aload_n hx hb dX1_readMember_64 rfl (lv_at hl 1 rfl) ?_
    refine lv_null hx hb dX1_readMember_65 ?_
    refine va_put (D := D) (ci := 1) (v := .null) (ty := tyX1 2) (fs := (xfReader ad V L Z)) (C := RX1) (T := TX1) (N := 9) hx hb hg inX1 tyX1 tyX1_ok nmX1 hown hK hP hD hS 1 xgReader rfl 2 (by decide) (hg _ w306) (fun _ h9 => h9) rfl (tyX1_ok 2 (by decide)) rfl rfl (Nat.le_of_ble_eq_true rfl) dX1_readMember_66 (fun H locs hP hD hS => ?_)
    obtain ⟨V5, hV5⟩ : ∃ z, z = up2 V 1 2 (-1) := ⟨_, rfl⟩
    have ew6 : (xw ad kk V L Z).set 1 ((ad 1), .inr (1, (xfReader ad V L Z).set 2 (.null))) = xw ad kk V5 L Z := by rw [hV5]; exact xr_owner_n
    have hP : va_P D vwCl (xw ad kk V5 L Z) H := by rw [← ew6]; exact hP
    have hD : va_D A (xw ad kk V5 L Z) := by rw [← ew6]; exact hD
    have hMV5 : rgd bX V5 := hMV.put hV5 (by decide)
    have agV5 : agr [(1, 2), (1, 3), (1, 4), (1, 6), (1, 8), (6, 8), (6, 9), (6, 10)] [42, 43, 44, 48, 49, 56, 57, 58, 59, 60, 61] V V5 := agV.up hV5 rfl
    have fwV5 : frX (xR b) V V5 := frX.up fwV hV5 (Or.inl (by decide))
    refine lv_aload_n hx hb dX1_readMember_69 rfl (lv_at hl 1 rfl) ?_
    refine va_get (D := D) (ci := 1) (v := .ref (ad 6)) (fs := (xfReader ad V5 L Z)) (C := RX1) (T := TX1) (N := 9) hx hb hg inX1 hown hK hP 1 xgReader rfl 0 (by decide) (hg _ w304) (fun _ h9 => h9) rfl dX1_readMember_70 ?_
    refine gA_void (gA_runV (As := []) (rest := []) (ci := 9) (q0 := 6) hx hb hml hown hg hP hD hK hS hA hnw hgk (x_next l D ks H.size ad kk V5 L Z  hMV5 ) w871 w852 w853 w157 w854 rfl xgTape hdV_yX9_next ⟨Nat.le_of_ble_eq_true rfl, Nat.le_of_ble_eq_true rfl⟩ rfl hl.1 rfl (Nat.le_of_ble_eq_true rfl) dX1_readMember_73 ⟨Nat.le_of_ble_eq_true rfl, Nat.le_of_ble_eq_true rfl⟩) hP hD hK hS hA (fun u8 H locs w9 hP hD hK hS => ?_)
    obtain ⟨V10, L11⟩ := u8
    obtain ⟨hMV10, ajV10, axL11⟩ := w9
    have alL11 : agL [6, 44] L L11 := agL.tr alL axL11 (by decide)
    have hP : va_P D vwCl (xw ad kk V10 L11 Z) H := hP
    have hD : va_D A (xw ad kk V10 L11 Z) := hD
    have hMV10 : rgd bX V10 := hMV10
    have ajV10 : agr [(6, 8), (6, 9), (6, 10)] [] V5 V10 := ajV10
    have agV10 : agr [(1, 2), (1, 3), (1, 4), (1, 6), (1, 8), (6, 8), (6, 9), (6, 10)] [42, 43, 44, 48, 49, 56, 57, 58, 59, 60, 61] V V10 := agV5.tr ajV10 (by decide) (by decide)
    have fwV10 : frX (xR b) V V10 := frX.tr fwV5 (frX.ag ajV10 (by decide) (by decide))
    refine lv_iconst (v := 1) hx hb dX1_readMember_76 (by decide) ?_
    have pq12 : (V10 1 2).toInt = (-1) := (congrArg Int32.toInt ((ajV10 1 2 rfl).trans (up2_s hV5))).trans (by decide)
    have px13 : px V V10 b := px.tr (px.rf : px V V b) (px.ag (show agr [(1, 2), (6, 8), (6, 9), (6, 10)] [] V V10 from (agr.tr (agr.up agr.rf hV5 rfl) ajV10 (by decide) (by decide))) (fun _ => rfl) (fun _ => rfl) (fun _ => rfl))
    have tx14 : TX V10 b := TX.ag tx (show agr [(1, 2), (6, 8), (6, 9), (6, 10)] [] V V10 from (agr.tr (agr.up agr.rf hV5 rfl) ajV10 (by decide) (by decide))) px13 (fun _ => rfl) (fun _ => rfl) (fun _ => rfl) (fun _ => rfl) (fun _ => rfl) (fun _ => rfl)
    have cd15 : CD V10 b := ⟨CB.ag cd.1 (show agr [(1, 2), (6, 8), (6, 9), (6, 10)] [] V V10 from (agr.tr (agr.up agr.rf hV5 rfl) ajV10 (by decide) (by decide))) (fun _ => rfl) (fun _ => rfl), CO.ag cd.2 (show agr [(1, 2), (6, 8), (6, 9), (6, 10)] [] V V10 from (agr.tr (agr.up agr.rf hV5 rfl) ajV10 (by decide) (by decide))) (fun _ => rfl) (fun _ => rfl)⟩
    have px16 : px V V10 b := px.tr (px.rf : px V V b) (px.ag (show agr [(1, 2), (6, 8), (6, 9), (6, 10)] [] V V10 from (agr.tr (agr.up agr.rf hV5 rfl) ajV10 (by decide) (by decide))) (fun _ => rfl) (fun _ => rfl) (fun _ => rfl))
    exact W.zret (v := 1) hx hb hr rfl (fun t ht hW => ⟨⟨1, (V10, L11), rfl, ⟨hMV10, agV10, alL11, fwV10, (by decide), tx14, (show (V10 1 2).toInt = (V 1 2).toInt ∨ (V10 1 2).toInt = -1 from by first | omega | ((try (have i_tx := Imp.go tx (by omega))); (try (have i_cd := Imp.go cd (by omega))); (try (have i_cd := Imp.go cd (by omega))); (try (have i_tx := Imp.go tx (by omega))); omega)), cd15, px16⟩, by rw [ht]; exact hP, va_K.moved hW.alike hK, hD⟩, hS.F ht⟩) hS.2.2 dX1_readMember_77
  by_cases q17 : (V 6 9) = 137
  · refine g_top (v := 137) q17 ?_
    have fq17 : ((V 6 9)).toInt = 137 := b_eq rfl (by decide) q17
    refine lv_lookup (x := 137) (off := 63) (tgt := 78) hx hb dX1_readMember_15 (by decide) (by decide) (by decide) ?_
    refine lv_aload_n hx hb dX1_readMember_78 rfl (lv_at hl 1 rfl) ?_
    refine gA_int (gA_runV (As := []) (rest := []) (ci := 1) (q0 := 1) hx hb hml hown hg hP hD hK hS hA hnw hgk (x_readNeed l D ks H.size ad kk V L Z (b) (go) hMV (show b < 2 from by first | omega | ((try (have i_tx := Imp.go tx (by omega))); (try (have i_cd := Imp.go cd (by omega))); (try (have i_cd := Imp.go cd (by omega))); (try (have i_tx := Imp.go tx (by omega))); omega)) (show (V 1 1).toInt = (b : Int) from by first | omega | ((try (have i_tx := Imp.go tx (by omega))); (try (have i_cd := Imp.go cd (by omega))); (try (have i_cd := Imp.go cd (by omega))); (try (have i_tx := Imp.go tx (by omega))); omega)) (show (V 1 2).toInt = (go : Int) from by first | omega | ((try (have i_tx := Imp.go tx (by omega))); (try (have i_cd := Imp.go cd (by omega))); (try (have i_cd := Imp.go cd (by omega))); (try (have i_tx := Imp.go tx (by omega))); omega)) (show go < 48 from by first | omega | ((try (have i_tx := Imp.go tx (by omega))); (try (have i_cd := Imp.go cd (by omega))); (try (have i_cd := Imp.go cd (by omega))); (try (have i_tx := Imp.go tx (by omega))); omega)) (show 24 * b ≤ go from by first | omega | ((try (have i_tx := Imp.go tx (by omega))); (try (have i_cd := Imp.go cd (by omega))); (try (have i_cd := Imp.go cd (by omega))); (try (have i_tx := Imp.go tx (by omega))); omega)) (show go < 24 * b + 24 from by first | omega | ((try (have i_tx := Imp.go tx (by omega))); (try (have i_cd := Imp.go cd (by omega))); (try (have i_cd := Imp.go cd (by omega))); (try (have i_tx := Imp.go tx (by omega))); omega)) cd tx) w1007 w1009 w32 w162 w1010 rfl xgReader hdV_yX1_readNeed ⟨Nat.le_of_ble_eq_true rfl, Nat.le_of_ble_eq_true rfl⟩ rfl hl.1 rfl (Nat.le_of_ble_eq_true rfl) dX1_readMember_79 ⟨Nat.le_of_ble_eq_true rfl, Nat.le_of_ble_eq_true rfl⟩) hP hD hK hS hA (fun z18 u19 H locs w20 hP hD hK hS => ?_)
    obtain ⟨V24, L25⟩ := u19
    obtain ⟨hMV24, ajV24, axL25, fyV24, rgz18, t21, t22, t23⟩ := w20
    have alL25 : agL [6, 44] L L25 := agL.tr alL axL25 (by decide)
    have hP : va_P D vwCl (xw ad kk V24 L25 Z) H := hP
    have hD : va_D A (xw ad kk V24 L25 Z) := hD
    have hMV24 : rgd bX V24 := hMV24
    have ajV24 : agr [(1, 3), (1, 6), (6, 8), (6, 9), (6, 10)] [43, 44, 49, 58, 59, 60] V V24 := ajV24
    have agV24 : agr [(1, 2), (1, 3), (1, 4), (1, 6), (1, 8), (6, 8), (6, 9), (6, 10)] [42, 43, 44, 48, 49, 56, 57, 58, 59, 60, 61] V V24 := agV.tr ajV24 (by decide) (by decide)
    have fwV24 : frX (xR b) V V24 := frX.tr fwV (fyV24)
    have rgz18 : 0 ≤ z18.toInt ∧ z18.toInt ≤ 1 := rgz18
    have t21 : TX V24 b := t21
    have t22 : CD V24 b := t22
    have t23 : px V V24 b := t23
    have pq26 : (V24 1 2).toInt = ((V 1 2)).toInt := congrArg Int32.toInt (ajV24 1 2 rfl)
    have px27 : px V V24 b := px.tr (px.rf : px V V b) t23
    exact W.zret (v := z18) hx hb hr (nb_ok (by omega)) (fun t ht hW => ⟨⟨z18, (V24, L25), rfl, ⟨hMV24, agV24, alL25, fwV24, (show 0 ≤ z18.toInt ∧ z18.toInt ≤ 1 from by first | omega | ((try (have i_tx := Imp.go tx (by omega))); (try (have i_cd := Imp.go cd (by omega))); (try (have i_cd := Imp.go cd (by omega))); (try (have i_tx := Imp.go tx (by omega))); omega)), t21, (show (V24 1 2).toInt = (V 1 2).toInt ∨ (V24 1 2).toInt = -1 from by first | omega | ((try (have i_tx := Imp.go tx (by omega))); (try (have i_cd := Imp.go cd (by omega))); (try (have i_cd := Imp.go cd (by omega))); (try (have i_tx := Imp.go tx (by omega))); omega)), t22, px27⟩, by rw [ht]; exact hP, va_K.moved hW.alike hK, hD⟩, hS.F ht⟩) hS.2.2 dX1_readMember_82
  by_cases q28 : (V 6 9) = 140
  · refine g_top (v := 140) q28 ?_
    have fq28 : ((V 6 9)).toInt = 140 := b_eq rfl (by decide) q28
    refine lv_lookup (x := 140) (off := 68) (tgt := 83) hx hb dX1_readMember_15 (by decide) (by decide) (by decide) ?_
    refine lv_aload_n hx hb dX1_readMember_83 rfl (lv_at hl 1 rfl) ?_
    refine va_get (D := D) (ci := 1) (v := rfN ad 72 (V 1 2)) (fs := (xfReader ad V L Z)) (C := RX1) (T := TX1) (N := 9) hx hb hg inX1 hown hK hP 1 xgReader rfl 2 (by decide) (hg _ w306) (fun _ h9 => h9) rfl dX1_readMember_84 ?_
    refine g_topv (v := .ref (ad (72 + go))) (rfN_r (by first | omega | ((try (have i_tx := Imp.go tx (by omega))); (try (have i_cd := Imp.go cd (by omega))); (try (have i_cd := Imp.go cd (by omega))); (try (have i_tx := Imp.go tx (by omega))); omega))) ?_
    refine va_getN (D := D) (ci := 3) (v := .int (V 56 go)) (fs := (xfComp ad V go)) (C := RX3) (T := TX3) (N := 13) hx hb hg inX3 hown hK hP (72 + go) (xgComp hgo) rfl 11 (by decide) (hnw.use 538 n538 rfl) (fun _ h9 => h9) rfl dX1_readMember_87 ?_
    have r29 : (-1) ≤ ((V 56 go)).toInt ∧ ((V 56 go)).toInt ≤ 8200 := hMV 56 go
    refine lv_iconst (v := (-1)) hx hb dX1_readMember_90 (by decide) ?_
    refine lv_icmp_eq (tgt := 100) hx hb dX1_readMember_91 (by decide) (fun c30 => ?_) (fun c30 => ?_)
    · skip
      have f31 : ((V 56 go)).toInt = (-1) := b_eq rfl (by decide) c30
      refine lv_aload_n hx hb dX1_readMember_100 rfl (lv_at hl 1 rfl) ?_
      refine va_get (D := D) (ci := 1) (v := rfN ad 72 (V 1 2)) (fs := (xfReader ad V L Z)) (C := RX1) (T := TX1) (N := 9) hx hb hg inX1 hown hK hP 1 xgReader rfl 2 (by decide) (hg _ w306) (fun _ h9 => h9) rfl dX1_readMember_101 ?_
      refine g_topv (v := .ref (ad (72 + go))) (rfN_r (by first | omega | ((try (have i_tx := Imp.go tx (by omega))); (try (have i_cd := Imp.go cd (by omega))); (try (have i_cd := Imp.go cd (by omega))); (try (have i_tx := Imp.go tx (by omega))); omega))) ?_
      refine lv_iload_n hx hb dX1_readMember_104 rfl (lv_at hl 0 rfl) ?_
      refine va_putN (D := D) (ci := 3) (v := .int (V 42 b)) (ty := tyX3 11) (fs := (xfComp ad V go)) (C := RX3) (T := TX3) (N := 13) hx hb hg inX3 tyX3 tyX3_ok nmX3 hown hK hP hD hS (72 + go) (xgComp hgo) rfl 11 (by decide) (hnw.use 538 n538 rfl) (fun _ h9 => h9) rfl (tyX3_ok 11 (by decide)) rfl rfl (Nat.le_of_ble_eq_true rfl) dX1_readMember_105 (fun H locs hP hD hS => ?_)
      obtain ⟨V32, hV32⟩ : ∃ z, z = up2 V 56 go (V 42 b) := ⟨_, rfl⟩
      have ew33 : (xw ad kk V L Z).set (72 + go) ((ad (72 + go)), .inr (3, (xfComp ad V go).set 11 (.int (V 42 b)))) = xw ad kk V32 L Z := by rw [hV32]; exact xpComp_openedStart hgo
      have hP : va_P D vwCl (xw ad kk V32 L Z) H := by rw [← ew33]; exact hP
      have hD : va_D A (xw ad kk V32 L Z) := by rw [← ew33]; exact hD
      have hMV32 : rgd bX V32 := hMV.put hV32 (show (-1) ≤ ((V 42 b)).toInt ∧ ((V 42 b)).toInt ≤ 8200 from by first | omega | ((try (have i_tx := Imp.go tx (by omega))); (try (have i_cd := Imp.go cd (by omega))); (try (have i_cd := Imp.go cd (by omega))); (try (have i_tx := Imp.go tx (by omega))); omega))
      have agV32 : agr [(1, 2), (1, 3), (1, 4), (1, 6), (1, 8), (6, 8), (6, 9), (6, 10)] [42, 43, 44, 48, 49, 56, 57, 58, 59, 60, 61] V V32 := agV.up hV32 rfl
      have fwV32 : frX (xR b) V V32 := frX.up fwV hV32 (Or.inr ⟨(by show 24 * b ≤ go; first | omega | ((try (have i_tx := Imp.go tx (by omega))); (try (have i_cd := Imp.go cd (by omega))); (try (have i_cd := Imp.go cd (by omega))); (try (have i_tx := Imp.go tx (by omega))); omega)), (by show go < 24 * b + 24; first | omega | ((try (have i_tx := Imp.go tx (by omega))); (try (have i_cd := Imp.go cd (by omega))); (try (have i_cd := Imp.go cd (by omega))); (try (have i_tx := Imp.go tx (by omega))); omega))⟩)
      have cl34 : 0 ≤ (V 42 b).toInt ∧ (V 42 b).toInt ≤ 8200 := hMV 42 b
      have gs35 : gs V b (V 42 b).toInt := (CB.gs cd.1 (by omega)).up (px.rf : px V V b).1
      have tx36 : TX V32 b := TX.st tx hV32 (by decide) gs35
      refine lv_aload_n hx hb dX1_readMember_108 rfl (lv_at hl 1 rfl) ?_
      refine va_get (D := D) (ci := 1) (v := .ref (ad 6)) (fs := (xfReader ad V32 L Z)) (C := RX1) (T := TX1) (N := 9) hx hb hg inX1 hown hK hP 1 xgReader rfl 0 (by decide) (hg _ w304) (fun _ h9 => h9) rfl dX1_readMember_109 ?_
      refine gA_void (gA_runV (As := []) (rest := []) (ci := 9) (q0 := 6) hx hb hml hown hg hP hD hK hS hA hnw hgk (x_next l D ks H.size ad kk V32 L Z  hMV32 ) w871 w852 w853 w157 w854 rfl xgTape hdV_yX9_next ⟨Nat.le_of_ble_eq_true rfl, Nat.le_of_ble_eq_true rfl⟩ rfl hl.1 rfl (Nat.le_of_ble_eq_true rfl) dX1_readMember_112 ⟨Nat.le_of_ble_eq_true rfl, Nat.le_of_ble_eq_true rfl⟩) hP hD hK hS hA (fun u38 H locs w39 hP hD hK hS => ?_)
      obtain ⟨V40, L41⟩ := u38
      obtain ⟨hMV40, ajV40, axL41⟩ := w39
      have alL41 : agL [6, 44] L L41 := agL.tr alL axL41 (by decide)
      have hP : va_P D vwCl (xw ad kk V40 L41 Z) H := hP
      have hD : va_D A (xw ad kk V40 L41 Z) := hD
      have hMV40 : rgd bX V40 := hMV40
      have ajV40 : agr [(6, 8), (6, 9), (6, 10)] [] V32 V40 := ajV40
      have agV40 : agr [(1, 2), (1, 3), (1, 4), (1, 6), (1, 8), (6, 8), (6, 9), (6, 10)] [42, 43, 44, 48, 49, 56, 57, 58, 59, 60, 61] V V40 := agV32.tr ajV40 (by decide) (by decide)
      have fwV40 : frX (xR b) V V40 := frX.tr fwV32 (frX.ag ajV40 (by decide) (by decide))
      refine lv_aload_n hx hb dX1_readMember_115 rfl (lv_at hl 1 rfl) ?_
      refine lv_iconst (v := 0) hx hb dX1_readMember_116 (by decide) ?_
      have r42 : Int32.toInt 0 = 0 := by decide
      have pq43 : (V40 1 1).toInt = ((V 1 1)).toInt := congrArg Int32.toInt ((ajV40 1 1 rfl).trans (up2_o hV32 (by decide)))
      have cd44 : CD V40 b := ⟨CB.ag cd.1 (show agr [(6, 8), (6, 9), (6, 10)] [56] V V40 from (agr.tr (agr.up agr.rf hV32 rfl) ajV40 (by decide) (by decide))) (fun _ => rfl) (fun _ => rfl), CO.ag cd.2 (show agr [(6, 8), (6, 9), (6, 10)] [56] V V40 from (agr.tr (agr.up agr.rf hV32 rfl) ajV40 (by decide) (by decide))) (fun _ => rfl) (fun _ => rfl)⟩
      have px45 : px V32 V40 b := px.tr (px.rf : px V32 V32 b) (px.ag (show agr [(6, 8), (6, 9), (6, 10)] [] V32 V40 from (agr.tr agr.rf ajV40 (by decide) (by decide))) (fun _ => rfl) (fun _ => rfl) (fun _ => rfl))
      have tx46 : TX V40 b := TX.ag tx36 (show agr [(6, 8), (6, 9), (6, 10)] [] V32 V40 from (agr.tr agr.rf ajV40 (by decide) (by decide))) px45 (fun _ => rfl) (fun _ => rfl) (fun _ => rfl) (fun _ => rfl) (fun _ => rfl) (fun _ => rfl)
      refine gA_int (gA_runV (As := [.int 0]) (rest := []) (ci := 1) (q0 := 1) hx hb hml hown hg hP hD hK hS hA hnw hgk (x_readE l D ks H.size ad kk V40 L41 Z 0 (b) hMV40 (by decide) (show b < 2 from by first | omega | ((try (have i_tx := Imp.go tx (by omega))); (try (have i_cd := Imp.go cd (by omega))); (try (have i_cd := Imp.go cd (by omega))); (try (have i_tx := Imp.go tx (by omega))); omega)) (show (V40 1 1).toInt = (b : Int) from by first | omega | ((try (have i_tx := Imp.go tx (by omega))); (try (have i_cd := Imp.go cd (by omega))); (try (have i_cd := Imp.go cd (by omega))); (try (have i_tx := Imp.go tx (by omega))); omega)) cd44 tx46) w947 w949 w20 w162 w950 rfl xgReader hdV_yX1_readE ⟨Nat.le_of_ble_eq_true rfl, Nat.le_of_ble_eq_true rfl⟩ rfl hl.1 rfl (Nat.le_of_ble_eq_true rfl) dX1_readMember_117 ⟨Nat.le_of_ble_eq_true rfl, Nat.le_of_ble_eq_true rfl⟩) hP hD hK hS hA (fun z47 u48 H locs w49 hP hD hK hS => ?_)
      obtain ⟨V53, L54⟩ := u48
      obtain ⟨hMV53, ajV53, axL54, fyV53, rgz47, t50, t51, t52⟩ := w49
      have alL54 : agL [6, 44] L L54 := agL.tr alL41 axL54 (by decide)
      have hP : va_P D vwCl (xw ad kk V53 L54 Z) H := hP
      have hD : va_D A (xw ad kk V53 L54 Z) := hD
      have hMV53 : rgd bX V53 := hMV53
      have ajV53 : agr [(1, 3), (1, 4), (1, 6), (1, 8), (6, 8), (6, 9), (6, 10)] [42, 43, 44, 48] V40 V53 := ajV53
      have agV53 : agr [(1, 2), (1, 3), (1, 4), (1, 6), (1, 8), (6, 8), (6, 9), (6, 10)] [42, 43, 44, 48, 49, 56, 57, 58, 59, 60, 61] V V53 := agV40.tr ajV53 (by decide) (by decide)
      have fwV53 : frX (xR b) V V53 := frX.tr fwV40 (fyV53)
      have rgz47 : 0 ≤ z47.toInt ∧ z47.toInt ≤ 1 := rgz47
      have t50 : TX V53 b := t50
      have t51 : CD V53 b := t51
      have t52 : px V40 V53 b := t52
      have pq55 : (V53 1 2).toInt = ((V 1 2)).toInt := congrArg Int32.toInt ((ajV53 1 2 rfl).trans ((ajV40 1 2 rfl).trans (up2_o hV32 (by decide))))
      have px56 : px V V40 b := px.tr (px.rf : px V V b) (px.ag (show agr [(6, 8), (6, 9), (6, 10)] [56] V V40 from (agr.tr (agr.up agr.rf hV32 rfl) ajV40 (by decide) (by decide))) (fun _ => rfl) (fun _ => rfl) (fun _ => rfl))
      have px57 : px V V53 b := px.tr px56 t52
      exact W.zret (v := z47) hx hb hr (nb_ok (by omega)) (fun t ht hW => ⟨⟨z47, (V53, L54), rfl, ⟨hMV53, agV53, alL54, fwV53, (show 0 ≤ z47.toInt ∧ z47.toInt ≤ 1 from by first | omega | ((try (have i_tx := Imp.go tx (by omega))); (try (have i_cd := Imp.go cd (by omega))); (try (have i_cd := Imp.go cd (by omega))); (try (have i_tx := Imp.go tx (by omega))); omega)), t50, (show (V53 1 2).toInt = (V 1 2).toInt ∨ (V53 1 2).toInt = -1 from by first | omega | ((try (have i_tx := Imp.go tx (by omega))); (try (have i_cd := Imp.go cd (by omega))); (try (have i_cd := Imp.go cd (by omega))); (try (have i_tx := Imp.go tx (by omega))); omega)), t51, px57⟩, by rw [ht]; exact hP, va_K.moved hW.alike hK, hD⟩, hS.F ht⟩) hS.2.2 dX1_readMember_120
    · skip
      have f58 : ((V 56 go)).toInt ≠ (-1) := b_neq rfl (by decide) c30
      refine lv_aload_n hx hb dX1_readMember_94 rfl (lv_at hl 1 rfl) ?_
      refine lv_iconst (v := 1) hx hb dX1_readMember_95 (by decide) ?_
      have r59 : Int32.toInt 1 = 1 := by decide
      refine gA_int (gA_runV (As := [.int 1]) (rest := []) (ci := 1) (q0 := 1) hx hb hml hown hg hP hD hK hS hA hnw hgk (x_wrong l D ks H.size ad kk V L Z 1 hMV ) w867 w869 w6 w162 w870 rfl xgReader hdV_yX1_wrong ⟨Nat.le_of_ble_eq_true rfl, Nat.le_of_ble_eq_true rfl⟩ rfl hl.1 rfl (Nat.le_of_ble_eq_true rfl) dX1_readMember_96 ⟨Nat.le_of_ble_eq_true rfl, Nat.le_of_ble_eq_true rfl⟩) hP hD hK hS hA (fun z60 u61 H locs w62 hP hD hK hS => ?_)
      obtain ⟨V63, L64⟩ := u61
      obtain ⟨hMV63, ajV63, axL64, rgz60⟩ := w62
      have axL64 : L = L64 := Eq.symm axL64
      subst axL64
      have hP : va_P D vwCl (xw ad kk V63 L Z) H := hP
      have hD : va_D A (xw ad kk V63 L Z) := hD
      have hMV63 : rgd bX V63 := hMV63
      have ajV63 : agr [(1, 3)] [] V V63 := ajV63
      have agV63 : agr [(1, 2), (1, 3), (1, 4), (1, 6), (1, 8), (6, 8), (6, 9), (6, 10)] [42, 43, 44, 48, 49, 56, 57, 58, 59, 60, 61] V V63 := agV.tr ajV63 (by decide) (by decide)
      have fwV63 : frX (xR b) V V63 := frX.tr fwV (frX.ag ajV63 (by decide) (by decide))
      have rgz60 : 0 ≤ z60.toInt ∧ z60.toInt ≤ 0 := rgz60
      have pq65 : (V63 1 2).toInt = ((V 1 2)).toInt := congrArg Int32.toInt (ajV63 1 2 rfl)
      have px66 : px V V63 b := px.tr (px.rf : px V V b) (px.ag (show agr [(1, 3)] [] V V63 from (agr.tr agr.rf ajV63 (by decide) (by decide))) (fun _ => rfl) (fun _ => rfl) (fun _ => rfl))
      have tx67 : TX V63 b := TX.ag tx (show agr [(1, 3)] [] V V63 from (agr.tr agr.rf ajV63 (by decide) (by decide))) px66 (fun _ => rfl) (fun _ => rfl) (fun _ => rfl) (fun _ => rfl) (fun _ => rfl) (fun _ => rfl)
      have cd68 : CD V63 b := ⟨CB.ag cd.1 (show agr [(1, 3)] [] V V63 from (agr.tr agr.rf ajV63 (by decide) (by decide))) (fun _ => rfl) (fun _ => rfl), CO.ag cd.2 (show agr [(1, 3)] [] V V63 from (agr.tr agr.rf ajV63 (by decide) (by decide))) (fun _ => rfl) (fun _ => rfl)⟩
      have px69 : px V V63 b := px.tr (px.rf : px V V b) (px.ag (show agr [(1, 3)] [] V V63 from (agr.tr agr.rf ajV63 (by decide) (by decide))) (fun _ => rfl) (fun _ => rfl) (fun _ => rfl))
      exact W.zret (v := z60) hx hb hr (nb_ok (by omega)) (fun t ht hW => ⟨⟨z60, (V63, L), rfl, ⟨hMV63, agV63, alL, fwV63, (show 0 ≤ z60.toInt ∧ z60.toInt ≤ 1 from by first | omega | ((try (have i_tx := Imp.go tx (by omega))); (try (have i_cd := Imp.go cd (by omega))); (try (have i_cd := Imp.go cd (by omega))); (try (have i_tx := Imp.go tx (by omega))); omega)), tx67, (show (V63 1 2).toInt = (V 1 2).toInt ∨ (V63 1 2).toInt = -1 from by first | omega | ((try (have i_tx := Imp.go tx (by omega))); (try (have i_cd := Imp.go cd (by omega))); (try (have i_cd := Imp.go cd (by omega))); (try (have i_tx := Imp.go tx (by omega))); omega)), cd68, px69⟩, by rw [ht]; exact hP, va_K.moved hW.alike hK, hD⟩, hS.F ht⟩) hS.2.2 dX1_readMember_99
  by_cases q70 : (V 6 9) = 141
  · refine g_top (v := 141) q70 ?_
    have fq70 : ((V 6 9)).toInt = 141 := b_eq rfl (by decide) q70
    refine lv_lookup (x := 141) (off := 106) (tgt := 121) hx hb dX1_readMember_15 (by decide) (by decide) (by decide) ?_
    refine lv_aload_n hx hb dX1_readMember_121 rfl (lv_at hl 1 rfl) ?_
    refine va_get (D := D) (ci := 1) (v := rfN ad 72 (V 1 2)) (fs := (xfReader ad V L Z)) (C := RX1) (T := TX1) (N := 9) hx hb hg inX1 hown hK hP 1 xgReader rfl 2 (by decide) (hg _ w306) (fun _ h9 => h9) rfl dX1_readMember_122 ?_
    refine g_topv (v := .ref (ad (72 + go))) (rfN_r (by first | omega | ((try (have i_tx := Imp.go tx (by omega))); (try (have i_cd := Imp.go cd (by omega))); (try (have i_cd := Imp.go cd (by omega))); (try (have i_tx := Imp.go tx (by omega))); omega))) ?_
    refine va_getN (D := D) (ci := 3) (v := .int (V 57 go)) (fs := (xfComp ad V go)) (C := RX3) (T := TX3) (N := 13) hx hb hg inX3 hown hK hP (72 + go) (xgComp hgo) rfl 12 (by decide) (hnw.use 541 n541 rfl) (fun _ h9 => h9) rfl dX1_readMember_125 ?_
    have r71 : (-1) ≤ ((V 57 go)).toInt ∧ ((V 57 go)).toInt ≤ 8200 := hMV 57 go
    refine lv_iconst (v := (-1)) hx hb dX1_readMember_128 (by decide) ?_
    refine lv_icmp_eq (tgt := 138) hx hb dX1_readMember_129 (by decide) (fun c72 => ?_) (fun c72 => ?_)
    · skip
      have f73 : ((V 57 go)).toInt = (-1) := b_eq rfl (by decide) c72
      refine lv_aload_n hx hb dX1_readMember_138 rfl (lv_at hl 1 rfl) ?_
      refine va_get (D := D) (ci := 1) (v := rfN ad 72 (V 1 2)) (fs := (xfReader ad V L Z)) (C := RX1) (T := TX1) (N := 9) hx hb hg inX1 hown hK hP 1 xgReader rfl 2 (by decide) (hg _ w306) (fun _ h9 => h9) rfl dX1_readMember_139 ?_
      refine g_topv (v := .ref (ad (72 + go))) (rfN_r (by first | omega | ((try (have i_tx := Imp.go tx (by omega))); (try (have i_cd := Imp.go cd (by omega))); (try (have i_cd := Imp.go cd (by omega))); (try (have i_tx := Imp.go tx (by omega))); omega))) ?_
      refine lv_iload_n hx hb dX1_readMember_142 rfl (lv_at hl 0 rfl) ?_
      refine va_putN (D := D) (ci := 3) (v := .int (V 42 b)) (ty := tyX3 12) (fs := (xfComp ad V go)) (C := RX3) (T := TX3) (N := 13) hx hb hg inX3 tyX3 tyX3_ok nmX3 hown hK hP hD hS (72 + go) (xgComp hgo) rfl 12 (by decide) (hnw.use 541 n541 rfl) (fun _ h9 => h9) rfl (tyX3_ok 12 (by decide)) rfl rfl (Nat.le_of_ble_eq_true rfl) dX1_readMember_143 (fun H locs hP hD hS => ?_)
      obtain ⟨V74, hV74⟩ : ∃ z, z = up2 V 57 go (V 42 b) := ⟨_, rfl⟩
      have ew75 : (xw ad kk V L Z).set (72 + go) ((ad (72 + go)), .inr (3, (xfComp ad V go).set 12 (.int (V 42 b)))) = xw ad kk V74 L Z := by rw [hV74]; exact xpComp_closedStart hgo
      have hP : va_P D vwCl (xw ad kk V74 L Z) H := by rw [← ew75]; exact hP
      have hD : va_D A (xw ad kk V74 L Z) := by rw [← ew75]; exact hD
      have hMV74 : rgd bX V74 := hMV.put hV74 (show (-1) ≤ ((V 42 b)).toInt ∧ ((V 42 b)).toInt ≤ 8200 from by first | omega | ((try (have i_tx := Imp.go tx (by omega))); (try (have i_cd := Imp.go cd (by omega))); (try (have i_cd := Imp.go cd (by omega))); (try (have i_tx := Imp.go tx (by omega))); omega))
      have agV74 : agr [(1, 2), (1, 3), (1, 4), (1, 6), (1, 8), (6, 8), (6, 9), (6, 10)] [42, 43, 44, 48, 49, 56, 57, 58, 59, 60, 61] V V74 := agV.up hV74 rfl
      have fwV74 : frX (xR b) V V74 := frX.up fwV hV74 (Or.inr ⟨(by show 24 * b ≤ go; first | omega | ((try (have i_tx := Imp.go tx (by omega))); (try (have i_cd := Imp.go cd (by omega))); (try (have i_cd := Imp.go cd (by omega))); (try (have i_tx := Imp.go tx (by omega))); omega)), (by show go < 24 * b + 24; first | omega | ((try (have i_tx := Imp.go tx (by omega))); (try (have i_cd := Imp.go cd (by omega))); (try (have i_cd := Imp.go cd (by omega))); (try (have i_tx := Imp.go tx (by omega))); omega))⟩)
      have cl76 : 0 ≤ (V 42 b).toInt ∧ (V 42 b).toInt ≤ 8200 := hMV 42 b
      have gs77 : gs V b (V 42 b).toInt := (CB.gs cd.1 (by omega)).up (px.rf : px V V b).1
      have tx78 : TX V74 b := TX.st tx hV74 (by decide) gs77
      refine lv_aload_n hx hb dX1_readMember_146 rfl (lv_at hl 1 rfl) ?_
      refine va_get (D := D) (ci := 1) (v := .ref (ad 6)) (fs := (xfReader ad V74 L Z)) (C := RX1) (T := TX1) (N := 9) hx hb hg inX1 hown hK hP 1 xgReader rfl 0 (by decide) (hg _ w304) (fun _ h9 => h9) rfl dX1_readMember_147 ?_
      refine gA_void (gA_runV (As := []) (rest := []) (ci := 9) (q0 := 6) hx hb hml hown hg hP hD hK hS hA hnw hgk (x_next l D ks H.size ad kk V74 L Z  hMV74 ) w871 w852 w853 w157 w854 rfl xgTape hdV_yX9_next ⟨Nat.le_of_ble_eq_true rfl, Nat.le_of_ble_eq_true rfl⟩ rfl hl.1 rfl (Nat.le_of_ble_eq_true rfl) dX1_readMember_150 ⟨Nat.le_of_ble_eq_true rfl, Nat.le_of_ble_eq_true rfl⟩) hP hD hK hS hA (fun u80 H locs w81 hP hD hK hS => ?_)
      obtain ⟨V82, L83⟩ := u80
      obtain ⟨hMV82, ajV82, axL83⟩ := w81
      have alL83 : agL [6, 44] L L83 := agL.tr alL axL83 (by decide)
      have hP : va_P D vwCl (xw ad kk V82 L83 Z) H := hP
      have hD : va_D A (xw ad kk V82 L83 Z) := hD
      have hMV82 : rgd bX V82 := hMV82
      have ajV82 : agr [(6, 8), (6, 9), (6, 10)] [] V74 V82 := ajV82
      have agV82 : agr [(1, 2), (1, 3), (1, 4), (1, 6), (1, 8), (6, 8), (6, 9), (6, 10)] [42, 43, 44, 48, 49, 56, 57, 58, 59, 60, 61] V V82 := agV74.tr ajV82 (by decide) (by decide)
      have fwV82 : frX (xR b) V V82 := frX.tr fwV74 (frX.ag ajV82 (by decide) (by decide))
      refine lv_aload_n hx hb dX1_readMember_153 rfl (lv_at hl 1 rfl) ?_
      refine lv_iconst (v := 0) hx hb dX1_readMember_154 (by decide) ?_
      have r84 : Int32.toInt 0 = 0 := by decide
      have pq85 : (V82 1 1).toInt = ((V 1 1)).toInt := congrArg Int32.toInt ((ajV82 1 1 rfl).trans (up2_o hV74 (by decide)))
      have cd86 : CD V82 b := ⟨CB.ag cd.1 (show agr [(6, 8), (6, 9), (6, 10)] [57] V V82 from (agr.tr (agr.up agr.rf hV74 rfl) ajV82 (by decide) (by decide))) (fun _ => rfl) (fun _ => rfl), CO.ag cd.2 (show agr [(6, 8), (6, 9), (6, 10)] [57] V V82 from (agr.tr (agr.up agr.rf hV74 rfl) ajV82 (by decide) (by decide))) (fun _ => rfl) (fun _ => rfl)⟩
      have px87 : px V74 V82 b := px.tr (px.rf : px V74 V74 b) (px.ag (show agr [(6, 8), (6, 9), (6, 10)] [] V74 V82 from (agr.tr agr.rf ajV82 (by decide) (by decide))) (fun _ => rfl) (fun _ => rfl) (fun _ => rfl))
      have tx88 : TX V82 b := TX.ag tx78 (show agr [(6, 8), (6, 9), (6, 10)] [] V74 V82 from (agr.tr agr.rf ajV82 (by decide) (by decide))) px87 (fun _ => rfl) (fun _ => rfl) (fun _ => rfl) (fun _ => rfl) (fun _ => rfl) (fun _ => rfl)
      refine gA_int (gA_runV (As := [.int 0]) (rest := []) (ci := 1) (q0 := 1) hx hb hml hown hg hP hD hK hS hA hnw hgk (x_readE l D ks H.size ad kk V82 L83 Z 0 (b) hMV82 (by decide) (show b < 2 from by first | omega | ((try (have i_tx := Imp.go tx (by omega))); (try (have i_cd := Imp.go cd (by omega))); (try (have i_cd := Imp.go cd (by omega))); (try (have i_tx := Imp.go tx (by omega))); omega)) (show (V82 1 1).toInt = (b : Int) from by first | omega | ((try (have i_tx := Imp.go tx (by omega))); (try (have i_cd := Imp.go cd (by omega))); (try (have i_cd := Imp.go cd (by omega))); (try (have i_tx := Imp.go tx (by omega))); omega)) cd86 tx88) w947 w949 w20 w162 w950 rfl xgReader hdV_yX1_readE ⟨Nat.le_of_ble_eq_true rfl, Nat.le_of_ble_eq_true rfl⟩ rfl hl.1 rfl (Nat.le_of_ble_eq_true rfl) dX1_readMember_155 ⟨Nat.le_of_ble_eq_true rfl, Nat.le_of_ble_eq_true rfl⟩) hP hD hK hS hA (fun z89 u90 H locs w91 hP hD hK hS => ?_)
      obtain ⟨V95, L96⟩ := u90
      obtain ⟨hMV95, ajV95, axL96, fyV95, rgz89, t92, t93, t94⟩ := w91
      have alL96 : agL [6, 44] L L96 := agL.tr alL83 axL96 (by decide)
      have hP : va_P D vwCl (xw ad kk V95 L96 Z) H := hP
      have hD : va_D A (xw ad kk V95 L96 Z) := hD
      have hMV95 : rgd bX V95 := hMV95
      have ajV95 : agr [(1, 3), (1, 4), (1, 6), (1, 8), (6, 8), (6, 9), (6, 10)] [42, 43, 44, 48] V82 V95 := ajV95
      have agV95 : agr [(1, 2), (1, 3), (1, 4), (1, 6), (1, 8), (6, 8), (6, 9), (6, 10)] [42, 43, 44, 48, 49, 56, 57, 58, 59, 60, 61] V V95 := agV82.tr ajV95 (by decide) (by decide)
      have fwV95 : frX (xR b) V V95 := frX.tr fwV82 (fyV95)
      have rgz89 : 0 ≤ z89.toInt ∧ z89.toInt ≤ 1 := rgz89
      have t92 : TX V95 b := t92
      have t93 : CD V95 b := t93
      have t94 : px V82 V95 b := t94
      have pq97 : (V95 1 2).toInt = ((V 1 2)).toInt := congrArg Int32.toInt ((ajV95 1 2 rfl).trans ((ajV82 1 2 rfl).trans (up2_o hV74 (by decide))))
      have px98 : px V V82 b := px.tr (px.rf : px V V b) (px.ag (show agr [(6, 8), (6, 9), (6, 10)] [57] V V82 from (agr.tr (agr.up agr.rf hV74 rfl) ajV82 (by decide) (by decide))) (fun _ => rfl) (fun _ => rfl) (fun _ => rfl))
      have px99 : px V V95 b := px.tr px98 t94
      exact W.zret (v := z89) hx hb hr (nb_ok (by omega)) (fun t ht hW => ⟨⟨z89, (V95, L96), rfl, ⟨hMV95, agV95, alL96, fwV95, (show 0 ≤ z89.toInt ∧ z89.toInt ≤ 1 from by first | omega | ((try (have i_tx := Imp.go tx (by omega))); (try (have i_cd := Imp.go cd (by omega))); (try (have i_cd := Imp.go cd (by omega))); (try (have i_tx := Imp.go tx (by omega))); omega)), t92, (show (V95 1 2).toInt = (V 1 2).toInt ∨ (V95 1 2).toInt = -1 from by first | omega | ((try (have i_tx := Imp.go tx (by omega))); (try (have i_cd := Imp.go cd (by omega))); (try (have i_cd := Imp.go cd (by omega))); (try (have i_tx := Imp.go tx (by omega))); omega)), t93, px99⟩, by rw [ht]; exact hP, va_K.moved hW.alike hK, hD⟩, hS.F ht⟩) hS.2.2 dX1_readMember_158
    · skip
      have f100 : ((V 57 go)).toInt ≠ (-1) := b_neq rfl (by decide) c72
      refine lv_aload_n hx hb dX1_readMember_132 rfl (lv_at hl 1 rfl) ?_
      refine lv_iconst (v := 1) hx hb dX1_readMember_133 (by decide) ?_
      have r101 : Int32.toInt 1 = 1 := by decide
      refine gA_int (gA_runV (As := [.int 1]) (rest := []) (ci := 1) (q0 := 1) hx hb hml hown hg hP hD hK hS hA hnw hgk (x_wrong l D ks H.size ad kk V L Z 1 hMV ) w867 w869 w6 w162 w870 rfl xgReader hdV_yX1_wrong ⟨Nat.le_of_ble_eq_true rfl, Nat.le_of_ble_eq_true rfl⟩ rfl hl.1 rfl (Nat.le_of_ble_eq_true rfl) dX1_readMember_134 ⟨Nat.le_of_ble_eq_true rfl, Nat.le_of_ble_eq_true rfl⟩) hP hD hK hS hA (fun z102 u103 H locs w104 hP hD hK hS => ?_)
      obtain ⟨V105, L106⟩ := u103
      obtain ⟨hMV105, ajV105, axL106, rgz102⟩ := w104
      have axL106 : L = L106 := Eq.symm axL106
      subst axL106
      have hP : va_P D vwCl (xw ad kk V105 L Z) H := hP
      have hD : va_D A (xw ad kk V105 L Z) := hD
      have hMV105 : rgd bX V105 := hMV105
      have ajV105 : agr [(1, 3)] [] V V105 := ajV105
      have agV105 : agr [(1, 2), (1, 3), (1, 4), (1, 6), (1, 8), (6, 8), (6, 9), (6, 10)] [42, 43, 44, 48, 49, 56, 57, 58, 59, 60, 61] V V105 := agV.tr ajV105 (by decide) (by decide)
      have fwV105 : frX (xR b) V V105 := frX.tr fwV (frX.ag ajV105 (by decide) (by decide))
      have rgz102 : 0 ≤ z102.toInt ∧ z102.toInt ≤ 0 := rgz102
      have pq107 : (V105 1 2).toInt = ((V 1 2)).toInt := congrArg Int32.toInt (ajV105 1 2 rfl)
      have px108 : px V V105 b := px.tr (px.rf : px V V b) (px.ag (show agr [(1, 3)] [] V V105 from (agr.tr agr.rf ajV105 (by decide) (by decide))) (fun _ => rfl) (fun _ => rfl) (fun _ => rfl))
      have tx109 : TX V105 b := TX.ag tx (show agr [(1, 3)] [] V V105 from (agr.tr agr.rf ajV105 (by decide) (by decide))) px108 (fun _ => rfl) (fun _ => rfl) (fun _ => rfl) (fun _ => rfl) (fun _ => rfl) (fun _ => rfl)
      have cd110 : CD V105 b := ⟨CB.ag cd.1 (show agr [(1, 3)] [] V V105 from (agr.tr agr.rf ajV105 (by decide) (by decide))) (fun _ => rfl) (fun _ => rfl), CO.ag cd.2 (show agr [(1, 3)] [] V V105 from (agr.tr agr.rf ajV105 (by decide) (by decide))) (fun _ => rfl) (fun _ => rfl)⟩
      have px111 : px V V105 b := px.tr (px.rf : px V V b) (px.ag (show agr [(1, 3)] [] V V105 from (agr.tr agr.rf ajV105 (by decide) (by decide))) (fun _ => rfl) (fun _ => rfl) (fun _ => rfl))
      exact W.zret (v := z102) hx hb hr (nb_ok (by omega)) (fun t ht hW => ⟨⟨z102, (V105, L), rfl, ⟨hMV105, agV105, alL, fwV105, (show 0 ≤ z102.toInt ∧ z102.toInt ≤ 1 from by first | omega | ((try (have i_tx := Imp.go tx (by omega))); (try (have i_cd := Imp.go cd (by omega))); (try (have i_cd := Imp.go cd (by omega))); (try (have i_tx := Imp.go tx (by omega))); omega)), tx109, (show (V105 1 2).toInt = (V 1 2).toInt ∨ (V105 1 2).toInt = -1 from by first | omega | ((try (have i_tx := Imp.go tx (by omega))); (try (have i_cd := Imp.go cd (by omega))); (try (have i_cd := Imp.go cd (by omega))); (try (have i_tx := Imp.go tx (by omega))); omega)), cd110, px111⟩, by rw [ht]; exact hP, va_K.moved hW.alike hK, hD⟩, hS.F ht⟩) hS.2.2 dX1_readMember_137
  by_cases q112 : (V 6 9) = 142
  · refine g_top (v := 142) q112 ?_
    have fq112 : ((V 6 9)).toInt = 142 := b_eq rfl (by decide) q112
    refine lv_lookup (x := 142) (off := 144) (tgt := 159) hx hb dX1_readMember_15 (by decide) (by decide) (by decide) ?_
    refine lv_aload_n hx hb dX1_readMember_159 rfl (lv_at hl 1 rfl) ?_
    refine gA_int (gA_runV (As := []) (rest := []) (ci := 1) (q0 := 1) hx hb hml hown hg hP hD hK hS hA hnw hgk (x_readMethod l D ks H.size ad kk V L Z (b) (go) hMV (show b < 2 from by first | omega | ((try (have i_tx := Imp.go tx (by omega))); (try (have i_cd := Imp.go cd (by omega))); (try (have i_cd := Imp.go cd (by omega))); (try (have i_tx := Imp.go tx (by omega))); omega)) (show (V 1 1).toInt = (b : Int) from by first | omega | ((try (have i_tx := Imp.go tx (by omega))); (try (have i_cd := Imp.go cd (by omega))); (try (have i_cd := Imp.go cd (by omega))); (try (have i_tx := Imp.go tx (by omega))); omega)) (show (V 1 2).toInt = (go : Int) from by first | omega | ((try (have i_tx := Imp.go tx (by omega))); (try (have i_cd := Imp.go cd (by omega))); (try (have i_cd := Imp.go cd (by omega))); (try (have i_tx := Imp.go tx (by omega))); omega)) (show go < 48 from by first | omega | ((try (have i_tx := Imp.go tx (by omega))); (try (have i_cd := Imp.go cd (by omega))); (try (have i_cd := Imp.go cd (by omega))); (try (have i_tx := Imp.go tx (by omega))); omega)) (show 24 * b ≤ go from by first | omega | ((try (have i_tx := Imp.go tx (by omega))); (try (have i_cd := Imp.go cd (by omega))); (try (have i_cd := Imp.go cd (by omega))); (try (have i_tx := Imp.go tx (by omega))); omega)) (show go < 24 * b + 24 from by first | omega | ((try (have i_tx := Imp.go tx (by omega))); (try (have i_cd := Imp.go cd (by omega))); (try (have i_cd := Imp.go cd (by omega))); (try (have i_tx := Imp.go tx (by omega))); omega)) cd tx) w1015 w1017 w33 w162 w1018 rfl xgReader hdV_yX1_readMethod ⟨Nat.le_of_ble_eq_true rfl, Nat.le_of_ble_eq_true rfl⟩ rfl hl.1 rfl (Nat.le_of_ble_eq_true rfl) dX1_readMember_160 ⟨Nat.le_of_ble_eq_true rfl, Nat.le_of_ble_eq_true rfl⟩) hP hD hK hS hA (fun z113 u114 H locs w115 hP hD hK hS => ?_)
    obtain ⟨V119, L120⟩ := u114
    obtain ⟨hMV119, ajV119, axL120, fyV119, rgz113, t116, t117, t118⟩ := w115
    have alL120 : agL [6, 44] L L120 := agL.tr alL axL120 (by decide)
    have hP : va_P D vwCl (xw ad kk V119 L120 Z) H := hP
    have hD : va_D A (xw ad kk V119 L120 Z) := hD
    have hMV119 : rgd bX V119 := hMV119
    have ajV119 : agr [(1, 3), (1, 4), (1, 6), (1, 8), (6, 8), (6, 9), (6, 10)] [42, 43, 44, 48, 61] V V119 := ajV119
    have agV119 : agr [(1, 2), (1, 3), (1, 4), (1, 6), (1, 8), (6, 8), (6, 9), (6, 10)] [42, 43, 44, 48, 49, 56, 57, 58, 59, 60, 61] V V119 := agV.tr ajV119 (by decide) (by decide)
    have fwV119 : frX (xR b) V V119 := frX.tr fwV (fyV119)
    have rgz113 : 0 ≤ z113.toInt ∧ z113.toInt ≤ 1 := rgz113
    have t116 : TX V119 b := t116
    have t117 : CD V119 b := t117
    have t118 : px V V119 b := t118
    have pq121 : (V119 1 2).toInt = ((V 1 2)).toInt := congrArg Int32.toInt (ajV119 1 2 rfl)
    have px122 : px V V119 b := px.tr (px.rf : px V V b) t118
    exact W.zret (v := z113) hx hb hr (nb_ok (by omega)) (fun t ht hW => ⟨⟨z113, (V119, L120), rfl, ⟨hMV119, agV119, alL120, fwV119, (show 0 ≤ z113.toInt ∧ z113.toInt ≤ 1 from by first | omega | ((try (have i_tx := Imp.go tx (by omega))); (try (have i_cd := Imp.go cd (by omega))); (try (have i_cd := Imp.go cd (by omega))); (try (have i_tx := Imp.go tx (by omega))); omega)), t116, (show (V119 1 2).toInt = (V 1 2).toInt ∨ (V119 1 2).toInt = -1 from by first | omega | ((try (have i_tx := Imp.go tx (by omega))); (try (have i_cd := Imp.go cd (by omega))); (try (have i_cd := Imp.go cd (by omega))); (try (have i_tx := Imp.go tx (by omega))); omega)), t117, px122⟩, by rw [ht]; exact hP, va_K.moved hW.alike hK, hD⟩, hS.F ht⟩) hS.2.2 dX1_readMember_163
  refine lv_lookup (x := (V 6 9)) (off := 149) (tgt := 164) hx hb dX1_readMember_15 (by decide) ((lv_osw q4 (by decide)).trans ((lv_osw q17 (by decide)).trans ((lv_osw q28 (by decide)).trans ((lv_osw q70 (by decide)).trans ((lv_osw q112 (by decide)).trans rfl))))) (by decide) ?_
  have gq4 : ((V 6 9)).toInt ≠ 125 := b_neq rfl (by decide) q4
  have gq17 : ((V 6 9)).toInt ≠ 137 := b_neq rfl (by decide) q17
  have gq28 : ((V 6 9)).toInt ≠ 140 := b_neq rfl (by decide) q28
  have gq70 : ((V 6 9)).toInt ≠ 141 := b_neq rfl (by decide) q70
  have gq112 : ((V 6 9)).toInt ≠ 142 := b_neq rfl (by decide) q112
  refine lv_aload_n hx hb dX1_readMember_164 rfl (lv_at hl 1 rfl) ?_
  refine lv_iconst (v := 1) hx hb dX1_readMember_165 (by decide) ?_
  have r123 : Int32.toInt 1 = 1 := by decide
  refine gA_int (gA_runV (As := [.int 1]) (rest := []) (ci := 1) (q0 := 1) hx hb hml hown hg hP hD hK hS hA hnw hgk (x_wrong l D ks H.size ad kk V L Z 1 hMV ) w867 w869 w6 w162 w870 rfl xgReader hdV_yX1_wrong ⟨Nat.le_of_ble_eq_true rfl, Nat.le_of_ble_eq_true rfl⟩ rfl hl.1 rfl (Nat.le_of_ble_eq_true rfl) dX1_readMember_166 ⟨Nat.le_of_ble_eq_true rfl, Nat.le_of_ble_eq_true rfl⟩) hP hD hK hS hA (fun z124 u125 H locs w126 hP hD hK hS => ?_)
  obtain ⟨V127, L128⟩ := u125
  obtain ⟨hMV127, ajV127, axL128, rgz124⟩ := w126
  have axL128 : L = L128 := Eq.symm axL128
  subst axL128
  have hP : va_P D vwCl (xw ad kk V127 L Z) H := hP
  have hD : va_D A (xw ad kk V127 L Z) := hD
  have hMV127 : rgd bX V127 := hMV127
  have ajV127 : agr [(1, 3)] [] V V127 := ajV127
  have agV127 : agr [(1, 2), (1, 3), (1, 4), (1, 6), (1, 8), (6, 8), (6, 9), (6, 10)] [42, 43, 44, 48, 49, 56, 57, 58, 59, 60, 61] V V127 := agV.tr ajV127 (by decide) (by decide)
  have fwV127 : frX (xR b) V V127 := frX.tr fwV (frX.ag ajV127 (by decide) (by decide))
  have rgz124 : 0 ≤ z124.toInt ∧ z124.toInt ≤ 0 := rgz124
  have pq129 : (V127 1 2).toInt = ((V 1 2)).toInt := congrArg Int32.toInt (ajV127 1 2 rfl)
  have px130 : px V V127 b := px.tr (px.rf : px V V b) (px.ag (show agr [(1, 3)] [] V V127 from (agr.tr agr.rf ajV127 (by decide) (by decide))) (fun _ => rfl) (fun _ => rfl) (fun _ => rfl))
  have tx131 : TX V127 b := TX.ag tx (show agr [(1, 3)] [] V V127 from (agr.tr agr.rf ajV127 (by decide) (by decide))) px130 (fun _ => rfl) (fun _ => rfl) (fun _ => rfl) (fun _ => rfl) (fun _ => rfl) (fun _ => rfl)
  have cd132 : CD V127 b := ⟨CB.ag cd.1 (show agr [(1, 3)] [] V V127 from (agr.tr agr.rf ajV127 (by decide) (by decide))) (fun _ => rfl) (fun _ => rfl), CO.ag cd.2 (show agr [(1, 3)] [] V V127 from (agr.tr agr.rf ajV127 (by decide) (by decide))) (fun _ => rfl) (fun _ => rfl)⟩
  have px133 : px V V127 b := px.tr (px.rf : px V V b) (px.ag (show agr [(1, 3)] [] V V127 from (agr.tr agr.rf ajV127 (by decide) (by decide))) (fun _ => rfl) (fun _ => rfl) (fun _ => rfl))
  exact W.zret (v := z124) hx hb hr (nb_ok (by omega)) (fun t ht hW => ⟨⟨z124, (V127, L), rfl, ⟨hMV127, agV127, alL, fwV127, (show 0 ≤ z124.toInt ∧ z124.toInt ≤ 1 from by first | omega | ((try (have i_tx := Imp.go tx (by omega))); (try (have i_cd := Imp.go cd (by omega))); (try (have i_cd := Imp.go cd (by omega))); (try (have i_tx := Imp.go tx (by omega))); omega)), tx131, (show (V127 1 2).toInt = (V 1 2).toInt ∨ (V127 1 2).toInt = -1 from by first | omega | ((try (have i_tx := Imp.go tx (by omega))); (try (have i_cd := Imp.go cd (by omega))); (try (have i_cd := Imp.go cd (by omega))); (try (have i_tx := Imp.go tx (by omega))); omega)), cd132, px133⟩, by rw [ht]; exact hP, va_K.moved hW.alike hK, hD⟩, hS.F ht⟩) hS.2.2 dX1_readMember_169
abbrev r_x_readWrap : Room := { frames := 91, cells := 0, slots := 0, locals := 2683 }
abbrev q_x_readWrap (D : va_G) (ks : KS) (ad : Nat → Nat) (kk : Nat → ClassId) (V : Vf) (L : Lf) (Z : XZ) (b : Nat) (A : Nat → Prop) : Array Value → State → Outcome → State → Prop := va_Qi (fun (r : Int32) (u : Vf × Lf) => rgd bX u.1 ∧ agr [(1, 3), (1, 4), (1, 6), (1, 8), (6, 8), (6, 9), (6, 10)] [41, 42, 43, 44, 47, 48, 62, 63, 64, 65, 66] V u.1 ∧ agL [6, 44] L u.2 ∧ frX (xR b) V u.1 ∧ (0 ≤ r.toInt ∧ r.toInt ≤ 1) ∧ (TX u.1 b) ∧ (CD u.1 b) ∧ (px V u.1 b)) (fun u t => gq D A (xw ad kk u.1 u.2 Z) (xty kk Z) t) A
set_option maxHeartbeats 4000000 in
set_option maxRecDepth 100000 in
theorem x_readWrap (l : Launch) (D : va_G) (ks : KS) (sz : Nat) (ad : Nat → Nat) (kk : Nat → ClassId) (V : Vf) (L : Lf) (Z : XZ) (b : Nat) (hMV : rgd bX V) (hb2 : b < 2) (rbk : (V 1 1).toInt = (b : Int)) (cd : CD V b) (tx : TX V b)  : Met l yX1_readWrap (Cond.code yX1_readWrap cX1_readWrap 6 (some .boolean) :: GW) r_x_readWrap (va_Pc [.ref (ad 1)] (gp D ks (xw ad kk V L Z) (xty kk Z) sz)) (q_x_readWrap D ks ad kk V L Z  b (va_A (xw ad kk V L Z) sz)) 0 0 (va_A (xw ad kk V L Z) sz) := by
  refine g_met (q_x_readWrap D ks ad kk V L Z  b) (by decide) (Nat.le_of_ble_eq_true rfl) ?_
  intro p e s m below meth c A ls H locs hx hb hr hml hown hg hlocks hin hnw hgk hP hK hD hS hA hl
  have hown : s.vm.findClass RX1 = some m.cls := hown
  have hl : lv_has ls 6 [(0, .ref (ad 1))] := hl
  have hP : va_P D vwCl (xw ad kk V L Z) H := hP
  have hD : va_D A (xw ad kk V L Z) := hD
  have hK : va_K D vwCl (xty kk Z) s := hK
  have agV : agr [(1, 3), (1, 4), (1, 6), (1, 8), (6, 8), (6, 9), (6, 10)] [41, 42, 43, 44, 47, 48, 62, 63, 64, 65, 66] V V := agr.rf
  have alL : agL [6, 44] L L := agL.rf
  have fwV : frX (xR b) V V := frX.rf
  have r1 : (-1) ≤ ((V 1 1)).toInt ∧ ((V 1 1)).toInt ≤ 1 := hMV 1 1
  refine lv_aload_n hx hb dX1_readWrap_0 rfl (lv_at hl 0 rfl) ?_
  refine va_get (D := D) (ci := 1) (v := rfN ad 38 (V 1 1)) (fs := (xfReader ad V L Z)) (C := RX1) (T := TX1) (N := 9) hx hb hg inX1 hown hK hP 1 xgReader rfl 1 (by decide) (hg _ w305) (fun _ h9 => h9) rfl dX1_readWrap_1 ?_
  refine g_topv (v := .ref (ad (38 + b))) (rfN_r (by first | omega | ((try (have i_tx := Imp.go tx (by omega))); (try (have i_cd := Imp.go cd (by omega))); (try (have i_cd := Imp.go cd (by omega))); (try (have i_tx := Imp.go tx (by omega))); omega))) ?_
  refine va_getN (D := D) (ci := 0) (v := .int (V 41 b)) (fs := (xfBook ad V b)) (C := RX0) (T := TX0) (N := 13) hx hb hg inX0 hown hK hP (38 + b) (xgBook hb2) rfl 11 (by decide) (hnw.use 626 n626 rfl) (fun _ h9 => h9) rfl dX1_readWrap_4 ?_
  have r2 : 0 ≤ ((V 41 b)).toInt ∧ ((V 41 b)).toInt ≤ 12 := hMV 41 b
  refine lv_bipush (v := 12) hx hb dX1_readWrap_7 (by decide) ?_
  refine lv_icmp_lt (tgt := 18) hx hb dX1_readWrap_9 (by decide) (fun c3 => ?_) (fun c3 => ?_)
  · skip
    have f4 : ((V 41 b)).toInt < 12 := b_lt rfl (by decide) c3
    refine lv_aload_n hx hb dX1_readWrap_18 rfl (lv_at hl 0 rfl) ?_
    refine va_get (D := D) (ci := 1) (v := .ref (ad 6)) (fs := (xfReader ad V L Z)) (C := RX1) (T := TX1) (N := 9) hx hb hg inX1 hown hK hP 1 xgReader rfl 0 (by decide) (hg _ w304) (fun _ h9 => h9) rfl dX1_readWrap_19 ?_
    refine gA_void (gA_runV (As := []) (rest := []) (ci := 9) (q0 := 6) hx hb hml hown hg hP hD hK hS hA hnw hgk (x_next l D ks H.size ad kk V L Z  hMV ) w871 w852 w853 w157 w854 rfl xgTape hdV_yX9_next ⟨Nat.le_of_ble_eq_true rfl, Nat.le_of_ble_eq_true rfl⟩ rfl hl.1 rfl (Nat.le_of_ble_eq_true rfl) dX1_readWrap_22 ⟨Nat.le_of_ble_eq_true rfl, Nat.le_of_ble_eq_true rfl⟩) hP hD hK hS hA (fun u6 H locs w7 hP hD hK hS => ?_)
    obtain ⟨V8, L9⟩ := u6
    obtain ⟨hMV8, ajV8, axL9⟩ := w7
    have alL9 : agL [6, 44] L L9 := agL.tr alL axL9 (by decide)
    have hP : va_P D vwCl (xw ad kk V8 L9 Z) H := hP
    have hD : va_D A (xw ad kk V8 L9 Z) := hD
    have hMV8 : rgd bX V8 := hMV8
    have ajV8 : agr [(6, 8), (6, 9), (6, 10)] [] V V8 := ajV8
    have agV8 : agr [(1, 3), (1, 4), (1, 6), (1, 8), (6, 8), (6, 9), (6, 10)] [41, 42, 43, 44, 47, 48, 62, 63, 64, 65, 66] V V8 := agV.tr ajV8 (by decide) (by decide)
    have fwV8 : frX (xR b) V V8 := frX.tr fwV (frX.ag ajV8 (by decide) (by decide))
    refine lv_aload_n hx hb dX1_readWrap_25 rfl (lv_at hl 0 rfl) ?_
    have pq10 : (V8 1 1).toInt = ((V 1 1)).toInt := congrArg Int32.toInt (ajV8 1 1 rfl)
    refine gA_int (gA_runV (As := []) (rest := []) (ci := 1) (q0 := 1) hx hb hml hown hg hP hD hK hS hA hnw hgk (x_isToldType l D ks H.size ad kk V8 L9 Z (b) hMV8 (show b < 2 from by first | omega | ((try (have i_tx := Imp.go tx (by omega))); (try (have i_cd := Imp.go cd (by omega))); (try (have i_cd := Imp.go cd (by omega))); (try (have i_tx := Imp.go tx (by omega))); omega)) (show (V8 1 1).toInt = (b : Int) from by first | omega | ((try (have i_tx := Imp.go tx (by omega))); (try (have i_cd := Imp.go cd (by omega))); (try (have i_cd := Imp.go cd (by omega))); (try (have i_tx := Imp.go tx (by omega))); omega))) w888 w890 w9 w162 w891 rfl xgReader hdV_yX1_isToldType ⟨Nat.le_of_ble_eq_true rfl, Nat.le_of_ble_eq_true rfl⟩ rfl hl.1 rfl (Nat.le_of_ble_eq_true rfl) dX1_readWrap_26 ⟨Nat.le_of_ble_eq_true rfl, Nat.le_of_ble_eq_true rfl⟩) hP hD hK hS hA (fun z11 u12 H locs w13 hP hD hK hS => ?_)
    obtain ⟨V15, L16⟩ := u12
    obtain ⟨hMV15, ajV15, axL16, rgz11, t14⟩ := w13
    have axL16 : L9 = L16 := Eq.symm axL16
    subst axL16
    have hP : va_P D vwCl (xw ad kk V15 L9 Z) H := hP
    have hD : va_D A (xw ad kk V15 L9 Z) := hD
    have hMV15 : rgd bX V15 := hMV15
    have ajV15 : agr [(1, 3), (1, 6)] [] V8 V15 := ajV15
    have agV15 : agr [(1, 3), (1, 4), (1, 6), (1, 8), (6, 8), (6, 9), (6, 10)] [41, 42, 43, 44, 47, 48, 62, 63, 64, 65, 66] V V15 := agV8.tr ajV15 (by decide) (by decide)
    have fwV15 : frX (xR b) V V15 := frX.tr fwV8 (frX.ag ajV15 (by decide) (by decide))
    have rgz11 : 0 ≤ z11.toInt ∧ z11.toInt ≤ 1 := rgz11
    have t14 : Imp (z11.toInt = 1) (0 ≤ (V15 1 6).toInt ∧ (V15 1 6).toInt ≤ 23) := t14
    have r17 : (-1) ≤ ((V15 1 6)).toInt ∧ ((V15 1 6)).toInt ≤ 23 := hMV15 1 6
    refine lv_if_ne (tgt := 34) hx hb dX1_readWrap_29 (by decide) (fun c18 => ?_) (fun c18 => ?_)
    · skip
      have f19 : z11.toInt ≠ 0 := b_neq rfl (by decide) c18
      refine lv_aload_n hx hb dX1_readWrap_34 rfl (lv_at hl 0 rfl) ?_
      refine va_get (D := D) (ci := 1) (v := .int (V15 1 6)) (fs := (xfReader ad V15 L9 Z)) (C := RX1) (T := TX1) (N := 9) hx hb hg inX1 hown hK hP 1 xgReader rfl 6 (by decide) (hg _ w310) (fun _ h9 => h9) rfl dX1_readWrap_35 ?_
      refine lv_istore_n (lv' := [(1, .int (V15 1 6)), (0, .ref (ad 1))]) hx hb dX1_readWrap_38 rfl hl (by decide) rfl (fun ls hl => ?_)
      refine lv_aload_n hx hb dX1_readWrap_39 rfl (lv_at hl 1 rfl) ?_
      refine va_get (D := D) (ci := 1) (v := .ref (ad 6)) (fs := (xfReader ad V15 L9 Z)) (C := RX1) (T := TX1) (N := 9) hx hb hg inX1 hown hK hP 1 xgReader rfl 0 (by decide) (hg _ w304) (fun _ h9 => h9) rfl dX1_readWrap_40 ?_
      refine gA_void (gA_runV (As := []) (rest := []) (ci := 9) (q0 := 6) hx hb hml hown hg hP hD hK hS hA hnw hgk (x_next l D ks H.size ad kk V15 L9 Z  hMV15 ) w871 w852 w853 w157 w854 rfl xgTape hdV_yX9_next ⟨Nat.le_of_ble_eq_true rfl, Nat.le_of_ble_eq_true rfl⟩ rfl hl.1 rfl (Nat.le_of_ble_eq_true rfl) dX1_readWrap_43 ⟨Nat.le_of_ble_eq_true rfl, Nat.le_of_ble_eq_true rfl⟩) hP hD hK hS hA (fun u21 H locs w22 hP hD hK hS => ?_)
      obtain ⟨V23, L24⟩ := u21
      obtain ⟨hMV23, ajV23, axL24⟩ := w22
      have alL24 : agL [6, 44] L L24 := agL.tr alL9 axL24 (by decide)
      have hP : va_P D vwCl (xw ad kk V23 L24 Z) H := hP
      have hD : va_D A (xw ad kk V23 L24 Z) := hD
      have hMV23 : rgd bX V23 := hMV23
      have ajV23 : agr [(6, 8), (6, 9), (6, 10)] [] V15 V23 := ajV23
      have agV23 : agr [(1, 3), (1, 4), (1, 6), (1, 8), (6, 8), (6, 9), (6, 10)] [41, 42, 43, 44, 47, 48, 62, 63, 64, 65, 66] V V23 := agV15.tr ajV23 (by decide) (by decide)
      have fwV23 : frX (xR b) V V23 := frX.tr fwV15 (frX.ag ajV23 (by decide) (by decide))
      refine lv_aload_n hx hb dX1_readWrap_46 rfl (lv_at hl 1 rfl) ?_
      refine lv_bipush (v := 46) hx hb dX1_readWrap_47 (by decide) ?_
      have r25 : Int32.toInt 46 = 46 := by decide
      refine gA_int (gA_runV (As := [.int 46]) (rest := []) (ci := 1) (q0 := 1) hx hb hml hown hg hP hD hK hS hA hnw hgk (x_take l D ks H.size ad kk V23 L24 Z 46 hMV23 ) w893 w895 w10 w162 w896 rfl xgReader hdV_yX1_take ⟨Nat.le_of_ble_eq_true rfl, Nat.le_of_ble_eq_true rfl⟩ rfl hl.1 rfl (Nat.le_of_ble_eq_true rfl) dX1_readWrap_49 ⟨Nat.le_of_ble_eq_true rfl, Nat.le_of_ble_eq_true rfl⟩) hP hD hK hS hA (fun z26 u27 H locs w28 hP hD hK hS => ?_)
      obtain ⟨V29, L30⟩ := u27
      obtain ⟨hMV29, ajV29, axL30, rgz26⟩ := w28
      have alL30 : agL [6, 44] L L30 := agL.tr alL24 axL30 (by decide)
      have hP : va_P D vwCl (xw ad kk V29 L30 Z) H := hP
      have hD : va_D A (xw ad kk V29 L30 Z) := hD
      have hMV29 : rgd bX V29 := hMV29
      have ajV29 : agr [(1, 3), (6, 8), (6, 9), (6, 10)] [] V23 V29 := ajV29
      have agV29 : agr [(1, 3), (1, 4), (1, 6), (1, 8), (6, 8), (6, 9), (6, 10)] [41, 42, 43, 44, 47, 48, 62, 63, 64, 65, 66] V V29 := agV23.tr ajV29 (by decide) (by decide)
      have fwV29 : frX (xR b) V V29 := frX.tr fwV23 (frX.ag ajV29 (by decide) (by decide))
      have rgz26 : 0 ≤ z26.toInt ∧ z26.toInt ≤ 1 := rgz26
      refine lv_if_eq (tgt := 63) hx hb dX1_readWrap_52 (by decide) (fun c31 => ?_) (fun c31 => ?_)
      · skip
        have f32 : z26.toInt = 0 := b_eq rfl (by decide) c31
        refine lv_iconst (v := 0) hx hb dX1_readWrap_63 (by decide) ?_
        have px33 : px V V29 b := px.tr (px.rf : px V V b) (px.ag (show agr [(1, 3), (1, 6), (6, 8), (6, 9), (6, 10)] [] V V29 from (agr.tr (agr.tr (agr.tr (agr.tr agr.rf ajV8 (by decide) (by decide)) ajV15 (by decide) (by decide)) ajV23 (by decide) (by decide)) ajV29 (by decide) (by decide))) (fun _ => rfl) (fun _ => rfl) (fun _ => rfl))
        have tx34 : TX V29 b := TX.ag tx (show agr [(1, 3), (1, 6), (6, 8), (6, 9), (6, 10)] [] V V29 from (agr.tr (agr.tr (agr.tr (agr.tr agr.rf ajV8 (by decide) (by decide)) ajV15 (by decide) (by decide)) ajV23 (by decide) (by decide)) ajV29 (by decide) (by decide))) px33 (fun _ => rfl) (fun _ => rfl) (fun _ => rfl) (fun _ => rfl) (fun _ => rfl) (fun _ => rfl)
        have cd35 : CD V29 b := ⟨CB.ag cd.1 (show agr [(1, 3), (1, 6), (6, 8), (6, 9), (6, 10)] [] V V29 from (agr.tr (agr.tr (agr.tr (agr.tr agr.rf ajV8 (by decide) (by decide)) ajV15 (by decide) (by decide)) ajV23 (by decide) (by decide)) ajV29 (by decide) (by decide))) (fun _ => rfl) (fun _ => rfl), CO.ag cd.2 (show agr [(1, 3), (1, 6), (6, 8), (6, 9), (6, 10)] [] V V29 from (agr.tr (agr.tr (agr.tr (agr.tr agr.rf ajV8 (by decide) (by decide)) ajV15 (by decide) (by decide)) ajV23 (by decide) (by decide)) ajV29 (by decide) (by decide))) (fun _ => rfl) (fun _ => rfl)⟩
        have px36 : px V V29 b := px.tr (px.rf : px V V b) (px.ag (show agr [(1, 3), (1, 6), (6, 8), (6, 9), (6, 10)] [] V V29 from (agr.tr (agr.tr (agr.tr (agr.tr agr.rf ajV8 (by decide) (by decide)) ajV15 (by decide) (by decide)) ajV23 (by decide) (by decide)) ajV29 (by decide) (by decide))) (fun _ => rfl) (fun _ => rfl) (fun _ => rfl))
        exact W.zret (v := 0) hx hb hr rfl (fun t ht hW => ⟨⟨0, (V29, L30), rfl, ⟨hMV29, agV29, alL30, fwV29, (by decide), tx34, cd35, px36⟩, by rw [ht]; exact hP, va_K.moved hW.alike hK, hD⟩, hS.F ht⟩) hS.2.2 dX1_readWrap_64
      · skip
        have f37 : z26.toInt ≠ 0 := b_neq rfl (by decide) c31
        refine lv_aload_n hx hb dX1_readWrap_55 rfl (lv_at hl 1 rfl) ?_
        refine lv_null hx hb dX1_readWrap_56 ?_
        have pq38 : (V29 1 1).toInt = ((V 1 1)).toInt := congrArg Int32.toInt ((ajV29 1 1 rfl).trans ((ajV23 1 1 rfl).trans ((ajV15 1 1 rfl).trans (ajV8 1 1 rfl))))
        refine gA_int (gA_runV (As := [.null]) (rest := []) (ci := 1) (q0 := 1) hx hb hml hown hg hP hD hK hS hA hnw hgk (x_takeMethodN l D ks H.size ad kk V29 L30 Z (b) hMV29 (show b < 2 from by first | omega | ((try (have i_t14 := Imp.go t14 (by omega))); (try (have i_tx := Imp.go tx (by omega))); (try (have i_cd := Imp.go cd (by omega))); (try (have i_cd := Imp.go cd (by omega))); (try (have i_tx := Imp.go tx (by omega))); (try (have i_t14 := Imp.go t14 (by omega))); omega)) (show (V29 1 1).toInt = (b : Int) from by first | omega | ((try (have i_t14 := Imp.go t14 (by omega))); (try (have i_tx := Imp.go tx (by omega))); (try (have i_cd := Imp.go cd (by omega))); (try (have i_cd := Imp.go cd (by omega))); (try (have i_tx := Imp.go tx (by omega))); (try (have i_t14 := Imp.go t14 (by omega))); omega))) w939 w941 w19 w162 w942 rfl xgReader hdV_yX1_takeMethod ⟨Nat.le_of_ble_eq_true rfl, Nat.le_of_ble_eq_true rfl⟩ rfl hl.1 rfl (Nat.le_of_ble_eq_true rfl) dX1_readWrap_57 ⟨Nat.le_of_ble_eq_true rfl, Nat.le_of_ble_eq_true rfl⟩) hP hD hK hS hA (fun z39 u40 H locs w41 hP hD hK hS => ?_)
        obtain ⟨V44, L45⟩ := u40
        obtain ⟨hMV44, ajV44, axL45, fyV44, rgz39, t42, t43⟩ := w41
        have alL45 : agL [6, 44] L L45 := agL.tr alL30 axL45 (by decide)
        have hP : va_P D vwCl (xw ad kk V44 L45 Z) H := hP
        have hD : va_D A (xw ad kk V44 L45 Z) := hD
        have hMV44 : rgd bX V44 := hMV44
        have ajV44 : agr [(1, 3), (1, 6), (6, 8), (6, 9), (6, 10)] [43, 44] V29 V44 := ajV44
        have agV44 : agr [(1, 3), (1, 4), (1, 6), (1, 8), (6, 8), (6, 9), (6, 10)] [41, 42, 43, 44, 47, 48, 62, 63, 64, 65, 66] V V44 := agV29.tr ajV44 (by decide) (by decide)
        have fwV44 : frX (xR b) V V44 := frX.tr fwV29 (fyV44)
        have rgz39 : 0 ≤ z39.toInt ∧ z39.toInt ≤ 1 := rgz39
        have t42 : Imp (z39.toInt = 1) (0 ≤ (V44 1 6).toInt ∧ (V44 1 6).toInt ≤ 19) := t42
        have t43 : px V29 V44 b := t43
        have r46 : (-1) ≤ ((V44 1 6)).toInt ∧ ((V44 1 6)).toInt ≤ 23 := hMV44 1 6
        refine lv_if_ne (tgt := 65) hx hb dX1_readWrap_60 (by decide) (fun c47 => ?_) (fun c47 => ?_)
        · skip
          have f48 : z39.toInt ≠ 0 := b_neq rfl (by decide) c47
          refine lv_aload_n hx hb dX1_readWrap_65 rfl (lv_at hl 1 rfl) ?_
          refine va_get (D := D) (ci := 1) (v := .int (V44 1 6)) (fs := (xfReader ad V44 L45 Z)) (C := RX1) (T := TX1) (N := 9) hx hb hg inX1 hown hK hP 1 xgReader rfl 6 (by decide) (hg _ w310) (fun _ h9 => h9) rfl dX1_readWrap_66 ?_
          refine lv_istore_n (lv' := [(2, .int (V44 1 6)), (1, .int (V15 1 6)), (0, .ref (ad 1))]) hx hb dX1_readWrap_69 rfl hl (by decide) rfl (fun ls hl => ?_)
          refine lv_aload_n hx hb dX1_readWrap_70 rfl (lv_at hl 2 rfl) ?_
          refine lv_iconst (v := 0) hx hb dX1_readWrap_71 (by decide) ?_
          refine lv_bipush (v := 99) hx hb dX1_readWrap_72 (by decide) ?_
          have r49 : Int32.toInt 0 = 0 := by decide
          have r50 : Int32.toInt 99 = 99 := by decide
          refine gA_int (gA_runV (As := [.int 0, .int 99]) (rest := []) (ci := 1) (q0 := 1) hx hb hml hown hg hP hD hK hS hA hnw hgk (x_takeNumber l D ks H.size ad kk V44 L45 Z 0 99 hMV44 (show 0 ≤ (Int32.toInt 0) from by first | omega | ((try (have i_t42 := Imp.go t42 (by omega))); (try (have i_t14 := Imp.go t14 (by omega))); (try (have i_tx := Imp.go tx (by omega))); (try (have i_cd := Imp.go cd (by omega))); (try (have i_cd := Imp.go cd (by omega))); (try (have i_tx := Imp.go tx (by omega))); (try (have i_t14 := Imp.go t14 (by omega))); (try (have i_t42 := Imp.go t42 (by omega))); omega)) (show (Int32.toInt 99) ≤ 999999999 from by first | omega | ((try (have i_t42 := Imp.go t42 (by omega))); (try (have i_t14 := Imp.go t14 (by omega))); (try (have i_tx := Imp.go tx (by omega))); (try (have i_cd := Imp.go cd (by omega))); (try (have i_cd := Imp.go cd (by omega))); (try (have i_tx := Imp.go tx (by omega))); (try (have i_t14 := Imp.go t14 (by omega))); (try (have i_t42 := Imp.go t42 (by omega))); omega))) w906 w908 w12 w162 w909 rfl xgReader hdV_yX1_takeNumber ⟨Nat.le_of_ble_eq_true rfl, Nat.le_of_ble_eq_true rfl⟩ rfl hl.1 rfl (Nat.le_of_ble_eq_true rfl) dX1_readWrap_74 ⟨Nat.le_of_ble_eq_true rfl, Nat.le_of_ble_eq_true rfl⟩) hP hD hK hS hA (fun z51 u52 H locs w53 hP hD hK hS => ?_)
          obtain ⟨V55, L56⟩ := u52
          obtain ⟨hMV55, ajV55, axL56, rgz51, t54⟩ := w53
          have alL56 : agL [6, 44] L L56 := agL.tr alL45 axL56 (by decide)
          have hP : va_P D vwCl (xw ad kk V55 L56 Z) H := hP
          have hD : va_D A (xw ad kk V55 L56 Z) := hD
          have hMV55 : rgd bX V55 := hMV55
          have ajV55 : agr [(1, 3), (1, 8), (6, 8), (6, 9), (6, 10)] [] V44 V55 := ajV55
          have agV55 : agr [(1, 3), (1, 4), (1, 6), (1, 8), (6, 8), (6, 9), (6, 10)] [41, 42, 43, 44, 47, 48, 62, 63, 64, 65, 66] V V55 := agV44.tr ajV55 (by decide) (by decide)
          have fwV55 : frX (xR b) V V55 := frX.tr fwV44 (frX.ag ajV55 (by decide) (by decide))
          have rgz51 : 0 ≤ z51.toInt ∧ z51.toInt ≤ 1 := rgz51
          have t54 : Imp (z51.toInt = 1) ((Int32.toInt 0) ≤ (V55 1 8).toInt ∧ (V55 1 8).toInt ≤ (Int32.toInt 99)) := t54
          have r57 : 0 ≤ ((V55 1 8)).toInt ∧ ((V55 1 8)).toInt ≤ 999999999 := hMV55 1 8
          refine lv_if_ne (tgt := 82) hx hb dX1_readWrap_77 (by decide) (fun c58 => ?_) (fun c58 => ?_)
          · skip
            have f59 : z51.toInt ≠ 0 := b_neq rfl (by decide) c58
            refine lv_aload_n hx hb dX1_readWrap_82 rfl (lv_at hl 2 rfl) ?_
            refine va_get (D := D) (ci := 1) (v := .int (V55 1 8)) (fs := (xfReader ad V55 L56 Z)) (C := RX1) (T := TX1) (N := 9) hx hb hg inX1 hown hK hP 1 xgReader rfl 8 (by decide) (hg _ w312) (fun _ h9 => h9) rfl dX1_readWrap_83 ?_
            refine lv_istore_n (lv' := [(3, .int (V55 1 8)), (2, .int (V44 1 6)), (1, .int (V15 1 6)), (0, .ref (ad 1))]) hx hb dX1_readWrap_86 rfl hl (by decide) rfl (fun ls hl => ?_)
            refine lv_aload_n hx hb dX1_readWrap_87 rfl (lv_at hl 3 rfl) ?_
            refine va_get (D := D) (ci := 1) (v := .ref (ad 6)) (fs := (xfReader ad V55 L56 Z)) (C := RX1) (T := TX1) (N := 9) hx hb hg inX1 hown hK hP 1 xgReader rfl 0 (by decide) (hg _ w304) (fun _ h9 => h9) rfl dX1_readWrap_88 ?_
            refine va_getN (D := D) (ci := 9) (v := .int (V55 6 9)) (fs := (xfTape ad V55 L56 Z)) (C := RX9) (T := TX9) (N := 12) hx hb hg inX9 hown hK hP 6 xgTape rfl 9 (by decide) (hnw.use 262 n262 rfl) (fun _ h9 => h9) rfl dX1_readWrap_91 ?_
            refine lv_sipush (v := 152) hx hb dX1_readWrap_94 (by decide) ?_
            refine lv_icmp_lt (tgt := 113) hx hb dX1_readWrap_97 (by decide) (fun c60 => ?_) (fun c60 => ?_)
            · skip
              have f61 : ((V55 6 9)).toInt < 152 := b_lt rfl (by decide) c60
              refine lv_aload_n hx hb dX1_readWrap_113 rfl (lv_at hl 3 rfl) ?_
              refine lv_iconst (v := 1) hx hb dX1_readWrap_114 (by decide) ?_
              have r62 : Int32.toInt 1 = 1 := by decide
              refine gA_int (gA_runV (As := [.int 1]) (rest := []) (ci := 1) (q0 := 1) hx hb hml hown hg hP hD hK hS hA hnw hgk (x_wrong l D ks H.size ad kk V55 L56 Z 1 hMV55 ) w867 w869 w6 w162 w870 rfl xgReader hdV_yX1_wrong ⟨Nat.le_of_ble_eq_true rfl, Nat.le_of_ble_eq_true rfl⟩ rfl hl.1 rfl (Nat.le_of_ble_eq_true rfl) dX1_readWrap_115 ⟨Nat.le_of_ble_eq_true rfl, Nat.le_of_ble_eq_true rfl⟩) hP hD hK hS hA (fun z63 u64 H locs w65 hP hD hK hS => ?_)
              obtain ⟨V66, L67⟩ := u64
              obtain ⟨hMV66, ajV66, axL67, rgz63⟩ := w65
              have axL67 : L56 = L67 := Eq.symm axL67
              subst axL67
              have hP : va_P D vwCl (xw ad kk V66 L56 Z) H := hP
              have hD : va_D A (xw ad kk V66 L56 Z) := hD
              have hMV66 : rgd bX V66 := hMV66
              have ajV66 : agr [(1, 3)] [] V55 V66 := ajV66
              have agV66 : agr [(1, 3), (1, 4), (1, 6), (1, 8), (6, 8), (6, 9), (6, 10)] [41, 42, 43, 44, 47, 48, 62, 63, 64, 65, 66] V V66 := agV55.tr ajV66 (by decide) (by decide)
              have fwV66 : frX (xR b) V V66 := frX.tr fwV55 (frX.ag ajV66 (by decide) (by decide))
              have rgz63 : 0 ≤ z63.toInt ∧ z63.toInt ≤ 0 := rgz63
              have px68 : px V V29 b := px.tr (px.rf : px V V b) (px.ag (show agr [(1, 3), (1, 6), (6, 8), (6, 9), (6, 10)] [] V V29 from (agr.tr (agr.tr (agr.tr (agr.tr agr.rf ajV8 (by decide) (by decide)) ajV15 (by decide) (by decide)) ajV23 (by decide) (by decide)) ajV29 (by decide) (by decide))) (fun _ => rfl) (fun _ => rfl) (fun _ => rfl))
              have px69 : px V V44 b := px.tr px68 t43
              have px70 : px V V66 b := px.tr px69 (px.ag (show agr [(1, 3), (1, 8), (6, 8), (6, 9), (6, 10)] [] V44 V66 from (agr.tr (agr.tr agr.rf ajV55 (by decide) (by decide)) ajV66 (by decide) (by decide))) (fun _ => rfl) (fun _ => rfl) (fun _ => rfl))
              have tx71 : TX V66 b := TX.ag tx (show agr [(1, 3), (1, 6), (1, 8), (6, 8), (6, 9), (6, 10)] [43, 44] V V66 from (agr.tr (agr.tr (agr.tr (agr.tr (agr.tr (agr.tr (agr.tr agr.rf ajV8 (by decide) (by decide)) ajV15 (by decide) (by decide)) ajV23 (by decide) (by decide)) ajV29 (by decide) (by decide)) ajV44 (by decide) (by decide)) ajV55 (by decide) (by decide)) ajV66 (by decide) (by decide))) px70 (fun _ => rfl) (fun _ => rfl) (fun _ => rfl) (fun _ => rfl) (fun _ => rfl) (fun _ => rfl)
              have cd72 : CD V66 b := ⟨CB.ag cd.1 (show agr [(1, 3), (1, 6), (1, 8), (6, 8), (6, 9), (6, 10)] [43, 44] V V66 from (agr.tr (agr.tr (agr.tr (agr.tr (agr.tr (agr.tr (agr.tr agr.rf ajV8 (by decide) (by decide)) ajV15 (by decide) (by decide)) ajV23 (by decide) (by decide)) ajV29 (by decide) (by decide)) ajV44 (by decide) (by decide)) ajV55 (by decide) (by decide)) ajV66 (by decide) (by decide))) (fun _ => rfl) (fun _ => rfl), CO.ag cd.2 (show agr [(1, 3), (1, 6), (1, 8), (6, 8), (6, 9), (6, 10)] [43, 44] V V66 from (agr.tr (agr.tr (agr.tr (agr.tr (agr.tr (agr.tr (agr.tr agr.rf ajV8 (by decide) (by decide)) ajV15 (by decide) (by decide)) ajV23 (by decide) (by decide)) ajV29 (by decide) (by decide)) ajV44 (by decide) (by decide)) ajV55 (by decide) (by decide)) ajV66 (by decide) (by decide))) (fun _ => rfl) (fun _ => rfl)⟩
              have px73 : px V V29 b := px.tr (px.rf : px V V b) (px.ag (show agr [(1, 3), (1, 6), (6, 8), (6, 9), (6, 10)] [] V V29 from (agr.tr (agr.tr (agr.tr (agr.tr agr.rf ajV8 (by decide) (by decide)) ajV15 (by decide) (by decide)) ajV23 (by decide) (by decide)) ajV29 (by decide) (by decide))) (fun _ => rfl) (fun _ => rfl) (fun _ => rfl))
              have px74 : px V V44 b := px.tr px73 t43
              have px75 : px V V66 b := px.tr px74 (px.ag (show agr [(1, 3), (1, 8), (6, 8), (6, 9), (6, 10)] [] V44 V66 from (agr.tr (agr.tr agr.rf ajV55 (by decide) (by decide)) ajV66 (by decide) (by decide))) (fun _ => rfl) (fun _ => rfl) (fun _ => rfl))
              exact W.zret (v := z63) hx hb hr (nb_ok (by omega)) (fun t ht hW => ⟨⟨z63, (V66, L56), rfl, ⟨hMV66, agV66, alL56, fwV66, (show 0 ≤ z63.toInt ∧ z63.toInt ≤ 1 from by first | omega | ((try (have i_t54 := Imp.go t54 (by omega))); (try (have i_t42 := Imp.go t42 (by omega))); (try (have i_t14 := Imp.go t14 (by omega))); (try (have i_tx := Imp.go tx (by omega))); (try (have i_cd := Imp.go cd (by omega))); (try (have i_cd := Imp.go cd (by omega))); (try (have i_tx := Imp.go tx (by omega))); (try (have i_t14 := Imp.go t14 (by omega))); (try (have i_t42 := Imp.go t42 (by omega))); (try (have i_t54 := Imp.go t54 (by omega))); omega)), tx71, cd72, px75⟩, by rw [ht]; exact hP, va_K.moved hW.alike hK, hD⟩, hS.F ht⟩) hS.2.2 dX1_readWrap_118
            · skip
              have f76 : 152 ≤ ((V55 6 9)).toInt := b_nlt rfl (by decide) c60
              refine lv_aload_n hx hb dX1_readWrap_100 rfl (lv_at hl 3 rfl) ?_
              refine va_get (D := D) (ci := 1) (v := .ref (ad 6)) (fs := (xfReader ad V55 L56 Z)) (C := RX1) (T := TX1) (N := 9) hx hb hg inX1 hown hK hP 1 xgReader rfl 0 (by decide) (hg _ w304) (fun _ h9 => h9) rfl dX1_readWrap_101 ?_
              refine va_getN (D := D) (ci := 9) (v := .int (V55 6 9)) (fs := (xfTape ad V55 L56 Z)) (C := RX9) (T := TX9) (N := 12) hx hb hg inX9 hown hK hP 6 xgTape rfl 9 (by decide) (hnw.use 262 n262 rfl) (fun _ h9 => h9) rfl dX1_readWrap_104 ?_
              refine lv_sipush (v := 155) hx hb dX1_readWrap_107 (by decide) ?_
              refine lv_icmp_le (tgt := 119) hx hb dX1_readWrap_110 (by decide) (fun c77 => ?_) (fun c77 => ?_)
              · skip
                have f78 : ((V55 6 9)).toInt ≤ 155 := b_le rfl (by decide) c77
                refine lv_aload_n hx hb dX1_readWrap_119 rfl (lv_at hl 3 rfl) ?_
                refine va_get (D := D) (ci := 1) (v := .ref (ad 6)) (fs := (xfReader ad V55 L56 Z)) (C := RX1) (T := TX1) (N := 9) hx hb hg inX1 hown hK hP 1 xgReader rfl 0 (by decide) (hg _ w304) (fun _ h9 => h9) rfl dX1_readWrap_120 ?_
                refine va_getN (D := D) (ci := 9) (v := .int (V55 6 9)) (fs := (xfTape ad V55 L56 Z)) (C := RX9) (T := TX9) (N := 12) hx hb hg inX9 hown hK hP 6 xgTape rfl 9 (by decide) (hnw.use 262 n262 rfl) (fun _ h9 => h9) rfl dX1_readWrap_123 ?_
                refine lv_sipush (v := 152) hx hb dX1_readWrap_126 (by decide) ?_
                refine lv_isub hx hb dX1_readWrap_129 ?_
                refine lv_topi (fun z79 ez79 => ?_)
                have hz79 : z79.toInt = ((V55 6 9)).toInt - 152 := i_sub ez79 rfl (by decide) (by omega)
                refine lv_istore (lv' := [(4, .int z79), (3, .int (V55 1 8)), (2, .int (V44 1 6)), (1, .int (V15 1 6)), (0, .ref (ad 1))]) hx hb dX1_readWrap_130 hl (by decide) rfl (fun ls hl => ?_)
                refine lv_iload hx hb dX1_readWrap_132 (lv_at hl 0 rfl) ?_
                refine lv_iconst (v := 1) hx hb dX1_readWrap_134 (by decide) ?_
                refine lv_icmp_ne (tgt := 156) hx hb dX1_readWrap_135 (by decide) (fun c80 => ?_) (fun c80 => ?_)
                · skip
                  have f81 : z79.toInt ≠ 1 := b_neq rfl (by decide) c80
                  refine lv_aload_n hx hb dX1_readWrap_156 rfl (lv_at hl 4 rfl) ?_
                  have cd82 : CD V55 b := ⟨CB.ag cd.1 (show agr [(1, 3), (1, 6), (1, 8), (6, 8), (6, 9), (6, 10)] [43, 44] V V55 from (agr.tr (agr.tr (agr.tr (agr.tr (agr.tr (agr.tr agr.rf ajV8 (by decide) (by decide)) ajV15 (by decide) (by decide)) ajV23 (by decide) (by decide)) ajV29 (by decide) (by decide)) ajV44 (by decide) (by decide)) ajV55 (by decide) (by decide))) (fun _ => rfl) (fun _ => rfl), CO.ag cd.2 (show agr [(1, 3), (1, 6), (1, 8), (6, 8), (6, 9), (6, 10)] [43, 44] V V55 from (agr.tr (agr.tr (agr.tr (agr.tr (agr.tr (agr.tr agr.rf ajV8 (by decide) (by decide)) ajV15 (by decide) (by decide)) ajV23 (by decide) (by decide)) ajV29 (by decide) (by decide)) ajV44 (by decide) (by decide)) ajV55 (by decide) (by decide))) (fun _ => rfl) (fun _ => rfl)⟩
                  refine va_get (D := D) (ci := 1) (v := rfN ad 38 (V55 1 1)) (fs := (xfReader ad V55 L56 Z)) (C := RX1) (T := TX1) (N := 9) hx hb hg inX1 hown hK hP 1 xgReader rfl 1 (by decide) (hg _ w305) (fun _ h9 => h9) rfl dX1_readWrap_157 ?_
                  have pq83 : (V55 1 1).toInt = ((V 1 1)).toInt := congrArg Int32.toInt ((ajV55 1 1 rfl).trans ((ajV44 1 1 rfl).trans ((ajV29 1 1 rfl).trans ((ajV23 1 1 rfl).trans ((ajV15 1 1 rfl).trans (ajV8 1 1 rfl))))))
                  refine g_topv (v := .ref (ad (38 + b))) (rfN_r (by first | omega | ((try (have i_t54 := Imp.go t54 (by omega))); (try (have i_t42 := Imp.go t42 (by omega))); (try (have i_t14 := Imp.go t14 (by omega))); (try (have i_tx := Imp.go tx (by omega))); (try (have i_cd := Imp.go cd (by omega))); (try (have i_cd := Imp.go cd (by omega))); (try (have i_tx := Imp.go tx (by omega))); (try (have i_t14 := Imp.go t14 (by omega))); (try (have i_t42 := Imp.go t42 (by omega))); (try (have i_t54 := Imp.go t54 (by omega))); omega))) ?_
                  refine va_getN (D := D) (ci := 0) (v := .int (V55 42 b)) (fs := (xfBook ad V55 b)) (C := RX0) (T := TX0) (N := 13) hx hb hg inX0 hown hK hP (38 + b) (xgBook hb2) rfl 12 (by decide) (hnw.use 630 n630 rfl) (fun _ h9 => h9) rfl dX1_readWrap_160 ?_
                  refine g_top (v := (V 42 b)) ((ajV55 42 b rfl).trans ((ajV44 42 b rfl).trans ((ajV29 42 b rfl).trans ((ajV23 42 b rfl).trans ((ajV15 42 b rfl).trans (ajV8 42 b rfl)))))) ?_
                  have r84 : 0 ≤ ((V 42 b)).toInt ∧ ((V 42 b)).toInt ≤ 8200 := hMV 42 b
                  refine lv_istore (lv' := [(5, .int (V 42 b)), (4, .int z79), (3, .int (V55 1 8)), (2, .int (V44 1 6)), (1, .int (V15 1 6)), (0, .ref (ad 1))]) hx hb dX1_readWrap_163 hl (by decide) rfl (fun ls hl => ?_)
                  refine lv_aload_n hx hb dX1_readWrap_165 rfl (lv_at hl 5 rfl) ?_
                  refine va_get (D := D) (ci := 1) (v := .ref (ad 6)) (fs := (xfReader ad V55 L56 Z)) (C := RX1) (T := TX1) (N := 9) hx hb hg inX1 hown hK hP 1 xgReader rfl 0 (by decide) (hg _ w304) (fun _ h9 => h9) rfl dX1_readWrap_166 ?_
                  refine gA_void (gA_runV (As := []) (rest := []) (ci := 9) (q0 := 6) hx hb hml hown hg hP hD hK hS hA hnw hgk (x_next l D ks H.size ad kk V55 L56 Z  hMV55 ) w871 w852 w853 w157 w854 rfl xgTape hdV_yX9_next ⟨Nat.le_of_ble_eq_true rfl, Nat.le_of_ble_eq_true rfl⟩ rfl hl.1 rfl (Nat.le_of_ble_eq_true rfl) dX1_readWrap_169 ⟨Nat.le_of_ble_eq_true rfl, Nat.le_of_ble_eq_true rfl⟩) hP hD hK hS hA (fun u86 H locs w87 hP hD hK hS => ?_)
                  obtain ⟨V88, L89⟩ := u86
                  obtain ⟨hMV88, ajV88, axL89⟩ := w87
                  have alL89 : agL [6, 44] L L89 := agL.tr alL56 axL89 (by decide)
                  have hP : va_P D vwCl (xw ad kk V88 L89 Z) H := hP
                  have hD : va_D A (xw ad kk V88 L89 Z) := hD
                  have hMV88 : rgd bX V88 := hMV88
                  have ajV88 : agr [(6, 8), (6, 9), (6, 10)] [] V55 V88 := ajV88
                  have agV88 : agr [(1, 3), (1, 4), (1, 6), (1, 8), (6, 8), (6, 9), (6, 10)] [41, 42, 43, 44, 47, 48, 62, 63, 64, 65, 66] V V88 := agV55.tr ajV88 (by decide) (by decide)
                  have fwV88 : frX (xR b) V V88 := frX.tr fwV55 (frX.ag ajV88 (by decide) (by decide))
                  refine lv_aload_n hx hb dX1_readWrap_172 rfl (lv_at hl 5 rfl) ?_
                  refine lv_iload hx hb dX1_readWrap_173 (lv_at hl 1 rfl) ?_
                  refine lv_iconst (v := 1) hx hb dX1_readWrap_175 (by decide) ?_
                  refine lv_icmp_ne (tgt := 183) hx hb dX1_readWrap_176 (by decide) (fun c90 => ?_) (fun c90 => ?_)
                  · skip
                    have f91 : z79.toInt ≠ 1 := b_neq rfl (by decide) c90
                    refine lv_iconst (v := 1) hx hb dX1_readWrap_183 (by decide) ?_
                    have r92 : Int32.toInt 1 = 1 := by decide
                    have pq93 : (V88 1 1).toInt = ((V 1 1)).toInt := congrArg Int32.toInt ((ajV88 1 1 rfl).trans ((ajV55 1 1 rfl).trans ((ajV44 1 1 rfl).trans ((ajV29 1 1 rfl).trans ((ajV23 1 1 rfl).trans ((ajV15 1 1 rfl).trans (ajV8 1 1 rfl)))))))
                    have cd94 : CD V88 b := ⟨CB.ag cd.1 (show agr [(1, 3), (1, 6), (1, 8), (6, 8), (6, 9), (6, 10)] [43, 44] V V88 from (agr.tr (agr.tr (agr.tr (agr.tr (agr.tr (agr.tr (agr.tr agr.rf ajV8 (by decide) (by decide)) ajV15 (by decide) (by decide)) ajV23 (by decide) (by decide)) ajV29 (by decide) (by decide)) ajV44 (by decide) (by decide)) ajV55 (by decide) (by decide)) ajV88 (by decide) (by decide))) (fun _ => rfl) (fun _ => rfl), CO.ag cd.2 (show agr [(1, 3), (1, 6), (1, 8), (6, 8), (6, 9), (6, 10)] [43, 44] V V88 from (agr.tr (agr.tr (agr.tr (agr.tr (agr.tr (agr.tr (agr.tr agr.rf ajV8 (by decide) (by decide)) ajV15 (by decide) (by decide)) ajV23 (by decide) (by decide)) ajV29 (by decide) (by decide)) ajV44 (by decide) (by decide)) ajV55 (by decide) (by decide)) ajV88 (by decide) (by decide))) (fun _ => rfl) (fun _ => rfl)⟩
                    have px95 : px V V29 b := px.tr (px.rf : px V V b) (px.ag (show agr [(1, 3), (1, 6), (6, 8), (6, 9), (6, 10)] [] V V29 from (agr.tr (agr.tr (agr.tr (agr.tr agr.rf ajV8 (by decide) (by decide)) ajV15 (by decide) (by decide)) ajV23 (by decide) (by decide)) ajV29 (by decide) (by decide))) (fun _ => rfl) (fun _ => rfl) (fun _ => rfl))
                    have px96 : px V V44 b := px.tr px95 t43
                    have px97 : px V V88 b := px.tr px96 (px.ag (show agr [(1, 3), (1, 8), (6, 8), (6, 9), (6, 10)] [] V44 V88 from (agr.tr (agr.tr agr.rf ajV55 (by decide) (by decide)) ajV88 (by decide) (by decide))) (fun _ => rfl) (fun _ => rfl) (fun _ => rfl))
                    have tx98 : TX V88 b := TX.ag tx (show agr [(1, 3), (1, 6), (1, 8), (6, 8), (6, 9), (6, 10)] [43, 44] V V88 from (agr.tr (agr.tr (agr.tr (agr.tr (agr.tr (agr.tr (agr.tr agr.rf ajV8 (by decide) (by decide)) ajV15 (by decide) (by decide)) ajV23 (by decide) (by decide)) ajV29 (by decide) (by decide)) ajV44 (by decide) (by decide)) ajV55 (by decide) (by decide)) ajV88 (by decide) (by decide))) px97 (fun _ => rfl) (fun _ => rfl) (fun _ => rfl) (fun _ => rfl) (fun _ => rfl) (fun _ => rfl)
                    refine gA_int (gA_runV (As := [.int 1]) (rest := []) (ci := 1) (q0 := 1) hx hb hml hown hg hP hD hK hS hA hnw hgk (x_readE l D ks H.size ad kk V88 L89 Z 1 (b) hMV88 (by decide) (show b < 2 from by first | omega | ((try (have i_t54 := Imp.go t54 (by omega))); (try (have i_t42 := Imp.go t42 (by omega))); (try (have i_t14 := Imp.go t14 (by omega))); (try (have i_tx := Imp.go tx (by omega))); (try (have i_cd := Imp.go cd (by omega))); (try (have i_cd := Imp.go cd (by omega))); (try (have i_tx := Imp.go tx (by omega))); (try (have i_t14 := Imp.go t14 (by omega))); (try (have i_t42 := Imp.go t42 (by omega))); (try (have i_t54 := Imp.go t54 (by omega))); omega)) (show (V88 1 1).toInt = (b : Int) from by first | omega | ((try (have i_t54 := Imp.go t54 (by omega))); (try (have i_t42 := Imp.go t42 (by omega))); (try (have i_t14 := Imp.go t14 (by omega))); (try (have i_tx := Imp.go tx (by omega))); (try (have i_cd := Imp.go cd (by omega))); (try (have i_cd := Imp.go cd (by omega))); (try (have i_tx := Imp.go tx (by omega))); (try (have i_t14 := Imp.go t14 (by omega))); (try (have i_t42 := Imp.go t42 (by omega))); (try (have i_t54 := Imp.go t54 (by omega))); omega)) cd94 tx98) w947 w949 w20 w162 w950 rfl xgReader hdV_yX1_readE ⟨Nat.le_of_ble_eq_true rfl, Nat.le_of_ble_eq_true rfl⟩ rfl hl.1 rfl (Nat.le_of_ble_eq_true rfl) dX1_readWrap_184 ⟨Nat.le_of_ble_eq_true rfl, Nat.le_of_ble_eq_true rfl⟩) hP hD hK hS hA (fun z99 u100 H locs w101 hP hD hK hS => ?_)
                    obtain ⟨V105, L106⟩ := u100
                    obtain ⟨hMV105, ajV105, axL106, fyV105, rgz99, t102, t103, t104⟩ := w101
                    have alL106 : agL [6, 44] L L106 := agL.tr alL89 axL106 (by decide)
                    have hP : va_P D vwCl (xw ad kk V105 L106 Z) H := hP
                    have hD : va_D A (xw ad kk V105 L106 Z) := hD
                    have hMV105 : rgd bX V105 := hMV105
                    have ajV105 : agr [(1, 3), (1, 4), (1, 6), (1, 8), (6, 8), (6, 9), (6, 10)] [42, 43, 44, 48] V88 V105 := ajV105
                    have agV105 : agr [(1, 3), (1, 4), (1, 6), (1, 8), (6, 8), (6, 9), (6, 10)] [41, 42, 43, 44, 47, 48, 62, 63, 64, 65, 66] V V105 := agV88.tr ajV105 (by decide) (by decide)
                    have fwV105 : frX (xR b) V V105 := frX.tr fwV88 (fyV105)
                    have rgz99 : 0 ≤ z99.toInt ∧ z99.toInt ≤ 1 := rgz99
                    have t102 : TX V105 b := t102
                    have t103 : CD V105 b := t103
                    have t104 : px V88 V105 b := t104
                    refine lv_if_ne (tgt := 192) hx hb dX1_readWrap_187 (by decide) (fun c107 => ?_) (fun c107 => ?_)
                    · skip
                      have f108 : z99.toInt ≠ 0 := b_neq rfl (by decide) c107
                      refine lv_aload_n hx hb dX1_readWrap_192 rfl (lv_at hl 5 rfl) ?_
                      refine va_get (D := D) (ci := 1) (v := rfN ad 38 (V105 1 1)) (fs := (xfReader ad V105 L106 Z)) (C := RX1) (T := TX1) (N := 9) hx hb hg inX1 hown hK hP 1 xgReader rfl 1 (by decide) (hg _ w305) (fun _ h9 => h9) rfl dX1_readWrap_193 ?_
                      have pq109 : (V105 1 1).toInt = ((V 1 1)).toInt := congrArg Int32.toInt ((ajV105 1 1 rfl).trans ((ajV88 1 1 rfl).trans ((ajV55 1 1 rfl).trans ((ajV44 1 1 rfl).trans ((ajV29 1 1 rfl).trans ((ajV23 1 1 rfl).trans ((ajV15 1 1 rfl).trans (ajV8 1 1 rfl))))))))
                      refine g_topv (v := .ref (ad (38 + b))) (rfN_r (by first | omega | ((try (have i_t54 := Imp.go t54 (by omega))); (try (have i_t42 := Imp.go t42 (by omega))); (try (have i_t14 := Imp.go t14 (by omega))); (try (have i_tx := Imp.go tx (by omega))); (try (have i_cd := Imp.go cd (by omega))); (try (have i_cd := Imp.go cd (by omega))); (try (have i_tx := Imp.go tx (by omega))); (try (have i_t14 := Imp.go t14 (by omega))); (try (have i_t42 := Imp.go t42 (by omega))); (try (have i_t54 := Imp.go t54 (by omega))); omega))) ?_
                      refine lv_iload_n hx hb dX1_readWrap_196 rfl (lv_at hl 4 rfl) ?_
                      refine lv_iload_n hx hb dX1_readWrap_197 rfl (lv_at hl 3 rfl) ?_
                      refine lv_iload_n hx hb dX1_readWrap_198 rfl (lv_at hl 2 rfl) ?_
                      refine lv_iload hx hb dX1_readWrap_199 (lv_at hl 1 rfl) ?_
                      refine lv_iload hx hb dX1_readWrap_201 (lv_at hl 0 rfl) ?_
                      refine gA_void (gA_runV (As := [.int (V15 1 6), .int (V44 1 6), .int (V55 1 8), .int z79, .int (V 42 b)]) (rest := []) (ci := 0) (q0 := (38 + b)) hx hb hml hown hg hP hD hK hS hA hnw hgk (x_addWrap2 l D ks H.size ad kk V105 L106 Z (V15 1 6) (V44 1 6) (V55 1 8) z79 (V 42 b) (b) hMV105 (by first | omega | ((try (have i_t54 := Imp.go t54 (by omega))); (try (have i_t42 := Imp.go t42 (by omega))); (try (have i_t14 := Imp.go t14 (by omega))); (try (have i_tx := Imp.go tx (by omega))); (try (have i_cd := Imp.go cd (by omega))); (try (have i_cd := Imp.go cd (by omega))); (try (have i_tx := Imp.go tx (by omega))); (try (have i_t14 := Imp.go t14 (by omega))); (try (have i_t42 := Imp.go t42 (by omega))); (try (have i_t54 := Imp.go t54 (by omega))); omega)) (show b < 2 from by first | omega | ((try (have i_t54 := Imp.go t54 (by omega))); (try (have i_t42 := Imp.go t42 (by omega))); (try (have i_t14 := Imp.go t14 (by omega))); (try (have i_tx := Imp.go tx (by omega))); (try (have i_cd := Imp.go cd (by omega))); (try (have i_cd := Imp.go cd (by omega))); (try (have i_tx := Imp.go tx (by omega))); (try (have i_t14 := Imp.go t14 (by omega))); (try (have i_t42 := Imp.go t42 (by omega))); (try (have i_t54 := Imp.go t54 (by omega))); omega)) t102.2.2) w999 w1000 w1001 w167 w1002 rfl (xgBook hb2) hdV_yX0_addWrap ⟨Nat.le_of_ble_eq_true rfl, Nat.le_of_ble_eq_true rfl⟩ rfl hl.1 rfl (Nat.le_of_ble_eq_true rfl) dX1_readWrap_203 ⟨Nat.le_of_ble_eq_true rfl, Nat.le_of_ble_eq_true rfl⟩) hP hD hK hS hA (fun u111 H locs w112 hP hD hK hS => ?_)
                      obtain ⟨V117, L118⟩ := u111
                      obtain ⟨hMV117, ajV117, axL118, fyV117, t113, t114, t115, t116⟩ := w112
                      have axL118 : L106 = L118 := Eq.symm axL118
                      subst axL118
                      have hP : va_P D vwCl (xw ad kk V117 L106 Z) H := hP
                      have hD : va_D A (xw ad kk V117 L106 Z) := hD
                      have hMV117 : rgd bX V117 := hMV117
                      have ajV117 : agr [] [41, 47, 62, 63, 64, 65, 66] V105 V117 := ajV117
                      have agV117 : agr [(1, 3), (1, 4), (1, 6), (1, 8), (6, 8), (6, 9), (6, 10)] [41, 42, 43, 44, 47, 48, 62, 63, 64, 65, 66] V V117 := agV105.tr ajV117 (by decide) (by decide)
                      have fwV117 : frX (xR b) V V117 := frX.tr fwV105 (fyV117)
                      have t113 : Imp ((V105 41 b).toInt < 12) ((V117 41 b).toInt = (V105 41 b).toInt + 1) := t113
                      have t114 : Imp ((V105 41 b).toInt < 12) (∀ a : Nat, (a : Int) ≤ (V105 41 b).toInt → (V117 47 (12 * b + a)).toInt ≤ (V105 41 b).toInt) := t114
                      have t115 : Imp ((V105 41 b).toInt < 12) (∀ q : Nat, ¬ q = 12 * b + Int32.toNatClampNeg (V105 41 b) → V117 66 q = V105 66 q) := t115
                      have t116 : Imp ((V105 41 b).toInt < 12) (V117 66 (12 * b + Int32.toNatClampNeg (V105 41 b)) = (V 42 b)) := t116
                      have pq119 : (V105 41 b).toInt = ((V 41 b)).toInt := congrArg Int32.toInt ((ajV105 41 b rfl).trans ((ajV88 41 b rfl).trans ((ajV55 41 b rfl).trans ((ajV44 41 b rfl).trans ((ajV29 41 b rfl).trans ((ajV23 41 b rfl).trans ((ajV15 41 b rfl).trans (ajV8 41 b rfl))))))))
                      have k41 := i_clamp (x := V105 41 b) rfl (by have h9 : 0 ≤ (V105 41 b).toInt := (hMV105 41 b).1; omega)
                      have l41 : (V105 41 b).toInt < 12 := by omega
                      have cl120 : 0 ≤ (V55 42 b).toInt ∧ (V55 42 b).toInt ≤ 8200 := hMV55 42 b
                      have px121 : px V55 V88 b := px.tr (px.rf : px V55 V55 b) (px.ag (show agr [(6, 8), (6, 9), (6, 10)] [] V55 V88 from (agr.tr agr.rf ajV88 (by decide) (by decide))) (fun _ => rfl) (fun _ => rfl) (fun _ => rfl))
                      have px122 : px V55 V105 b := px.tr px121 t104
                      have g5 : gs V105 b (V55 42 b).toInt := (CB.gs cd82.1 (by omega)).up px122.1
                      have pq123 : (V55 42 b).toInt = ((V 42 b)).toInt := congrArg Int32.toInt ((ajV55 42 b rfl).trans ((ajV44 42 b rfl).trans ((ajV29 42 b rfl).trans ((ajV23 42 b rfl).trans ((ajV15 42 b rfl).trans (ajV8 42 b rfl))))))
                      have e5 := congrArg Int32.toInt (Imp.go t116 l41)
                      have tx124 : TX V117 b := TX.wrap (n := Int32.toNatClampNeg (V105 41 b)) t102 k41 (Imp.go t113 l41) (px.ag ajV117 (fun _ => rfl) (fun _ => rfl) (fun _ => rfl)) (fun _ => ajV117 56 _ rfl) (fun _ => ajV117 57 _ rfl) (fun _ => ajV117 61 _ rfl) (Imp.go t115 l41) (by rw [e5, show ((V 42 b)).toInt = (V55 42 b).toInt from by omega]; exact g5) (fun a ha => by have h9 := Imp.go t114 l41 a (by omega); omega)
                      refine lv_iconst (v := 1) hx hb dX1_readWrap_206 (by decide) ?_
                      have cd125 : CD V117 b := ⟨CB.ag t103.1 (show agr [] [41, 47, 62, 63, 64, 65, 66] V105 V117 from (agr.tr agr.rf ajV117 (by decide) (by decide))) (fun _ => rfl) (fun _ => rfl), CO.ag t103.2 (show agr [] [41, 47, 62, 63, 64, 65, 66] V105 V117 from (agr.tr agr.rf ajV117 (by decide) (by decide))) (fun _ => rfl) (fun _ => rfl)⟩
                      have px126 : px V V29 b := px.tr (px.rf : px V V b) (px.ag (show agr [(1, 3), (1, 6), (6, 8), (6, 9), (6, 10)] [] V V29 from (agr.tr (agr.tr (agr.tr (agr.tr agr.rf ajV8 (by decide) (by decide)) ajV15 (by decide) (by decide)) ajV23 (by decide) (by decide)) ajV29 (by decide) (by decide))) (fun _ => rfl) (fun _ => rfl) (fun _ => rfl))
                      have px127 : px V V44 b := px.tr px126 t43
                      have px128 : px V V88 b := px.tr px127 (px.ag (show agr [(1, 3), (1, 8), (6, 8), (6, 9), (6, 10)] [] V44 V88 from (agr.tr (agr.tr agr.rf ajV55 (by decide) (by decide)) ajV88 (by decide) (by decide))) (fun _ => rfl) (fun _ => rfl) (fun _ => rfl))
                      have px129 : px V V105 b := px.tr px128 t104
                      have px130 : px V V117 b := px.tr px129 (px.ag (show agr [] [41, 47, 62, 63, 64, 65, 66] V105 V117 from (agr.tr agr.rf ajV117 (by decide) (by decide))) (fun _ => rfl) (fun _ => rfl) (fun _ => rfl))
                      exact W.zret (v := 1) hx hb hr rfl (fun t ht hW => ⟨⟨1, (V117, L106), rfl, ⟨hMV117, agV117, alL106, fwV117, (by decide), tx124, cd125, px130⟩, by rw [ht]; exact hP, va_K.moved hW.alike hK, hD⟩, hS.F ht⟩) hS.2.2 dX1_readWrap_207
                    · skip
                      have f131 : z99.toInt = 0 := b_eq rfl (by decide) c107
                      refine lv_iconst (v := 0) hx hb dX1_readWrap_190 (by decide) ?_
                      have px132 : px V V29 b := px.tr (px.rf : px V V b) (px.ag (show agr [(1, 3), (1, 6), (6, 8), (6, 9), (6, 10)] [] V V29 from (agr.tr (agr.tr (agr.tr (agr.tr agr.rf ajV8 (by decide) (by decide)) ajV15 (by decide) (by decide)) ajV23 (by decide) (by decide)) ajV29 (by decide) (by decide))) (fun _ => rfl) (fun _ => rfl) (fun _ => rfl))
                      have px133 : px V V44 b := px.tr px132 t43
                      have px134 : px V V88 b := px.tr px133 (px.ag (show agr [(1, 3), (1, 8), (6, 8), (6, 9), (6, 10)] [] V44 V88 from (agr.tr (agr.tr agr.rf ajV55 (by decide) (by decide)) ajV88 (by decide) (by decide))) (fun _ => rfl) (fun _ => rfl) (fun _ => rfl))
                      have px135 : px V V105 b := px.tr px134 t104
                      exact W.zret (v := 0) hx hb hr rfl (fun t ht hW => ⟨⟨0, (V105, L106), rfl, ⟨hMV105, agV105, alL106, fwV105, (by decide), t102, t103, px135⟩, by rw [ht]; exact hP, va_K.moved hW.alike hK, hD⟩, hS.F ht⟩) hS.2.2 dX1_readWrap_191
                  · skip
                    have f136 : z79.toInt = 1 := b_eq rfl (by decide) c90
                    refine lv_iconst (v := 2) hx hb dX1_readWrap_179 (by decide) ?_
                    refine lv_goto (tgt := 184) hx hb dX1_readWrap_180 (by decide) ?_
                    have r137 : Int32.toInt 2 = 2 := by decide
                    have pq138 : (V88 1 1).toInt = ((V 1 1)).toInt := congrArg Int32.toInt ((ajV88 1 1 rfl).trans ((ajV55 1 1 rfl).trans ((ajV44 1 1 rfl).trans ((ajV29 1 1 rfl).trans ((ajV23 1 1 rfl).trans ((ajV15 1 1 rfl).trans (ajV8 1 1 rfl)))))))
                    have cd139 : CD V88 b := ⟨CB.ag cd.1 (show agr [(1, 3), (1, 6), (1, 8), (6, 8), (6, 9), (6, 10)] [43, 44] V V88 from (agr.tr (agr.tr (agr.tr (agr.tr (agr.tr (agr.tr (agr.tr agr.rf ajV8 (by decide) (by decide)) ajV15 (by decide) (by decide)) ajV23 (by decide) (by decide)) ajV29 (by decide) (by decide)) ajV44 (by decide) (by decide)) ajV55 (by decide) (by decide)) ajV88 (by decide) (by decide))) (fun _ => rfl) (fun _ => rfl), CO.ag cd.2 (show agr [(1, 3), (1, 6), (1, 8), (6, 8), (6, 9), (6, 10)] [43, 44] V V88 from (agr.tr (agr.tr (agr.tr (agr.tr (agr.tr (agr.tr (agr.tr agr.rf ajV8 (by decide) (by decide)) ajV15 (by decide) (by decide)) ajV23 (by decide) (by decide)) ajV29 (by decide) (by decide)) ajV44 (by decide) (by decide)) ajV55 (by decide) (by decide)) ajV88 (by decide) (by decide))) (fun _ => rfl) (fun _ => rfl)⟩
                    have px140 : px V V29 b := px.tr (px.rf : px V V b) (px.ag (show agr [(1, 3), (1, 6), (6, 8), (6, 9), (6, 10)] [] V V29 from (agr.tr (agr.tr (agr.tr (agr.tr agr.rf ajV8 (by decide) (by decide)) ajV15 (by decide) (by decide)) ajV23 (by decide) (by decide)) ajV29 (by decide) (by decide))) (fun _ => rfl) (fun _ => rfl) (fun _ => rfl))
                    have px141 : px V V44 b := px.tr px140 t43
                    have px142 : px V V88 b := px.tr px141 (px.ag (show agr [(1, 3), (1, 8), (6, 8), (6, 9), (6, 10)] [] V44 V88 from (agr.tr (agr.tr agr.rf ajV55 (by decide) (by decide)) ajV88 (by decide) (by decide))) (fun _ => rfl) (fun _ => rfl) (fun _ => rfl))
                    have tx143 : TX V88 b := TX.ag tx (show agr [(1, 3), (1, 6), (1, 8), (6, 8), (6, 9), (6, 10)] [43, 44] V V88 from (agr.tr (agr.tr (agr.tr (agr.tr (agr.tr (agr.tr (agr.tr agr.rf ajV8 (by decide) (by decide)) ajV15 (by decide) (by decide)) ajV23 (by decide) (by decide)) ajV29 (by decide) (by decide)) ajV44 (by decide) (by decide)) ajV55 (by decide) (by decide)) ajV88 (by decide) (by decide))) px142 (fun _ => rfl) (fun _ => rfl) (fun _ => rfl) (fun _ => rfl) (fun _ => rfl) (fun _ => rfl)
                    refine gA_int (gA_runV (As := [.int 2]) (rest := []) (ci := 1) (q0 := 1) hx hb hml hown hg hP hD hK hS hA hnw hgk (x_readE l D ks H.size ad kk V88 L89 Z 2 (b) hMV88 (by decide) (show b < 2 from by first | omega | ((try (have i_t54 := Imp.go t54 (by omega))); (try (have i_t42 := Imp.go t42 (by omega))); (try (have i_t14 := Imp.go t14 (by omega))); (try (have i_tx := Imp.go tx (by omega))); (try (have i_cd := Imp.go cd (by omega))); (try (have i_cd := Imp.go cd (by omega))); (try (have i_tx := Imp.go tx (by omega))); (try (have i_t14 := Imp.go t14 (by omega))); (try (have i_t42 := Imp.go t42 (by omega))); (try (have i_t54 := Imp.go t54 (by omega))); omega)) (show (V88 1 1).toInt = (b : Int) from by first | omega | ((try (have i_t54 := Imp.go t54 (by omega))); (try (have i_t42 := Imp.go t42 (by omega))); (try (have i_t14 := Imp.go t14 (by omega))); (try (have i_tx := Imp.go tx (by omega))); (try (have i_cd := Imp.go cd (by omega))); (try (have i_cd := Imp.go cd (by omega))); (try (have i_tx := Imp.go tx (by omega))); (try (have i_t14 := Imp.go t14 (by omega))); (try (have i_t42 := Imp.go t42 (by omega))); (try (have i_t54 := Imp.go t54 (by omega))); omega)) cd139 tx143) w947 w949 w20 w162 w950 rfl xgReader hdV_yX1_readE ⟨Nat.le_of_ble_eq_true rfl, Nat.le_of_ble_eq_true rfl⟩ rfl hl.1 rfl (Nat.le_of_ble_eq_true rfl) dX1_readWrap_184 ⟨Nat.le_of_ble_eq_true rfl, Nat.le_of_ble_eq_true rfl⟩) hP hD hK hS hA (fun z144 u145 H locs w146 hP hD hK hS => ?_)
                    obtain ⟨V150, L151⟩ := u145
                    obtain ⟨hMV150, ajV150, axL151, fyV150, rgz144, t147, t148, t149⟩ := w146
                    have alL151 : agL [6, 44] L L151 := agL.tr alL89 axL151 (by decide)
                    have hP : va_P D vwCl (xw ad kk V150 L151 Z) H := hP
                    have hD : va_D A (xw ad kk V150 L151 Z) := hD
                    have hMV150 : rgd bX V150 := hMV150
                    have ajV150 : agr [(1, 3), (1, 4), (1, 6), (1, 8), (6, 8), (6, 9), (6, 10)] [42, 43, 44, 48] V88 V150 := ajV150
                    have agV150 : agr [(1, 3), (1, 4), (1, 6), (1, 8), (6, 8), (6, 9), (6, 10)] [41, 42, 43, 44, 47, 48, 62, 63, 64, 65, 66] V V150 := agV88.tr ajV150 (by decide) (by decide)
                    have fwV150 : frX (xR b) V V150 := frX.tr fwV88 (fyV150)
                    have rgz144 : 0 ≤ z144.toInt ∧ z144.toInt ≤ 1 := rgz144
                    have t147 : TX V150 b := t147
                    have t148 : CD V150 b := t148
                    have t149 : px V88 V150 b := t149
                    refine lv_if_ne (tgt := 192) hx hb dX1_readWrap_187 (by decide) (fun c152 => ?_) (fun c152 => ?_)
                    · skip
                      have f153 : z144.toInt ≠ 0 := b_neq rfl (by decide) c152
                      refine lv_aload_n hx hb dX1_readWrap_192 rfl (lv_at hl 5 rfl) ?_
                      refine va_get (D := D) (ci := 1) (v := rfN ad 38 (V150 1 1)) (fs := (xfReader ad V150 L151 Z)) (C := RX1) (T := TX1) (N := 9) hx hb hg inX1 hown hK hP 1 xgReader rfl 1 (by decide) (hg _ w305) (fun _ h9 => h9) rfl dX1_readWrap_193 ?_
                      have pq154 : (V150 1 1).toInt = ((V 1 1)).toInt := congrArg Int32.toInt ((ajV150 1 1 rfl).trans ((ajV88 1 1 rfl).trans ((ajV55 1 1 rfl).trans ((ajV44 1 1 rfl).trans ((ajV29 1 1 rfl).trans ((ajV23 1 1 rfl).trans ((ajV15 1 1 rfl).trans (ajV8 1 1 rfl))))))))
                      refine g_topv (v := .ref (ad (38 + b))) (rfN_r (by first | omega | ((try (have i_t54 := Imp.go t54 (by omega))); (try (have i_t42 := Imp.go t42 (by omega))); (try (have i_t14 := Imp.go t14 (by omega))); (try (have i_tx := Imp.go tx (by omega))); (try (have i_cd := Imp.go cd (by omega))); (try (have i_cd := Imp.go cd (by omega))); (try (have i_tx := Imp.go tx (by omega))); (try (have i_t14 := Imp.go t14 (by omega))); (try (have i_t42 := Imp.go t42 (by omega))); (try (have i_t54 := Imp.go t54 (by omega))); omega))) ?_
                      refine lv_iload_n hx hb dX1_readWrap_196 rfl (lv_at hl 4 rfl) ?_
                      refine lv_iload_n hx hb dX1_readWrap_197 rfl (lv_at hl 3 rfl) ?_
                      refine lv_iload_n hx hb dX1_readWrap_198 rfl (lv_at hl 2 rfl) ?_
                      refine lv_iload hx hb dX1_readWrap_199 (lv_at hl 1 rfl) ?_
                      refine lv_iload hx hb dX1_readWrap_201 (lv_at hl 0 rfl) ?_
                      refine gA_void (gA_runV (As := [.int (V15 1 6), .int (V44 1 6), .int (V55 1 8), .int z79, .int (V 42 b)]) (rest := []) (ci := 0) (q0 := (38 + b)) hx hb hml hown hg hP hD hK hS hA hnw hgk (x_addWrap2 l D ks H.size ad kk V150 L151 Z (V15 1 6) (V44 1 6) (V55 1 8) z79 (V 42 b) (b) hMV150 (by first | omega | ((try (have i_t54 := Imp.go t54 (by omega))); (try (have i_t42 := Imp.go t42 (by omega))); (try (have i_t14 := Imp.go t14 (by omega))); (try (have i_tx := Imp.go tx (by omega))); (try (have i_cd := Imp.go cd (by omega))); (try (have i_cd := Imp.go cd (by omega))); (try (have i_tx := Imp.go tx (by omega))); (try (have i_t14 := Imp.go t14 (by omega))); (try (have i_t42 := Imp.go t42 (by omega))); (try (have i_t54 := Imp.go t54 (by omega))); omega)) (show b < 2 from by first | omega | ((try (have i_t54 := Imp.go t54 (by omega))); (try (have i_t42 := Imp.go t42 (by omega))); (try (have i_t14 := Imp.go t14 (by omega))); (try (have i_tx := Imp.go tx (by omega))); (try (have i_cd := Imp.go cd (by omega))); (try (have i_cd := Imp.go cd (by omega))); (try (have i_tx := Imp.go tx (by omega))); (try (have i_t14 := Imp.go t14 (by omega))); (try (have i_t42 := Imp.go t42 (by omega))); (try (have i_t54 := Imp.go t54 (by omega))); omega)) t147.2.2) w999 w1000 w1001 w167 w1002 rfl (xgBook hb2) hdV_yX0_addWrap ⟨Nat.le_of_ble_eq_true rfl, Nat.le_of_ble_eq_true rfl⟩ rfl hl.1 rfl (Nat.le_of_ble_eq_true rfl) dX1_readWrap_203 ⟨Nat.le_of_ble_eq_true rfl, Nat.le_of_ble_eq_true rfl⟩) hP hD hK hS hA (fun u156 H locs w157 hP hD hK hS => ?_)
                      obtain ⟨V162, L163⟩ := u156
                      obtain ⟨hMV162, ajV162, axL163, fyV162, t158, t159, t160, t161⟩ := w157
                      have axL163 : L151 = L163 := Eq.symm axL163
                      subst axL163
                      have hP : va_P D vwCl (xw ad kk V162 L151 Z) H := hP
                      have hD : va_D A (xw ad kk V162 L151 Z) := hD
                      have hMV162 : rgd bX V162 := hMV162
                      have ajV162 : agr [] [41, 47, 62, 63, 64, 65, 66] V150 V162 := ajV162
                      have agV162 : agr [(1, 3), (1, 4), (1, 6), (1, 8), (6, 8), (6, 9), (6, 10)] [41, 42, 43, 44, 47, 48, 62, 63, 64, 65, 66] V V162 := agV150.tr ajV162 (by decide) (by decide)
                      have fwV162 : frX (xR b) V V162 := frX.tr fwV150 (fyV162)
                      have t158 : Imp ((V150 41 b).toInt < 12) ((V162 41 b).toInt = (V150 41 b).toInt + 1) := t158
                      have t159 : Imp ((V150 41 b).toInt < 12) (∀ a : Nat, (a : Int) ≤ (V150 41 b).toInt → (V162 47 (12 * b + a)).toInt ≤ (V150 41 b).toInt) := t159
                      have t160 : Imp ((V150 41 b).toInt < 12) (∀ q : Nat, ¬ q = 12 * b + Int32.toNatClampNeg (V150 41 b) → V162 66 q = V150 66 q) := t160
                      have t161 : Imp ((V150 41 b).toInt < 12) (V162 66 (12 * b + Int32.toNatClampNeg (V150 41 b)) = (V 42 b)) := t161
                      have pq164 : (V150 41 b).toInt = ((V 41 b)).toInt := congrArg Int32.toInt ((ajV150 41 b rfl).trans ((ajV88 41 b rfl).trans ((ajV55 41 b rfl).trans ((ajV44 41 b rfl).trans ((ajV29 41 b rfl).trans ((ajV23 41 b rfl).trans ((ajV15 41 b rfl).trans (ajV8 41 b rfl))))))))
                      have k41 := i_clamp (x := V150 41 b) rfl (by have h9 : 0 ≤ (V150 41 b).toInt := (hMV150 41 b).1; omega)
                      have l41 : (V150 41 b).toInt < 12 := by omega
                      have cl165 : 0 ≤ (V55 42 b).toInt ∧ (V55 42 b).toInt ≤ 8200 := hMV55 42 b
                      have px166 : px V55 V88 b := px.tr (px.rf : px V55 V55 b) (px.ag (show agr [(6, 8), (6, 9), (6, 10)] [] V55 V88 from (agr.tr agr.rf ajV88 (by decide) (by decide))) (fun _ => rfl) (fun _ => rfl) (fun _ => rfl))
                      have px167 : px V55 V150 b := px.tr px166 t149
                      have g5 : gs V150 b (V55 42 b).toInt := (CB.gs cd82.1 (by omega)).up px167.1
                      have pq168 : (V55 42 b).toInt = ((V 42 b)).toInt := congrArg Int32.toInt ((ajV55 42 b rfl).trans ((ajV44 42 b rfl).trans ((ajV29 42 b rfl).trans ((ajV23 42 b rfl).trans ((ajV15 42 b rfl).trans (ajV8 42 b rfl))))))
                      have e5 := congrArg Int32.toInt (Imp.go t161 l41)
                      have tx169 : TX V162 b := TX.wrap (n := Int32.toNatClampNeg (V150 41 b)) t147 k41 (Imp.go t158 l41) (px.ag ajV162 (fun _ => rfl) (fun _ => rfl) (fun _ => rfl)) (fun _ => ajV162 56 _ rfl) (fun _ => ajV162 57 _ rfl) (fun _ => ajV162 61 _ rfl) (Imp.go t160 l41) (by rw [e5, show ((V 42 b)).toInt = (V55 42 b).toInt from by omega]; exact g5) (fun a ha => by have h9 := Imp.go t159 l41 a (by omega); omega)
                      refine lv_iconst (v := 1) hx hb dX1_readWrap_206 (by decide) ?_
                      have cd170 : CD V162 b := ⟨CB.ag t148.1 (show agr [] [41, 47, 62, 63, 64, 65, 66] V150 V162 from (agr.tr agr.rf ajV162 (by decide) (by decide))) (fun _ => rfl) (fun _ => rfl), CO.ag t148.2 (show agr [] [41, 47, 62, 63, 64, 65, 66] V150 V162 from (agr.tr agr.rf ajV162 (by decide) (by decide))) (fun _ => rfl) (fun _ => rfl)⟩
                      have px171 : px V V29 b := px.tr (px.rf : px V V b) (px.ag (show agr [(1, 3), (1, 6), (6, 8), (6, 9), (6, 10)] [] V V29 from (agr.tr (agr.tr (agr.tr (agr.tr agr.rf ajV8 (by decide) (by decide)) ajV15 (by decide) (by decide)) ajV23 (by decide) (by decide)) ajV29 (by decide) (by decide))) (fun _ => rfl) (fun _ => rfl) (fun _ => rfl))
                      have px172 : px V V44 b := px.tr px171 t43
                      have px173 : px V V88 b := px.tr px172 (px.ag (show agr [(1, 3), (1, 8), (6, 8), (6, 9), (6, 10)] [] V44 V88 from (agr.tr (agr.tr agr.rf ajV55 (by decide) (by decide)) ajV88 (by decide) (by decide))) (fun _ => rfl) (fun _ => rfl) (fun _ => rfl))
                      have px174 : px V V150 b := px.tr px173 t149
                      have px175 : px V V162 b := px.tr px174 (px.ag (show agr [] [41, 47, 62, 63, 64, 65, 66] V150 V162 from (agr.tr agr.rf ajV162 (by decide) (by decide))) (fun _ => rfl) (fun _ => rfl) (fun _ => rfl))
                      exact W.zret (v := 1) hx hb hr rfl (fun t ht hW => ⟨⟨1, (V162, L151), rfl, ⟨hMV162, agV162, alL151, fwV162, (by decide), tx169, cd170, px175⟩, by rw [ht]; exact hP, va_K.moved hW.alike hK, hD⟩, hS.F ht⟩) hS.2.2 dX1_readWrap_207
                    · skip
                      have f176 : z144.toInt = 0 := b_eq rfl (by decide) c152
                      refine lv_iconst (v := 0) hx hb dX1_readWrap_190 (by decide) ?_
                      have px177 : px V V29 b := px.tr (px.rf : px V V b) (px.ag (show agr [(1, 3), (1, 6), (6, 8), (6, 9), (6, 10)] [] V V29 from (agr.tr (agr.tr (agr.tr (agr.tr agr.rf ajV8 (by decide) (by decide)) ajV15 (by decide) (by decide)) ajV23 (by decide) (by decide)) ajV29 (by decide) (by decide))) (fun _ => rfl) (fun _ => rfl) (fun _ => rfl))
                      have px178 : px V V44 b := px.tr px177 t43
                      have px179 : px V V88 b := px.tr px178 (px.ag (show agr [(1, 3), (1, 8), (6, 8), (6, 9), (6, 10)] [] V44 V88 from (agr.tr (agr.tr agr.rf ajV55 (by decide) (by decide)) ajV88 (by decide) (by decide))) (fun _ => rfl) (fun _ => rfl) (fun _ => rfl))
                      have px180 : px V V150 b := px.tr px179 t149
                      exact W.zret (v := 0) hx hb hr rfl (fun t ht hW => ⟨⟨0, (V150, L151), rfl, ⟨hMV150, agV150, alL151, fwV150, (by decide), t147, t148, px180⟩, by rw [ht]; exact hP, va_K.moved hW.alike hK, hD⟩, hS.F ht⟩) hS.2.2 dX1_readWrap_191
                · skip
                  have f181 : z79.toInt = 1 := b_eq rfl (by decide) c80
                  refine lv_aload_n hx hb dX1_readWrap_138 rfl (lv_at hl 4 rfl) ?_
                  refine va_get (D := D) (ci := 1) (v := rfN ad 38 (V55 1 1)) (fs := (xfReader ad V55 L56 Z)) (C := RX1) (T := TX1) (N := 9) hx hb hg inX1 hown hK hP 1 xgReader rfl 1 (by decide) (hg _ w305) (fun _ h9 => h9) rfl dX1_readWrap_139 ?_
                  have pq182 : (V55 1 1).toInt = ((V 1 1)).toInt := congrArg Int32.toInt ((ajV55 1 1 rfl).trans ((ajV44 1 1 rfl).trans ((ajV29 1 1 rfl).trans ((ajV23 1 1 rfl).trans ((ajV15 1 1 rfl).trans (ajV8 1 1 rfl))))))
                  refine g_topv (v := .ref (ad (38 + b))) (rfN_r (by first | omega | ((try (have i_t54 := Imp.go t54 (by omega))); (try (have i_t42 := Imp.go t42 (by omega))); (try (have i_t14 := Imp.go t14 (by omega))); (try (have i_tx := Imp.go tx (by omega))); (try (have i_cd := Imp.go cd (by omega))); (try (have i_cd := Imp.go cd (by omega))); (try (have i_tx := Imp.go tx (by omega))); (try (have i_t14 := Imp.go t14 (by omega))); (try (have i_t42 := Imp.go t42 (by omega))); (try (have i_t54 := Imp.go t54 (by omega))); omega))) ?_
                  refine lv_iload_n hx hb dX1_readWrap_142 rfl (lv_at hl 2 rfl) ?_
                  refine gA_int (gA_runV (As := [.int (V44 1 6)]) (rest := []) (ci := 0) (q0 := (38 + b)) hx hb hml hown hg hP hD hK hS hA hnw hgk (x_aroundsOf l D ks H.size ad kk V55 L56 Z (V44 1 6) (b) hMV55 (show b < 2 from by first | omega | ((try (have i_t54 := Imp.go t54 (by omega))); (try (have i_t42 := Imp.go t42 (by omega))); (try (have i_t14 := Imp.go t14 (by omega))); (try (have i_tx := Imp.go tx (by omega))); (try (have i_cd := Imp.go cd (by omega))); (try (have i_cd := Imp.go cd (by omega))); (try (have i_tx := Imp.go tx (by omega))); (try (have i_t14 := Imp.go t14 (by omega))); (try (have i_t42 := Imp.go t42 (by omega))); (try (have i_t54 := Imp.go t54 (by omega))); omega))) w943 w944 w945 w167 w946 rfl (xgBook hb2) hdV_yX0_aroundsOf ⟨Nat.le_of_ble_eq_true rfl, Nat.le_of_ble_eq_true rfl⟩ rfl hl.1 rfl (Nat.le_of_ble_eq_true rfl) dX1_readWrap_143 ⟨Nat.le_of_ble_eq_true rfl, Nat.le_of_ble_eq_true rfl⟩) hP hD hK hS hA (fun z183 u184 H locs w185 hP hD hK hS => ?_)
                  refine lv_iconst (v := 2) hx hb dX1_readWrap_146 (by decide) ?_
                  refine lv_icmp_lt (tgt := 156) hx hb dX1_readWrap_147 (by decide) (fun c186 => ?_) (fun c186 => ?_)
                  · skip
                    have f187 : z183.toInt < 2 := b_lt rfl (by decide) c186
                    refine lv_aload_n hx hb dX1_readWrap_156 rfl (lv_at hl 4 rfl) ?_
                    have cd188 : CD V55 b := ⟨CB.ag cd.1 (show agr [(1, 3), (1, 6), (1, 8), (6, 8), (6, 9), (6, 10)] [43, 44] V V55 from (agr.tr (agr.tr (agr.tr (agr.tr (agr.tr (agr.tr agr.rf ajV8 (by decide) (by decide)) ajV15 (by decide) (by decide)) ajV23 (by decide) (by decide)) ajV29 (by decide) (by decide)) ajV44 (by decide) (by decide)) ajV55 (by decide) (by decide))) (fun _ => rfl) (fun _ => rfl), CO.ag cd.2 (show agr [(1, 3), (1, 6), (1, 8), (6, 8), (6, 9), (6, 10)] [43, 44] V V55 from (agr.tr (agr.tr (agr.tr (agr.tr (agr.tr (agr.tr agr.rf ajV8 (by decide) (by decide)) ajV15 (by decide) (by decide)) ajV23 (by decide) (by decide)) ajV29 (by decide) (by decide)) ajV44 (by decide) (by decide)) ajV55 (by decide) (by decide))) (fun _ => rfl) (fun _ => rfl)⟩
                    refine va_get (D := D) (ci := 1) (v := rfN ad 38 (V55 1 1)) (fs := (xfReader ad V55 L56 Z)) (C := RX1) (T := TX1) (N := 9) hx hb hg inX1 hown hK hP 1 xgReader rfl 1 (by decide) (hg _ w305) (fun _ h9 => h9) rfl dX1_readWrap_157 ?_
                    refine g_topv (v := .ref (ad (38 + b))) (rfN_r (by first | omega | ((try (have i_t54 := Imp.go t54 (by omega))); (try (have i_t42 := Imp.go t42 (by omega))); (try (have i_t14 := Imp.go t14 (by omega))); (try (have i_tx := Imp.go tx (by omega))); (try (have i_cd := Imp.go cd (by omega))); (try (have i_cd := Imp.go cd (by omega))); (try (have i_tx := Imp.go tx (by omega))); (try (have i_t14 := Imp.go t14 (by omega))); (try (have i_t42 := Imp.go t42 (by omega))); (try (have i_t54 := Imp.go t54 (by omega))); omega))) ?_
                    refine va_getN (D := D) (ci := 0) (v := .int (V55 42 b)) (fs := (xfBook ad V55 b)) (C := RX0) (T := TX0) (N := 13) hx hb hg inX0 hown hK hP (38 + b) (xgBook hb2) rfl 12 (by decide) (hnw.use 630 n630 rfl) (fun _ h9 => h9) rfl dX1_readWrap_160 ?_
                    refine g_top (v := (V 42 b)) ((ajV55 42 b rfl).trans ((ajV44 42 b rfl).trans ((ajV29 42 b rfl).trans ((ajV23 42 b rfl).trans ((ajV15 42 b rfl).trans (ajV8 42 b rfl)))))) ?_
                    have r189 : 0 ≤ ((V 42 b)).toInt ∧ ((V 42 b)).toInt ≤ 8200 := hMV 42 b
                    refine lv_istore (lv' := [(5, .int (V 42 b)), (4, .int z79), (3, .int (V55 1 8)), (2, .int (V44 1 6)), (1, .int (V15 1 6)), (0, .ref (ad 1))]) hx hb dX1_readWrap_163 hl (by decide) rfl (fun ls hl => ?_)
                    refine lv_aload_n hx hb dX1_readWrap_165 rfl (lv_at hl 5 rfl) ?_
                    refine va_get (D := D) (ci := 1) (v := .ref (ad 6)) (fs := (xfReader ad V55 L56 Z)) (C := RX1) (T := TX1) (N := 9) hx hb hg inX1 hown hK hP 1 xgReader rfl 0 (by decide) (hg _ w304) (fun _ h9 => h9) rfl dX1_readWrap_166 ?_
                    refine gA_void (gA_runV (As := []) (rest := []) (ci := 9) (q0 := 6) hx hb hml hown hg hP hD hK hS hA hnw hgk (x_next l D ks H.size ad kk V55 L56 Z  hMV55 ) w871 w852 w853 w157 w854 rfl xgTape hdV_yX9_next ⟨Nat.le_of_ble_eq_true rfl, Nat.le_of_ble_eq_true rfl⟩ rfl hl.1 rfl (Nat.le_of_ble_eq_true rfl) dX1_readWrap_169 ⟨Nat.le_of_ble_eq_true rfl, Nat.le_of_ble_eq_true rfl⟩) hP hD hK hS hA (fun u191 H locs w192 hP hD hK hS => ?_)
                    obtain ⟨V193, L194⟩ := u191
                    obtain ⟨hMV193, ajV193, axL194⟩ := w192
                    have alL194 : agL [6, 44] L L194 := agL.tr alL56 axL194 (by decide)
                    have hP : va_P D vwCl (xw ad kk V193 L194 Z) H := hP
                    have hD : va_D A (xw ad kk V193 L194 Z) := hD
                    have hMV193 : rgd bX V193 := hMV193
                    have ajV193 : agr [(6, 8), (6, 9), (6, 10)] [] V55 V193 := ajV193
                    have agV193 : agr [(1, 3), (1, 4), (1, 6), (1, 8), (6, 8), (6, 9), (6, 10)] [41, 42, 43, 44, 47, 48, 62, 63, 64, 65, 66] V V193 := agV55.tr ajV193 (by decide) (by decide)
                    have fwV193 : frX (xR b) V V193 := frX.tr fwV55 (frX.ag ajV193 (by decide) (by decide))
                    refine lv_aload_n hx hb dX1_readWrap_172 rfl (lv_at hl 5 rfl) ?_
                    refine lv_iload hx hb dX1_readWrap_173 (lv_at hl 1 rfl) ?_
                    refine lv_iconst (v := 1) hx hb dX1_readWrap_175 (by decide) ?_
                    refine lv_icmp_ne (tgt := 183) hx hb dX1_readWrap_176 (by decide) (fun c195 => ?_) (fun c195 => ?_)
                    · skip
                      have f196 : z79.toInt ≠ 1 := b_neq rfl (by decide) c195
                      exfalso; first | omega | ((try (have i_t54 := Imp.go t54 (by omega))); (try (have i_t42 := Imp.go t42 (by omega))); (try (have i_t14 := Imp.go t14 (by omega))); (try (have i_tx := Imp.go tx (by omega))); (try (have i_cd := Imp.go cd (by omega))); (try (have i_cd := Imp.go cd (by omega))); (try (have i_tx := Imp.go tx (by omega))); (try (have i_t14 := Imp.go t14 (by omega))); (try (have i_t42 := Imp.go t42 (by omega))); (try (have i_t54 := Imp.go t54 (by omega))); omega)
                    · skip
                      have f197 : z79.toInt = 1 := b_eq rfl (by decide) c195
                      refine lv_iconst (v := 2) hx hb dX1_readWrap_179 (by decide) ?_
                      refine lv_goto (tgt := 184) hx hb dX1_readWrap_180 (by decide) ?_
                      have r198 : Int32.toInt 2 = 2 := by decide
                      have pq199 : (V193 1 1).toInt = ((V 1 1)).toInt := congrArg Int32.toInt ((ajV193 1 1 rfl).trans ((ajV55 1 1 rfl).trans ((ajV44 1 1 rfl).trans ((ajV29 1 1 rfl).trans ((ajV23 1 1 rfl).trans ((ajV15 1 1 rfl).trans (ajV8 1 1 rfl)))))))
                      have cd200 : CD V193 b := ⟨CB.ag cd.1 (show agr [(1, 3), (1, 6), (1, 8), (6, 8), (6, 9), (6, 10)] [43, 44] V V193 from (agr.tr (agr.tr (agr.tr (agr.tr (agr.tr (agr.tr (agr.tr agr.rf ajV8 (by decide) (by decide)) ajV15 (by decide) (by decide)) ajV23 (by decide) (by decide)) ajV29 (by decide) (by decide)) ajV44 (by decide) (by decide)) ajV55 (by decide) (by decide)) ajV193 (by decide) (by decide))) (fun _ => rfl) (fun _ => rfl), CO.ag cd.2 (show agr [(1, 3), (1, 6), (1, 8), (6, 8), (6, 9), (6, 10)] [43, 44] V V193 from (agr.tr (agr.tr (agr.tr (agr.tr (agr.tr (agr.tr (agr.tr agr.rf ajV8 (by decide) (by decide)) ajV15 (by decide) (by decide)) ajV23 (by decide) (by decide)) ajV29 (by decide) (by decide)) ajV44 (by decide) (by decide)) ajV55 (by decide) (by decide)) ajV193 (by decide) (by decide))) (fun _ => rfl) (fun _ => rfl)⟩
                      have px201 : px V V29 b := px.tr (px.rf : px V V b) (px.ag (show agr [(1, 3), (1, 6), (6, 8), (6, 9), (6, 10)] [] V V29 from (agr.tr (agr.tr (agr.tr (agr.tr agr.rf ajV8 (by decide) (by decide)) ajV15 (by decide) (by decide)) ajV23 (by decide) (by decide)) ajV29 (by decide) (by decide))) (fun _ => rfl) (fun _ => rfl) (fun _ => rfl))
                      have px202 : px V V44 b := px.tr px201 t43
                      have px203 : px V V193 b := px.tr px202 (px.ag (show agr [(1, 3), (1, 8), (6, 8), (6, 9), (6, 10)] [] V44 V193 from (agr.tr (agr.tr agr.rf ajV55 (by decide) (by decide)) ajV193 (by decide) (by decide))) (fun _ => rfl) (fun _ => rfl) (fun _ => rfl))
                      have tx204 : TX V193 b := TX.ag tx (show agr [(1, 3), (1, 6), (1, 8), (6, 8), (6, 9), (6, 10)] [43, 44] V V193 from (agr.tr (agr.tr (agr.tr (agr.tr (agr.tr (agr.tr (agr.tr agr.rf ajV8 (by decide) (by decide)) ajV15 (by decide) (by decide)) ajV23 (by decide) (by decide)) ajV29 (by decide) (by decide)) ajV44 (by decide) (by decide)) ajV55 (by decide) (by decide)) ajV193 (by decide) (by decide))) px203 (fun _ => rfl) (fun _ => rfl) (fun _ => rfl) (fun _ => rfl) (fun _ => rfl) (fun _ => rfl)
                      refine gA_int (gA_runV (As := [.int 2]) (rest := []) (ci := 1) (q0 := 1) hx hb hml hown hg hP hD hK hS hA hnw hgk (x_readE l D ks H.size ad kk V193 L194 Z 2 (b) hMV193 (by decide) (show b < 2 from by first | omega | ((try (have i_t54 := Imp.go t54 (by omega))); (try (have i_t42 := Imp.go t42 (by omega))); (try (have i_t14 := Imp.go t14 (by omega))); (try (have i_tx := Imp.go tx (by omega))); (try (have i_cd := Imp.go cd (by omega))); (try (have i_cd := Imp.go cd (by omega))); (try (have i_tx := Imp.go tx (by omega))); (try (have i_t14 := Imp.go t14 (by omega))); (try (have i_t42 := Imp.go t42 (by omega))); (try (have i_t54 := Imp.go t54 (by omega))); omega)) (show (V193 1 1).toInt = (b : Int) from by first | omega | ((try (have i_t54 := Imp.go t54 (by omega))); (try (have i_t42 := Imp.go t42 (by omega))); (try (have i_t14 := Imp.go t14 (by omega))); (try (have i_tx := Imp.go tx (by omega))); (try (have i_cd := Imp.go cd (by omega))); (try (have i_cd := Imp.go cd (by omega))); (try (have i_tx := Imp.go tx (by omega))); (try (have i_t14 := Imp.go t14 (by omega))); (try (have i_t42 := Imp.go t42 (by omega))); (try (have i_t54 := Imp.go t54 (by omega))); omega)) cd200 tx204) w947 w949 w20 w162 w950 rfl xgReader hdV_yX1_readE ⟨Nat.le_of_ble_eq_true rfl, Nat.le_of_ble_eq_true rfl⟩ rfl hl.1 rfl (Nat.le_of_ble_eq_true rfl) dX1_readWrap_184 ⟨Nat.le_of_ble_eq_true rfl, Nat.le_of_ble_eq_true rfl⟩) hP hD hK hS hA (fun z205 u206 H locs w207 hP hD hK hS => ?_)
                      obtain ⟨V211, L212⟩ := u206
                      obtain ⟨hMV211, ajV211, axL212, fyV211, rgz205, t208, t209, t210⟩ := w207
                      have alL212 : agL [6, 44] L L212 := agL.tr alL194 axL212 (by decide)
                      have hP : va_P D vwCl (xw ad kk V211 L212 Z) H := hP
                      have hD : va_D A (xw ad kk V211 L212 Z) := hD
                      have hMV211 : rgd bX V211 := hMV211
                      have ajV211 : agr [(1, 3), (1, 4), (1, 6), (1, 8), (6, 8), (6, 9), (6, 10)] [42, 43, 44, 48] V193 V211 := ajV211
                      have agV211 : agr [(1, 3), (1, 4), (1, 6), (1, 8), (6, 8), (6, 9), (6, 10)] [41, 42, 43, 44, 47, 48, 62, 63, 64, 65, 66] V V211 := agV193.tr ajV211 (by decide) (by decide)
                      have fwV211 : frX (xR b) V V211 := frX.tr fwV193 (fyV211)
                      have rgz205 : 0 ≤ z205.toInt ∧ z205.toInt ≤ 1 := rgz205
                      have t208 : TX V211 b := t208
                      have t209 : CD V211 b := t209
                      have t210 : px V193 V211 b := t210
                      refine lv_if_ne (tgt := 192) hx hb dX1_readWrap_187 (by decide) (fun c213 => ?_) (fun c213 => ?_)
                      · skip
                        have f214 : z205.toInt ≠ 0 := b_neq rfl (by decide) c213
                        refine lv_aload_n hx hb dX1_readWrap_192 rfl (lv_at hl 5 rfl) ?_
                        refine va_get (D := D) (ci := 1) (v := rfN ad 38 (V211 1 1)) (fs := (xfReader ad V211 L212 Z)) (C := RX1) (T := TX1) (N := 9) hx hb hg inX1 hown hK hP 1 xgReader rfl 1 (by decide) (hg _ w305) (fun _ h9 => h9) rfl dX1_readWrap_193 ?_
                        have pq215 : (V211 1 1).toInt = ((V 1 1)).toInt := congrArg Int32.toInt ((ajV211 1 1 rfl).trans ((ajV193 1 1 rfl).trans ((ajV55 1 1 rfl).trans ((ajV44 1 1 rfl).trans ((ajV29 1 1 rfl).trans ((ajV23 1 1 rfl).trans ((ajV15 1 1 rfl).trans (ajV8 1 1 rfl))))))))
                        refine g_topv (v := .ref (ad (38 + b))) (rfN_r (by first | omega | ((try (have i_t54 := Imp.go t54 (by omega))); (try (have i_t42 := Imp.go t42 (by omega))); (try (have i_t14 := Imp.go t14 (by omega))); (try (have i_tx := Imp.go tx (by omega))); (try (have i_cd := Imp.go cd (by omega))); (try (have i_cd := Imp.go cd (by omega))); (try (have i_tx := Imp.go tx (by omega))); (try (have i_t14 := Imp.go t14 (by omega))); (try (have i_t42 := Imp.go t42 (by omega))); (try (have i_t54 := Imp.go t54 (by omega))); omega))) ?_
                        refine lv_iload_n hx hb dX1_readWrap_196 rfl (lv_at hl 4 rfl) ?_
                        refine lv_iload_n hx hb dX1_readWrap_197 rfl (lv_at hl 3 rfl) ?_
                        refine lv_iload_n hx hb dX1_readWrap_198 rfl (lv_at hl 2 rfl) ?_
                        refine lv_iload hx hb dX1_readWrap_199 (lv_at hl 1 rfl) ?_
                        refine lv_iload hx hb dX1_readWrap_201 (lv_at hl 0 rfl) ?_
                        refine gA_void (gA_runV (As := [.int (V15 1 6), .int (V44 1 6), .int (V55 1 8), .int z79, .int (V 42 b)]) (rest := []) (ci := 0) (q0 := (38 + b)) hx hb hml hown hg hP hD hK hS hA hnw hgk (x_addWrap2 l D ks H.size ad kk V211 L212 Z (V15 1 6) (V44 1 6) (V55 1 8) z79 (V 42 b) (b) hMV211 (by first | omega | ((try (have i_t54 := Imp.go t54 (by omega))); (try (have i_t42 := Imp.go t42 (by omega))); (try (have i_t14 := Imp.go t14 (by omega))); (try (have i_tx := Imp.go tx (by omega))); (try (have i_cd := Imp.go cd (by omega))); (try (have i_cd := Imp.go cd (by omega))); (try (have i_tx := Imp.go tx (by omega))); (try (have i_t14 := Imp.go t14 (by omega))); (try (have i_t42 := Imp.go t42 (by omega))); (try (have i_t54 := Imp.go t54 (by omega))); omega)) (show b < 2 from by first | omega | ((try (have i_t54 := Imp.go t54 (by omega))); (try (have i_t42 := Imp.go t42 (by omega))); (try (have i_t14 := Imp.go t14 (by omega))); (try (have i_tx := Imp.go tx (by omega))); (try (have i_cd := Imp.go cd (by omega))); (try (have i_cd := Imp.go cd (by omega))); (try (have i_tx := Imp.go tx (by omega))); (try (have i_t14 := Imp.go t14 (by omega))); (try (have i_t42 := Imp.go t42 (by omega))); (try (have i_t54 := Imp.go t54 (by omega))); omega)) t208.2.2) w999 w1000 w1001 w167 w1002 rfl (xgBook hb2) hdV_yX0_addWrap ⟨Nat.le_of_ble_eq_true rfl, Nat.le_of_ble_eq_true rfl⟩ rfl hl.1 rfl (Nat.le_of_ble_eq_true rfl) dX1_readWrap_203 ⟨Nat.le_of_ble_eq_true rfl, Nat.le_of_ble_eq_true rfl⟩) hP hD hK hS hA (fun u217 H locs w218 hP hD hK hS => ?_)
                        obtain ⟨V223, L224⟩ := u217
                        obtain ⟨hMV223, ajV223, axL224, fyV223, t219, t220, t221, t222⟩ := w218
                        have axL224 : L212 = L224 := Eq.symm axL224
                        subst axL224
                        have hP : va_P D vwCl (xw ad kk V223 L212 Z) H := hP
                        have hD : va_D A (xw ad kk V223 L212 Z) := hD
                        have hMV223 : rgd bX V223 := hMV223
                        have ajV223 : agr [] [41, 47, 62, 63, 64, 65, 66] V211 V223 := ajV223
                        have agV223 : agr [(1, 3), (1, 4), (1, 6), (1, 8), (6, 8), (6, 9), (6, 10)] [41, 42, 43, 44, 47, 48, 62, 63, 64, 65, 66] V V223 := agV211.tr ajV223 (by decide) (by decide)
                        have fwV223 : frX (xR b) V V223 := frX.tr fwV211 (fyV223)
                        have t219 : Imp ((V211 41 b).toInt < 12) ((V223 41 b).toInt = (V211 41 b).toInt + 1) := t219
                        have t220 : Imp ((V211 41 b).toInt < 12) (∀ a : Nat, (a : Int) ≤ (V211 41 b).toInt → (V223 47 (12 * b + a)).toInt ≤ (V211 41 b).toInt) := t220
                        have t221 : Imp ((V211 41 b).toInt < 12) (∀ q : Nat, ¬ q = 12 * b + Int32.toNatClampNeg (V211 41 b) → V223 66 q = V211 66 q) := t221
                        have t222 : Imp ((V211 41 b).toInt < 12) (V223 66 (12 * b + Int32.toNatClampNeg (V211 41 b)) = (V 42 b)) := t222
                        have pq225 : (V211 41 b).toInt = ((V 41 b)).toInt := congrArg Int32.toInt ((ajV211 41 b rfl).trans ((ajV193 41 b rfl).trans ((ajV55 41 b rfl).trans ((ajV44 41 b rfl).trans ((ajV29 41 b rfl).trans ((ajV23 41 b rfl).trans ((ajV15 41 b rfl).trans (ajV8 41 b rfl))))))))
                        have k41 := i_clamp (x := V211 41 b) rfl (by have h9 : 0 ≤ (V211 41 b).toInt := (hMV211 41 b).1; omega)
                        have l41 : (V211 41 b).toInt < 12 := by omega
                        have cl226 : 0 ≤ (V55 42 b).toInt ∧ (V55 42 b).toInt ≤ 8200 := hMV55 42 b
                        have px227 : px V55 V193 b := px.tr (px.rf : px V55 V55 b) (px.ag (show agr [(6, 8), (6, 9), (6, 10)] [] V55 V193 from (agr.tr agr.rf ajV193 (by decide) (by decide))) (fun _ => rfl) (fun _ => rfl) (fun _ => rfl))
                        have px228 : px V55 V211 b := px.tr px227 t210
                        have g5 : gs V211 b (V55 42 b).toInt := (CB.gs cd188.1 (by omega)).up px228.1
                        have pq229 : (V55 42 b).toInt = ((V 42 b)).toInt := congrArg Int32.toInt ((ajV55 42 b rfl).trans ((ajV44 42 b rfl).trans ((ajV29 42 b rfl).trans ((ajV23 42 b rfl).trans ((ajV15 42 b rfl).trans (ajV8 42 b rfl))))))
                        have e5 := congrArg Int32.toInt (Imp.go t222 l41)
                        have tx230 : TX V223 b := TX.wrap (n := Int32.toNatClampNeg (V211 41 b)) t208 k41 (Imp.go t219 l41) (px.ag ajV223 (fun _ => rfl) (fun _ => rfl) (fun _ => rfl)) (fun _ => ajV223 56 _ rfl) (fun _ => ajV223 57 _ rfl) (fun _ => ajV223 61 _ rfl) (Imp.go t221 l41) (by rw [e5, show ((V 42 b)).toInt = (V55 42 b).toInt from by omega]; exact g5) (fun a ha => by have h9 := Imp.go t220 l41 a (by omega); omega)
                        refine lv_iconst (v := 1) hx hb dX1_readWrap_206 (by decide) ?_
                        have cd231 : CD V223 b := ⟨CB.ag t209.1 (show agr [] [41, 47, 62, 63, 64, 65, 66] V211 V223 from (agr.tr agr.rf ajV223 (by decide) (by decide))) (fun _ => rfl) (fun _ => rfl), CO.ag t209.2 (show agr [] [41, 47, 62, 63, 64, 65, 66] V211 V223 from (agr.tr agr.rf ajV223 (by decide) (by decide))) (fun _ => rfl) (fun _ => rfl)⟩
                        have px232 : px V V29 b := px.tr (px.rf : px V V b) (px.ag (show agr [(1, 3), (1, 6), (6, 8), (6, 9), (6, 10)] [] V V29 from (agr.tr (agr.tr (agr.tr (agr.tr agr.rf ajV8 (by decide) (by decide)) ajV15 (by decide) (by decide)) ajV23 (by decide) (by decide)) ajV29 (by decide) (by decide))) (fun _ => rfl) (fun _ => rfl) (fun _ => rfl))
                        have px233 : px V V44 b := px.tr px232 t43
                        have px234 : px V V193 b := px.tr px233 (px.ag (show agr [(1, 3), (1, 8), (6, 8), (6, 9), (6, 10)] [] V44 V193 from (agr.tr (agr.tr agr.rf ajV55 (by decide) (by decide)) ajV193 (by decide) (by decide))) (fun _ => rfl) (fun _ => rfl) (fun _ => rfl))
                        have px235 : px V V211 b := px.tr px234 t210
                        have px236 : px V V223 b := px.tr px235 (px.ag (show agr [] [41, 47, 62, 63, 64, 65, 66] V211 V223 from (agr.tr agr.rf ajV223 (by decide) (by decide))) (fun _ => rfl) (fun _ => rfl) (fun _ => rfl))
                        exact W.zret (v := 1) hx hb hr rfl (fun t ht hW => ⟨⟨1, (V223, L212), rfl, ⟨hMV223, agV223, alL212, fwV223, (by decide), tx230, cd231, px236⟩, by rw [ht]; exact hP, va_K.moved hW.alike hK, hD⟩, hS.F ht⟩) hS.2.2 dX1_readWrap_207
                      · skip
                        have f237 : z205.toInt = 0 := b_eq rfl (by decide) c213
                        refine lv_iconst (v := 0) hx hb dX1_readWrap_190 (by decide) ?_
                        have px238 : px V V29 b := px.tr (px.rf : px V V b) (px.ag (show agr [(1, 3), (1, 6), (6, 8), (6, 9), (6, 10)] [] V V29 from (agr.tr (agr.tr (agr.tr (agr.tr agr.rf ajV8 (by decide) (by decide)) ajV15 (by decide) (by decide)) ajV23 (by decide) (by decide)) ajV29 (by decide) (by decide))) (fun _ => rfl) (fun _ => rfl) (fun _ => rfl))
                        have px239 : px V V44 b := px.tr px238 t43
                        have px240 : px V V193 b := px.tr px239 (px.ag (show agr [(1, 3), (1, 8), (6, 8), (6, 9), (6, 10)] [] V44 V193 from (agr.tr (agr.tr agr.rf ajV55 (by decide) (by decide)) ajV193 (by decide) (by decide))) (fun _ => rfl) (fun _ => rfl) (fun _ => rfl))
                        have px241 : px V V211 b := px.tr px240 t210
                        exact W.zret (v := 0) hx hb hr rfl (fun t ht hW => ⟨⟨0, (V211, L212), rfl, ⟨hMV211, agV211, alL212, fwV211, (by decide), t208, t209, px241⟩, by rw [ht]; exact hP, va_K.moved hW.alike hK, hD⟩, hS.F ht⟩) hS.2.2 dX1_readWrap_191
                  · skip
                    have f242 : 2 ≤ z183.toInt := b_nlt rfl (by decide) c186
                    refine lv_aload_n hx hb dX1_readWrap_150 rfl (lv_at hl 4 rfl) ?_
                    refine lv_iconst (v := 5) hx hb dX1_readWrap_151 (by decide) ?_
                    have r243 : Int32.toInt 5 = 5 := by decide
                    refine gA_int (gA_runV (As := [.int 5]) (rest := []) (ci := 1) (q0 := 1) hx hb hml hown hg hP hD hK hS hA hnw hgk (x_wrong l D ks H.size ad kk V55 L56 Z 5 hMV55 ) w867 w869 w6 w162 w870 rfl xgReader hdV_yX1_wrong ⟨Nat.le_of_ble_eq_true rfl, Nat.le_of_ble_eq_true rfl⟩ rfl hl.1 rfl (Nat.le_of_ble_eq_true rfl) dX1_readWrap_152 ⟨Nat.le_of_ble_eq_true rfl, Nat.le_of_ble_eq_true rfl⟩) hP hD hK hS hA (fun z244 u245 H locs w246 hP hD hK hS => ?_)
                    obtain ⟨V247, L248⟩ := u245
                    obtain ⟨hMV247, ajV247, axL248, rgz244⟩ := w246
                    have axL248 : L56 = L248 := Eq.symm axL248
                    subst axL248
                    have hP : va_P D vwCl (xw ad kk V247 L56 Z) H := hP
                    have hD : va_D A (xw ad kk V247 L56 Z) := hD
                    have hMV247 : rgd bX V247 := hMV247
                    have ajV247 : agr [(1, 3)] [] V55 V247 := ajV247
                    have agV247 : agr [(1, 3), (1, 4), (1, 6), (1, 8), (6, 8), (6, 9), (6, 10)] [41, 42, 43, 44, 47, 48, 62, 63, 64, 65, 66] V V247 := agV55.tr ajV247 (by decide) (by decide)
                    have fwV247 : frX (xR b) V V247 := frX.tr fwV55 (frX.ag ajV247 (by decide) (by decide))
                    have rgz244 : 0 ≤ z244.toInt ∧ z244.toInt ≤ 0 := rgz244
                    have px249 : px V V29 b := px.tr (px.rf : px V V b) (px.ag (show agr [(1, 3), (1, 6), (6, 8), (6, 9), (6, 10)] [] V V29 from (agr.tr (agr.tr (agr.tr (agr.tr agr.rf ajV8 (by decide) (by decide)) ajV15 (by decide) (by decide)) ajV23 (by decide) (by decide)) ajV29 (by decide) (by decide))) (fun _ => rfl) (fun _ => rfl) (fun _ => rfl))
                    have px250 : px V V44 b := px.tr px249 t43
                    have px251 : px V V247 b := px.tr px250 (px.ag (show agr [(1, 3), (1, 8), (6, 8), (6, 9), (6, 10)] [] V44 V247 from (agr.tr (agr.tr agr.rf ajV55 (by decide) (by decide)) ajV247 (by decide) (by decide))) (fun _ => rfl) (fun _ => rfl) (fun _ => rfl))
                    have tx252 : TX V247 b := TX.ag tx (show agr [(1, 3), (1, 6), (1, 8), (6, 8), (6, 9), (6, 10)] [43, 44] V V247 from (agr.tr (agr.tr (agr.tr (agr.tr (agr.tr (agr.tr (agr.tr agr.rf ajV8 (by decide) (by decide)) ajV15 (by decide) (by decide)) ajV23 (by decide) (by decide)) ajV29 (by decide) (by decide)) ajV44 (by decide) (by decide)) ajV55 (by decide) (by decide)) ajV247 (by decide) (by decide))) px251 (fun _ => rfl) (fun _ => rfl) (fun _ => rfl) (fun _ => rfl) (fun _ => rfl) (fun _ => rfl)
                    have cd253 : CD V247 b := ⟨CB.ag cd.1 (show agr [(1, 3), (1, 6), (1, 8), (6, 8), (6, 9), (6, 10)] [43, 44] V V247 from (agr.tr (agr.tr (agr.tr (agr.tr (agr.tr (agr.tr (agr.tr agr.rf ajV8 (by decide) (by decide)) ajV15 (by decide) (by decide)) ajV23 (by decide) (by decide)) ajV29 (by decide) (by decide)) ajV44 (by decide) (by decide)) ajV55 (by decide) (by decide)) ajV247 (by decide) (by decide))) (fun _ => rfl) (fun _ => rfl), CO.ag cd.2 (show agr [(1, 3), (1, 6), (1, 8), (6, 8), (6, 9), (6, 10)] [43, 44] V V247 from (agr.tr (agr.tr (agr.tr (agr.tr (agr.tr (agr.tr (agr.tr agr.rf ajV8 (by decide) (by decide)) ajV15 (by decide) (by decide)) ajV23 (by decide) (by decide)) ajV29 (by decide) (by decide)) ajV44 (by decide) (by decide)) ajV55 (by decide) (by decide)) ajV247 (by decide) (by decide))) (fun _ => rfl) (fun _ => rfl)⟩
                    have px254 : px V V29 b := px.tr (px.rf : px V V b) (px.ag (show agr [(1, 3), (1, 6), (6, 8), (6, 9), (6, 10)] [] V V29 from (agr.tr (agr.tr (agr.tr (agr.tr agr.rf ajV8 (by decide) (by decide)) ajV15 (by decide) (by decide)) ajV23 (by decide) (by decide)) ajV29 (by decide) (by decide))) (fun _ => rfl) (fun _ => rfl) (fun _ => rfl))
                    have px255 : px V V44 b := px.tr px254 t43
                    have px256 : px V V247 b := px.tr px255 (px.ag (show agr [(1, 3), (1, 8), (6, 8), (6, 9), (6, 10)] [] V44 V247 from (agr.tr (agr.tr agr.rf ajV55 (by decide) (by decide)) ajV247 (by decide) (by decide))) (fun _ => rfl) (fun _ => rfl) (fun _ => rfl))
                    exact W.zret (v := z244) hx hb hr (nb_ok (by omega)) (fun t ht hW => ⟨⟨z244, (V247, L56), rfl, ⟨hMV247, agV247, alL56, fwV247, (show 0 ≤ z244.toInt ∧ z244.toInt ≤ 1 from by first | omega | ((try (have i_t54 := Imp.go t54 (by omega))); (try (have i_t42 := Imp.go t42 (by omega))); (try (have i_t14 := Imp.go t14 (by omega))); (try (have i_tx := Imp.go tx (by omega))); (try (have i_cd := Imp.go cd (by omega))); (try (have i_cd := Imp.go cd (by omega))); (try (have i_tx := Imp.go tx (by omega))); (try (have i_t14 := Imp.go t14 (by omega))); (try (have i_t42 := Imp.go t42 (by omega))); (try (have i_t54 := Imp.go t54 (by omega))); omega)), tx252, cd253, px256⟩, by rw [ht]; exact hP, va_K.moved hW.alike hK, hD⟩, hS.F ht⟩) hS.2.2 dX1_readWrap_155
              · skip
                have f257 : 155 < ((V55 6 9)).toInt := b_nle rfl (by decide) c77
                refine lv_aload_n hx hb dX1_readWrap_113 rfl (lv_at hl 3 rfl) ?_
                refine lv_iconst (v := 1) hx hb dX1_readWrap_114 (by decide) ?_
                have r258 : Int32.toInt 1 = 1 := by decide
                refine gA_int (gA_runV (As := [.int 1]) (rest := []) (ci := 1) (q0 := 1) hx hb hml hown hg hP hD hK hS hA hnw hgk (x_wrong l D ks H.size ad kk V55 L56 Z 1 hMV55 ) w867 w869 w6 w162 w870 rfl xgReader hdV_yX1_wrong ⟨Nat.le_of_ble_eq_true rfl, Nat.le_of_ble_eq_true rfl⟩ rfl hl.1 rfl (Nat.le_of_ble_eq_true rfl) dX1_readWrap_115 ⟨Nat.le_of_ble_eq_true rfl, Nat.le_of_ble_eq_true rfl⟩) hP hD hK hS hA (fun z259 u260 H locs w261 hP hD hK hS => ?_)
                obtain ⟨V262, L263⟩ := u260
                obtain ⟨hMV262, ajV262, axL263, rgz259⟩ := w261
                have axL263 : L56 = L263 := Eq.symm axL263
                subst axL263
                have hP : va_P D vwCl (xw ad kk V262 L56 Z) H := hP
                have hD : va_D A (xw ad kk V262 L56 Z) := hD
                have hMV262 : rgd bX V262 := hMV262
                have ajV262 : agr [(1, 3)] [] V55 V262 := ajV262
                have agV262 : agr [(1, 3), (1, 4), (1, 6), (1, 8), (6, 8), (6, 9), (6, 10)] [41, 42, 43, 44, 47, 48, 62, 63, 64, 65, 66] V V262 := agV55.tr ajV262 (by decide) (by decide)
                have fwV262 : frX (xR b) V V262 := frX.tr fwV55 (frX.ag ajV262 (by decide) (by decide))
                have rgz259 : 0 ≤ z259.toInt ∧ z259.toInt ≤ 0 := rgz259
                have px264 : px V V29 b := px.tr (px.rf : px V V b) (px.ag (show agr [(1, 3), (1, 6), (6, 8), (6, 9), (6, 10)] [] V V29 from (agr.tr (agr.tr (agr.tr (agr.tr agr.rf ajV8 (by decide) (by decide)) ajV15 (by decide) (by decide)) ajV23 (by decide) (by decide)) ajV29 (by decide) (by decide))) (fun _ => rfl) (fun _ => rfl) (fun _ => rfl))
                have px265 : px V V44 b := px.tr px264 t43
                have px266 : px V V262 b := px.tr px265 (px.ag (show agr [(1, 3), (1, 8), (6, 8), (6, 9), (6, 10)] [] V44 V262 from (agr.tr (agr.tr agr.rf ajV55 (by decide) (by decide)) ajV262 (by decide) (by decide))) (fun _ => rfl) (fun _ => rfl) (fun _ => rfl))
                have tx267 : TX V262 b := TX.ag tx (show agr [(1, 3), (1, 6), (1, 8), (6, 8), (6, 9), (6, 10)] [43, 44] V V262 from (agr.tr (agr.tr (agr.tr (agr.tr (agr.tr (agr.tr (agr.tr agr.rf ajV8 (by decide) (by decide)) ajV15 (by decide) (by decide)) ajV23 (by decide) (by decide)) ajV29 (by decide) (by decide)) ajV44 (by decide) (by decide)) ajV55 (by decide) (by decide)) ajV262 (by decide) (by decide))) px266 (fun _ => rfl) (fun _ => rfl) (fun _ => rfl) (fun _ => rfl) (fun _ => rfl) (fun _ => rfl)
                have cd268 : CD V262 b := ⟨CB.ag cd.1 (show agr [(1, 3), (1, 6), (1, 8), (6, 8), (6, 9), (6, 10)] [43, 44] V V262 from (agr.tr (agr.tr (agr.tr (agr.tr (agr.tr (agr.tr (agr.tr agr.rf ajV8 (by decide) (by decide)) ajV15 (by decide) (by decide)) ajV23 (by decide) (by decide)) ajV29 (by decide) (by decide)) ajV44 (by decide) (by decide)) ajV55 (by decide) (by decide)) ajV262 (by decide) (by decide))) (fun _ => rfl) (fun _ => rfl), CO.ag cd.2 (show agr [(1, 3), (1, 6), (1, 8), (6, 8), (6, 9), (6, 10)] [43, 44] V V262 from (agr.tr (agr.tr (agr.tr (agr.tr (agr.tr (agr.tr (agr.tr agr.rf ajV8 (by decide) (by decide)) ajV15 (by decide) (by decide)) ajV23 (by decide) (by decide)) ajV29 (by decide) (by decide)) ajV44 (by decide) (by decide)) ajV55 (by decide) (by decide)) ajV262 (by decide) (by decide))) (fun _ => rfl) (fun _ => rfl)⟩
                have px269 : px V V29 b := px.tr (px.rf : px V V b) (px.ag (show agr [(1, 3), (1, 6), (6, 8), (6, 9), (6, 10)] [] V V29 from (agr.tr (agr.tr (agr.tr (agr.tr agr.rf ajV8 (by decide) (by decide)) ajV15 (by decide) (by decide)) ajV23 (by decide) (by decide)) ajV29 (by decide) (by decide))) (fun _ => rfl) (fun _ => rfl) (fun _ => rfl))
                have px270 : px V V44 b := px.tr px269 t43
                have px271 : px V V262 b := px.tr px270 (px.ag (show agr [(1, 3), (1, 8), (6, 8), (6, 9), (6, 10)] [] V44 V262 from (agr.tr (agr.tr agr.rf ajV55 (by decide) (by decide)) ajV262 (by decide) (by decide))) (fun _ => rfl) (fun _ => rfl) (fun _ => rfl))
                exact W.zret (v := z259) hx hb hr (nb_ok (by omega)) (fun t ht hW => ⟨⟨z259, (V262, L56), rfl, ⟨hMV262, agV262, alL56, fwV262, (show 0 ≤ z259.toInt ∧ z259.toInt ≤ 1 from by first | omega | ((try (have i_t54 := Imp.go t54 (by omega))); (try (have i_t42 := Imp.go t42 (by omega))); (try (have i_t14 := Imp.go t14 (by omega))); (try (have i_tx := Imp.go tx (by omega))); (try (have i_cd := Imp.go cd (by omega))); (try (have i_cd := Imp.go cd (by omega))); (try (have i_tx := Imp.go tx (by omega))); (try (have i_t14 := Imp.go t14 (by omega))); (try (have i_t42 := Imp.go t42 (by omega))); (try (have i_t54 := Imp.go t54 (by omega))); omega)), tx267, cd268, px271⟩, by rw [ht]; exact hP, va_K.moved hW.alike hK, hD⟩, hS.F ht⟩) hS.2.2 dX1_readWrap_118
          · skip
            have f272 : z51.toInt = 0 := b_eq rfl (by decide) c58
            refine lv_iconst (v := 0) hx hb dX1_readWrap_80 (by decide) ?_
            have px273 : px V V29 b := px.tr (px.rf : px V V b) (px.ag (show agr [(1, 3), (1, 6), (6, 8), (6, 9), (6, 10)] [] V V29 from (agr.tr (agr.tr (agr.tr (agr.tr agr.rf ajV8 (by decide) (by decide)) ajV15 (by decide) (by decide)) ajV23 (by decide) (by decide)) ajV29 (by decide) (by decide))) (fun _ => rfl) (fun _ => rfl) (fun _ => rfl))
            have px274 : px V V44 b := px.tr px273 t43
            have px275 : px V V55 b := px.tr px274 (px.ag (show agr [(1, 3), (1, 8), (6, 8), (6, 9), (6, 10)] [] V44 V55 from (agr.tr agr.rf ajV55 (by decide) (by decide))) (fun _ => rfl) (fun _ => rfl) (fun _ => rfl))
            have tx276 : TX V55 b := TX.ag tx (show agr [(1, 3), (1, 6), (1, 8), (6, 8), (6, 9), (6, 10)] [43, 44] V V55 from (agr.tr (agr.tr (agr.tr (agr.tr (agr.tr (agr.tr agr.rf ajV8 (by decide) (by decide)) ajV15 (by decide) (by decide)) ajV23 (by decide) (by decide)) ajV29 (by decide) (by decide)) ajV44 (by decide) (by decide)) ajV55 (by decide) (by decide))) px275 (fun _ => rfl) (fun _ => rfl) (fun _ => rfl) (fun _ => rfl) (fun _ => rfl) (fun _ => rfl)
            have cd277 : CD V55 b := ⟨CB.ag cd.1 (show agr [(1, 3), (1, 6), (1, 8), (6, 8), (6, 9), (6, 10)] [43, 44] V V55 from (agr.tr (agr.tr (agr.tr (agr.tr (agr.tr (agr.tr agr.rf ajV8 (by decide) (by decide)) ajV15 (by decide) (by decide)) ajV23 (by decide) (by decide)) ajV29 (by decide) (by decide)) ajV44 (by decide) (by decide)) ajV55 (by decide) (by decide))) (fun _ => rfl) (fun _ => rfl), CO.ag cd.2 (show agr [(1, 3), (1, 6), (1, 8), (6, 8), (6, 9), (6, 10)] [43, 44] V V55 from (agr.tr (agr.tr (agr.tr (agr.tr (agr.tr (agr.tr agr.rf ajV8 (by decide) (by decide)) ajV15 (by decide) (by decide)) ajV23 (by decide) (by decide)) ajV29 (by decide) (by decide)) ajV44 (by decide) (by decide)) ajV55 (by decide) (by decide))) (fun _ => rfl) (fun _ => rfl)⟩
            have px278 : px V V29 b := px.tr (px.rf : px V V b) (px.ag (show agr [(1, 3), (1, 6), (6, 8), (6, 9), (6, 10)] [] V V29 from (agr.tr (agr.tr (agr.tr (agr.tr agr.rf ajV8 (by decide) (by decide)) ajV15 (by decide) (by decide)) ajV23 (by decide) (by decide)) ajV29 (by decide) (by decide))) (fun _ => rfl) (fun _ => rfl) (fun _ => rfl))
            have px279 : px V V44 b := px.tr px278 t43
            have px280 : px V V55 b := px.tr px279 (px.ag (show agr [(1, 3), (1, 8), (6, 8), (6, 9), (6, 10)] [] V44 V55 from (agr.tr agr.rf ajV55 (by decide) (by decide))) (fun _ => rfl) (fun _ => rfl) (fun _ => rfl))
            exact W.zret (v := 0) hx hb hr rfl (fun t ht hW => ⟨⟨0, (V55, L56), rfl, ⟨hMV55, agV55, alL56, fwV55, (by decide), tx276, cd277, px280⟩, by rw [ht]; exact hP, va_K.moved hW.alike hK, hD⟩, hS.F ht⟩) hS.2.2 dX1_readWrap_81
        · skip
          have f281 : z39.toInt = 0 := b_eq rfl (by decide) c47
          refine lv_iconst (v := 0) hx hb dX1_readWrap_63 (by decide) ?_
          have px282 : px V V29 b := px.tr (px.rf : px V V b) (px.ag (show agr [(1, 3), (1, 6), (6, 8), (6, 9), (6, 10)] [] V V29 from (agr.tr (agr.tr (agr.tr (agr.tr agr.rf ajV8 (by decide) (by decide)) ajV15 (by decide) (by decide)) ajV23 (by decide) (by decide)) ajV29 (by decide) (by decide))) (fun _ => rfl) (fun _ => rfl) (fun _ => rfl))
          have px283 : px V V44 b := px.tr px282 t43
          have tx284 : TX V44 b := TX.ag tx (show agr [(1, 3), (1, 6), (6, 8), (6, 9), (6, 10)] [43, 44] V V44 from (agr.tr (agr.tr (agr.tr (agr.tr (agr.tr agr.rf ajV8 (by decide) (by decide)) ajV15 (by decide) (by decide)) ajV23 (by decide) (by decide)) ajV29 (by decide) (by decide)) ajV44 (by decide) (by decide))) px283 (fun _ => rfl) (fun _ => rfl) (fun _ => rfl) (fun _ => rfl) (fun _ => rfl) (fun _ => rfl)
          have cd285 : CD V44 b := ⟨CB.ag cd.1 (show agr [(1, 3), (1, 6), (6, 8), (6, 9), (6, 10)] [43, 44] V V44 from (agr.tr (agr.tr (agr.tr (agr.tr (agr.tr agr.rf ajV8 (by decide) (by decide)) ajV15 (by decide) (by decide)) ajV23 (by decide) (by decide)) ajV29 (by decide) (by decide)) ajV44 (by decide) (by decide))) (fun _ => rfl) (fun _ => rfl), CO.ag cd.2 (show agr [(1, 3), (1, 6), (6, 8), (6, 9), (6, 10)] [43, 44] V V44 from (agr.tr (agr.tr (agr.tr (agr.tr (agr.tr agr.rf ajV8 (by decide) (by decide)) ajV15 (by decide) (by decide)) ajV23 (by decide) (by decide)) ajV29 (by decide) (by decide)) ajV44 (by decide) (by decide))) (fun _ => rfl) (fun _ => rfl)⟩
          have px286 : px V V29 b := px.tr (px.rf : px V V b) (px.ag (show agr [(1, 3), (1, 6), (6, 8), (6, 9), (6, 10)] [] V V29 from (agr.tr (agr.tr (agr.tr (agr.tr agr.rf ajV8 (by decide) (by decide)) ajV15 (by decide) (by decide)) ajV23 (by decide) (by decide)) ajV29 (by decide) (by decide))) (fun _ => rfl) (fun _ => rfl) (fun _ => rfl))
          have px287 : px V V44 b := px.tr px286 t43
          exact W.zret (v := 0) hx hb hr rfl (fun t ht hW => ⟨⟨0, (V44, L45), rfl, ⟨hMV44, agV44, alL45, fwV44, (by decide), tx284, cd285, px287⟩, by rw [ht]; exact hP, va_K.moved hW.alike hK, hD⟩, hS.F ht⟩) hS.2.2 dX1_readWrap_64
    · skip
      have f288 : z11.toInt = 0 := b_eq rfl (by decide) c18
      refine lv_iconst (v := 0) hx hb dX1_readWrap_32 (by decide) ?_
      have px289 : px V V15 b := px.tr (px.rf : px V V b) (px.ag (show agr [(1, 3), (1, 6), (6, 8), (6, 9), (6, 10)] [] V V15 from (agr.tr (agr.tr agr.rf ajV8 (by decide) (by decide)) ajV15 (by decide) (by decide))) (fun _ => rfl) (fun _ => rfl) (fun _ => rfl))
      have tx290 : TX V15 b := TX.ag tx (show agr [(1, 3), (1, 6), (6, 8), (6, 9), (6, 10)] [] V V15 from (agr.tr (agr.tr agr.rf ajV8 (by decide) (by decide)) ajV15 (by decide) (by decide))) px289 (fun _ => rfl) (fun _ => rfl) (fun _ => rfl) (fun _ => rfl) (fun _ => rfl) (fun _ => rfl)
      have cd291 : CD V15 b := ⟨CB.ag cd.1 (show agr [(1, 3), (1, 6), (6, 8), (6, 9), (6, 10)] [] V V15 from (agr.tr (agr.tr agr.rf ajV8 (by decide) (by decide)) ajV15 (by decide) (by decide))) (fun _ => rfl) (fun _ => rfl), CO.ag cd.2 (show agr [(1, 3), (1, 6), (6, 8), (6, 9), (6, 10)] [] V V15 from (agr.tr (agr.tr agr.rf ajV8 (by decide) (by decide)) ajV15 (by decide) (by decide))) (fun _ => rfl) (fun _ => rfl)⟩
      have px292 : px V V15 b := px.tr (px.rf : px V V b) (px.ag (show agr [(1, 3), (1, 6), (6, 8), (6, 9), (6, 10)] [] V V15 from (agr.tr (agr.tr agr.rf ajV8 (by decide) (by decide)) ajV15 (by decide) (by decide))) (fun _ => rfl) (fun _ => rfl) (fun _ => rfl))
      exact W.zret (v := 0) hx hb hr rfl (fun t ht hW => ⟨⟨0, (V15, L9), rfl, ⟨hMV15, agV15, alL9, fwV15, (by decide), tx290, cd291, px292⟩, by rw [ht]; exact hP, va_K.moved hW.alike hK, hD⟩, hS.F ht⟩) hS.2.2 dX1_readWrap_33
  · skip
    have f293 : 12 ≤ ((V 41 b)).toInt := b_nlt rfl (by decide) c3
    refine lv_aload_n hx hb dX1_readWrap_12 rfl (lv_at hl 0 rfl) ?_
    refine lv_iconst (v := 5) hx hb dX1_readWrap_13 (by decide) ?_
    have r294 : Int32.toInt 5 = 5 := by decide
    refine gA_int (gA_runV (As := [.int 5]) (rest := []) (ci := 1) (q0 := 1) hx hb hml hown hg hP hD hK hS hA hnw hgk (x_wrong l D ks H.size ad kk V L Z 5 hMV ) w867 w869 w6 w162 w870 rfl xgReader hdV_yX1_wrong ⟨Nat.le_of_ble_eq_true rfl, Nat.le_of_ble_eq_true rfl⟩ rfl hl.1 rfl (Nat.le_of_ble_eq_true rfl) dX1_readWrap_14 ⟨Nat.le_of_ble_eq_true rfl, Nat.le_of_ble_eq_true rfl⟩) hP hD hK hS hA (fun z295 u296 H locs w297 hP hD hK hS => ?_)
    obtain ⟨V298, L299⟩ := u296
    obtain ⟨hMV298, ajV298, axL299, rgz295⟩ := w297
    have axL299 : L = L299 := Eq.symm axL299
    subst axL299
    have hP : va_P D vwCl (xw ad kk V298 L Z) H := hP
    have hD : va_D A (xw ad kk V298 L Z) := hD
    have hMV298 : rgd bX V298 := hMV298
    have ajV298 : agr [(1, 3)] [] V V298 := ajV298
    have agV298 : agr [(1, 3), (1, 4), (1, 6), (1, 8), (6, 8), (6, 9), (6, 10)] [41, 42, 43, 44, 47, 48, 62, 63, 64, 65, 66] V V298 := agV.tr ajV298 (by decide) (by decide)
    have fwV298 : frX (xR b) V V298 := frX.tr fwV (frX.ag ajV298 (by decide) (by decide))
    have rgz295 : 0 ≤ z295.toInt ∧ z295.toInt ≤ 0 := rgz295
    have px300 : px V V298 b := px.tr (px.rf : px V V b) (px.ag (show agr [(1, 3)] [] V V298 from (agr.tr agr.rf ajV298 (by decide) (by decide))) (fun _ => rfl) (fun _ => rfl) (fun _ => rfl))
    have tx301 : TX V298 b := TX.ag tx (show agr [(1, 3)] [] V V298 from (agr.tr agr.rf ajV298 (by decide) (by decide))) px300 (fun _ => rfl) (fun _ => rfl) (fun _ => rfl) (fun _ => rfl) (fun _ => rfl) (fun _ => rfl)
    have cd302 : CD V298 b := ⟨CB.ag cd.1 (show agr [(1, 3)] [] V V298 from (agr.tr agr.rf ajV298 (by decide) (by decide))) (fun _ => rfl) (fun _ => rfl), CO.ag cd.2 (show agr [(1, 3)] [] V V298 from (agr.tr agr.rf ajV298 (by decide) (by decide))) (fun _ => rfl) (fun _ => rfl)⟩
    have px303 : px V V298 b := px.tr (px.rf : px V V b) (px.ag (show agr [(1, 3)] [] V V298 from (agr.tr agr.rf ajV298 (by decide) (by decide))) (fun _ => rfl) (fun _ => rfl) (fun _ => rfl))
    exact W.zret (v := z295) hx hb hr (nb_ok (by omega)) (fun t ht hW => ⟨⟨z295, (V298, L), rfl, ⟨hMV298, agV298, alL, fwV298, (show 0 ≤ z295.toInt ∧ z295.toInt ≤ 1 from by first | omega | ((try (have i_tx := Imp.go tx (by omega))); (try (have i_cd := Imp.go cd (by omega))); (try (have i_cd := Imp.go cd (by omega))); (try (have i_tx := Imp.go tx (by omega))); omega)), tx301, cd302, px303⟩, by rw [ht]; exact hP, va_K.moved hW.alike hK, hD⟩, hS.F ht⟩) hS.2.2 dX1_readWrap_17
abbrev r_x_readExtras : Room := { frames := 3, cells := 0, slots := 0, locals := 64 }
abbrev q_x_readExtras (D : va_G) (ks : KS) (ad : Nat → Nat) (kk : Nat → ClassId) (V : Vf) (L : Lf) (Z : XZ) (b : Nat) (gi : Nat) (A : Nat → Prop) : Array Value → State → Outcome → State → Prop := va_Qi (fun (r : Int32) (u : Vf × Lf) => rgd bX u.1 ∧ agr [(1, 3), (1, 6), (1, 8), (6, 8), (6, 9), (6, 10)] [43, 44, 52, 53, 54, 55] V u.1 ∧ agL [6, 44] L u.2 ∧ frX (xR b) V u.1 ∧ (0 ≤ r.toInt ∧ r.toInt ≤ 1) ∧ (px V u.1 b)) (fun u t => gq D A (xw ad kk u.1 u.2 Z) (xty kk Z) t) A
set_option maxHeartbeats 4000000 in
set_option maxRecDepth 100000 in
theorem x_readExtras (l : Launch) (D : va_G) (ks : KS) (sz : Nat) (ad : Nat → Nat) (kk : Nat → ClassId) (V : Vf) (L : Lf) (Z : XZ) (b : Nat) (gi : Nat) (hMV : rgd bX V) (hb2 : b < 2) (rbk : (V 1 1).toInt = (b : Int)) (hgi : gi < 48) (hgl : 24 * b ≤ gi) (hgh : gi < 24 * b + 24)  : Met l yX1_readExtras (Cond.code yX1_readExtras cX1_readExtras 2 (some .boolean) :: GW) r_x_readExtras (va_Pc [.ref (ad 1), .ref (ad (72 + gi))] (gp D ks (xw ad kk V L Z) (xty kk Z) sz)) (q_x_readExtras D ks ad kk V L Z  b gi (va_A (xw ad kk V L Z) sz)) 0 0 (va_A (xw ad kk V L Z) sz) := by
  refine g_met (q_x_readExtras D ks ad kk V L Z  b gi) (by decide) (Nat.le_of_ble_eq_true rfl) ?_
  intro p e s m below meth c A ls H locs hx hb hr hml hown hg hlocks hin hnw hgk hP hK hD hS hA hl
  have hown : s.vm.findClass RX1 = some m.cls := hown
  have hl : lv_has ls 2 [(0, .ref (ad 1)), (1, .ref (ad (72 + gi)))] := hl
  have hP : va_P D vwCl (xw ad kk V L Z) H := hP
  have hD : va_D A (xw ad kk V L Z) := hD
  have hK : va_K D vwCl (xty kk Z) s := hK
  have agV : agr [(1, 3), (1, 6), (1, 8), (6, 8), (6, 9), (6, 10)] [43, 44, 52, 53, 54, 55] V V := agr.rf
  have alL : agL [6, 44] L L := agL.rf
  have fwV : frX (xR b) V V := frX.rf
  have r1 : (-1) ≤ ((V 1 1)).toInt ∧ ((V 1 1)).toInt ≤ 1 := hMV 1 1
  refine lv_aload_n hx hb dX1_readExtras_0 rfl (lv_at hl 0 rfl) ?_
  refine va_get (D := D) (ci := 1) (v := .ref (ad 6)) (fs := (xfReader ad V L Z)) (C := RX1) (T := TX1) (N := 9) hx hb hg inX1 hown hK hP 1 xgReader rfl 0 (by decide) (hg _ w304) (fun _ h9 => h9) rfl dX1_readExtras_1 ?_
  refine va_getN (D := D) (ci := 9) (v := .int (V 6 9)) (fs := (xfTape ad V L Z)) (C := RX9) (T := TX9) (N := 12) hx hb hg inX9 hown hK hP 6 xgTape rfl 9 (by decide) (hnw.use 262 n262 rfl) (fun _ h9 => h9) rfl dX1_readExtras_4 ?_
  refine lv_sipush (v := 133) hx hb dX1_readExtras_7 (by decide) ?_
  refine lv_icmp_ne (tgt := 30) hx hb dX1_readExtras_10 (by decide) (fun c2 => ?_) (fun c2 => ?_)
  · skip
    have f3 : ((V 6 9)).toInt ≠ 133 := b_neq rfl (by decide) c2
    refine lv_aload_n hx hb dX1_readExtras_30 rfl (lv_at hl 0 rfl) ?_
    refine va_get (D := D) (ci := 1) (v := .ref (ad 6)) (fs := (xfReader ad V L Z)) (C := RX1) (T := TX1) (N := 9) hx hb hg inX1 hown hK hP 1 xgReader rfl 0 (by decide) (hg _ w304) (fun _ h9 => h9) rfl dX1_readExtras_31 ?_
    refine va_getN (D := D) (ci := 9) (v := .int (V 6 9)) (fs := (xfTape ad V L Z)) (C := RX9) (T := TX9) (N := 12) hx hb hg inX9 hown hK hP 6 xgTape rfl 9 (by decide) (hnw.use 262 n262 rfl) (fun _ h9 => h9) rfl dX1_readExtras_34 ?_
    refine lv_sipush (v := 134) hx hb dX1_readExtras_37 (by decide) ?_
    refine lv_icmp_ne (tgt := 70) hx hb dX1_readExtras_40 (by decide) (fun c4 => ?_) (fun c4 => ?_)
    · skip
      have f5 : ((V 6 9)).toInt ≠ 134 := b_neq rfl (by decide) c4
      refine lv_aload_n hx hb dX1_readExtras_70 rfl (lv_at hl 0 rfl) ?_
      refine va_get (D := D) (ci := 1) (v := .ref (ad 6)) (fs := (xfReader ad V L Z)) (C := RX1) (T := TX1) (N := 9) hx hb hg inX1 hown hK hP 1 xgReader rfl 0 (by decide) (hg _ w304) (fun _ h9 => h9) rfl dX1_readExtras_71 ?_
      refine va_getN (D := D) (ci := 9) (v := .int (V 6 9)) (fs := (xfTape ad V L Z)) (C := RX9) (T := TX9) (N := 12) hx hb hg inX9 hown hK hP 6 xgTape rfl 9 (by decide) (hnw.use 262 n262 rfl) (fun _ h9 => h9) rfl dX1_readExtras_74 ?_
      refine lv_sipush (v := 135) hx hb dX1_readExtras_77 (by decide) ?_
      refine lv_icmp_ne (tgt := 127) hx hb dX1_readExtras_80 (by decide) (fun c6 => ?_) (fun c6 => ?_)
      · skip
        have f7 : ((V 6 9)).toInt ≠ 135 := b_neq rfl (by decide) c6
        refine lv_iconst (v := 1) hx hb dX1_readExtras_127 (by decide) ?_
        exact W.zret (v := 1) hx hb hr rfl (fun t ht hW => ⟨⟨1, (V, L), rfl, ⟨hMV, agV, alL, fwV, (by decide), (px.rf : px V V b)⟩, by rw [ht]; exact hP, va_K.moved hW.alike hK, hD⟩, hS.F ht⟩) hS.2.2 dX1_readExtras_128
      · skip
        have f8 : ((V 6 9)).toInt = 135 := b_eq rfl (by decide) c6
        refine lv_aload_n hx hb dX1_readExtras_83 rfl (lv_at hl 0 rfl) ?_
        refine va_get (D := D) (ci := 1) (v := .ref (ad 6)) (fs := (xfReader ad V L Z)) (C := RX1) (T := TX1) (N := 9) hx hb hg inX1 hown hK hP 1 xgReader rfl 0 (by decide) (hg _ w304) (fun _ h9 => h9) rfl dX1_readExtras_84 ?_
        refine gA_void (gA_runV (As := []) (rest := []) (ci := 9) (q0 := 6) hx hb hml hown hg hP hD hK hS hA hnw hgk (x_next l D ks H.size ad kk V L Z  hMV ) w871 w852 w853 w157 w854 rfl xgTape hdV_yX9_next ⟨Nat.le_of_ble_eq_true rfl, Nat.le_of_ble_eq_true rfl⟩ rfl hl.1 rfl (Nat.le_of_ble_eq_true rfl) dX1_readExtras_87 ⟨Nat.le_of_ble_eq_true rfl, Nat.le_of_ble_eq_true rfl⟩) hP hD hK hS hA (fun u10 H locs w11 hP hD hK hS => ?_)
        obtain ⟨V12, L13⟩ := u10
        obtain ⟨hMV12, ajV12, axL13⟩ := w11
        have alL13 : agL [6, 44] L L13 := agL.tr alL axL13 (by decide)
        have hP : va_P D vwCl (xw ad kk V12 L13 Z) H := hP
        have hD : va_D A (xw ad kk V12 L13 Z) := hD
        have hMV12 : rgd bX V12 := hMV12
        have ajV12 : agr [(6, 8), (6, 9), (6, 10)] [] V V12 := ajV12
        have agV12 : agr [(1, 3), (1, 6), (1, 8), (6, 8), (6, 9), (6, 10)] [43, 44, 52, 53, 54, 55] V V12 := agV.tr ajV12 (by decide) (by decide)
        have fwV12 : frX (xR b) V V12 := frX.tr fwV (frX.ag ajV12 (by decide) (by decide))
        refine lv_aload_n hx hb dX1_readExtras_90 rfl (lv_at hl 0 rfl) ?_
        have pq14 : (V12 1 1).toInt = ((V 1 1)).toInt := congrArg Int32.toInt (ajV12 1 1 rfl)
        refine gA_int (gA_runV (As := []) (rest := []) (ci := 1) (q0 := 1) hx hb hml hown hg hP hD hK hS hA hnw hgk (x_takeSetting l D ks H.size ad kk V12 L13 Z (b) hMV12 (show b < 2 from by omega) (show (V12 1 1).toInt = (b : Int) from by omega)) w931 w933 w17 w162 w934 rfl xgReader hdV_yX1_takeSetting ⟨Nat.le_of_ble_eq_true rfl, Nat.le_of_ble_eq_true rfl⟩ rfl hl.1 rfl (Nat.le_of_ble_eq_true rfl) dX1_readExtras_91 ⟨Nat.le_of_ble_eq_true rfl, Nat.le_of_ble_eq_true rfl⟩) hP hD hK hS hA (fun z15 u16 H locs w17 hP hD hK hS => ?_)
        obtain ⟨V19, L20⟩ := u16
        obtain ⟨hMV19, ajV19, axL20, rgz15, t18⟩ := w17
        have alL20 : agL [6, 44] L L20 := agL.tr alL13 axL20 (by decide)
        have hP : va_P D vwCl (xw ad kk V19 L20 Z) H := hP
        have hD : va_D A (xw ad kk V19 L20 Z) := hD
        have hMV19 : rgd bX V19 := hMV19
        have ajV19 : agr [(1, 3), (1, 6), (6, 8), (6, 9), (6, 10)] [] V12 V19 := ajV19
        have agV19 : agr [(1, 3), (1, 6), (1, 8), (6, 8), (6, 9), (6, 10)] [43, 44, 52, 53, 54, 55] V V19 := agV12.tr ajV19 (by decide) (by decide)
        have fwV19 : frX (xR b) V V19 := frX.tr fwV12 (frX.ag ajV19 (by decide) (by decide))
        have rgz15 : 0 ≤ z15.toInt ∧ z15.toInt ≤ 1 := rgz15
        have t18 : Imp (z15.toInt = 1) (0 ≤ (V19 1 6).toInt ∧ (V19 1 6).toInt ≤ 11) := t18
        have r21 : (-1) ≤ ((V19 1 6)).toInt ∧ ((V19 1 6)).toInt ≤ 23 := hMV19 1 6
        refine lv_if_ne (tgt := 99) hx hb dX1_readExtras_94 (by decide) (fun c22 => ?_) (fun c22 => ?_)
        · skip
          have f23 : z15.toInt ≠ 0 := b_neq rfl (by decide) c22
          refine lv_aload_n hx hb dX1_readExtras_99 rfl (lv_at hl 1 rfl) ?_
          refine lv_aload_n hx hb dX1_readExtras_100 rfl (lv_at hl 0 rfl) ?_
          refine va_get (D := D) (ci := 1) (v := .int (V19 1 6)) (fs := (xfReader ad V19 L20 Z)) (C := RX1) (T := TX1) (N := 9) hx hb hg inX1 hown hK hP 1 xgReader rfl 6 (by decide) (hg _ w310) (fun _ h9 => h9) rfl dX1_readExtras_101 ?_
          refine va_putN (D := D) (ci := 3) (v := .int (V19 1 6)) (ty := tyX3 9) (fs := (xfComp ad V19 gi)) (C := RX3) (T := TX3) (N := 13) hx hb hg inX3 tyX3 tyX3_ok nmX3 hown hK hP hD hS (72 + gi) (xgComp hgi) rfl 9 (by decide) (hnw.use 533 n533 rfl) (fun _ h9 => h9) rfl (tyX3_ok 9 (by decide)) rfl rfl (Nat.le_of_ble_eq_true rfl) dX1_readExtras_104 (fun H locs hP hD hS => ?_)
          obtain ⟨V24, hV24⟩ : ∃ z, z = up2 V19 54 gi (V19 1 6) := ⟨_, rfl⟩
          have ew25 : (xw ad kk V19 L20 Z).set (72 + gi) ((ad (72 + gi)), .inr (3, (xfComp ad V19 gi).set 9 (.int (V19 1 6)))) = xw ad kk V24 L20 Z := by rw [hV24]; exact xpComp_whenSetting hgi
          have hP : va_P D vwCl (xw ad kk V24 L20 Z) H := by rw [← ew25]; exact hP
          have hD : va_D A (xw ad kk V24 L20 Z) := by rw [← ew25]; exact hD
          have hMV24 : rgd bX V24 := hMV19.put hV24 (show (-1) ≤ ((V19 1 6)).toInt ∧ ((V19 1 6)).toInt ≤ 11 from by first | omega | ((try (have i_t18 := Imp.go t18 (by omega))); omega))
          have agV24 : agr [(1, 3), (1, 6), (1, 8), (6, 8), (6, 9), (6, 10)] [43, 44, 52, 53, 54, 55] V V24 := agV19.up hV24 rfl
          have fwV24 : frX (xR b) V V24 := frX.up fwV19 hV24 (Or.inr ⟨(by show 24 * b ≤ gi; first | omega | ((try (have i_t18 := Imp.go t18 (by omega))); omega)), (by show gi < 24 * b + 24; first | omega | ((try (have i_t18 := Imp.go t18 (by omega))); omega))⟩)
          refine lv_aload_n hx hb dX1_readExtras_107 rfl (lv_at hl 0 rfl) ?_
          refine lv_iconst (v := 0) hx hb dX1_readExtras_108 (by decide) ?_
          refine lv_ldc (v := 999999999) hx hb hown (hg _ w905) dX1_readExtras_109 ?_
          have r26 : Int32.toInt 0 = 0 := by decide
          have r27 : Int32.toInt 999999999 = 999999999 := by decide
          refine gA_int (gA_runV (As := [.int 0, .int 999999999]) (rest := []) (ci := 1) (q0 := 1) hx hb hml hown hg hP hD hK hS hA hnw hgk (x_takeNumber l D ks H.size ad kk V24 L20 Z 0 999999999 hMV24 (show 0 ≤ (Int32.toInt 0) from by first | omega | ((try (have i_t18 := Imp.go t18 (by omega))); omega)) (show (Int32.toInt 999999999) ≤ 999999999 from by first | omega | ((try (have i_t18 := Imp.go t18 (by omega))); omega))) w906 w908 w12 w162 w909 rfl xgReader hdV_yX1_takeNumber ⟨Nat.le_of_ble_eq_true rfl, Nat.le_of_ble_eq_true rfl⟩ rfl hl.1 rfl (Nat.le_of_ble_eq_true rfl) dX1_readExtras_111 ⟨Nat.le_of_ble_eq_true rfl, Nat.le_of_ble_eq_true rfl⟩) hP hD hK hS hA (fun z28 u29 H locs w30 hP hD hK hS => ?_)
          obtain ⟨V32, L33⟩ := u29
          obtain ⟨hMV32, ajV32, axL33, rgz28, t31⟩ := w30
          have alL33 : agL [6, 44] L L33 := agL.tr alL20 axL33 (by decide)
          have hP : va_P D vwCl (xw ad kk V32 L33 Z) H := hP
          have hD : va_D A (xw ad kk V32 L33 Z) := hD
          have hMV32 : rgd bX V32 := hMV32
          have ajV32 : agr [(1, 3), (1, 8), (6, 8), (6, 9), (6, 10)] [] V24 V32 := ajV32
          have agV32 : agr [(1, 3), (1, 6), (1, 8), (6, 8), (6, 9), (6, 10)] [43, 44, 52, 53, 54, 55] V V32 := agV24.tr ajV32 (by decide) (by decide)
          have fwV32 : frX (xR b) V V32 := frX.tr fwV24 (frX.ag ajV32 (by decide) (by decide))
          have rgz28 : 0 ≤ z28.toInt ∧ z28.toInt ≤ 1 := rgz28
          have t31 : Imp (z28.toInt = 1) ((Int32.toInt 0) ≤ (V32 1 8).toInt ∧ (V32 1 8).toInt ≤ (Int32.toInt 999999999)) := t31
          have r34 : 0 ≤ ((V32 1 8)).toInt ∧ ((V32 1 8)).toInt ≤ 999999999 := hMV32 1 8
          refine lv_if_ne (tgt := 119) hx hb dX1_readExtras_114 (by decide) (fun c35 => ?_) (fun c35 => ?_)
          · skip
            have f36 : z28.toInt ≠ 0 := b_neq rfl (by decide) c35
            refine lv_aload_n hx hb dX1_readExtras_119 rfl (lv_at hl 1 rfl) ?_
            refine lv_aload_n hx hb dX1_readExtras_120 rfl (lv_at hl 0 rfl) ?_
            refine va_get (D := D) (ci := 1) (v := .int (V32 1 8)) (fs := (xfReader ad V32 L33 Z)) (C := RX1) (T := TX1) (N := 9) hx hb hg inX1 hown hK hP 1 xgReader rfl 8 (by decide) (hg _ w312) (fun _ h9 => h9) rfl dX1_readExtras_121 ?_
            refine va_putN (D := D) (ci := 3) (v := .int (V32 1 8)) (ty := tyX3 10) (fs := (xfComp ad V32 gi)) (C := RX3) (T := TX3) (N := 13) hx hb hg inX3 tyX3 tyX3_ok nmX3 hown hK hP hD hS (72 + gi) (xgComp hgi) rfl 10 (by decide) (hnw.use 536 n536 rfl) (fun _ h9 => h9) rfl (tyX3_ok 10 (by decide)) rfl rfl (Nat.le_of_ble_eq_true rfl) dX1_readExtras_124 (fun H locs hP hD hS => ?_)
            obtain ⟨V37, hV37⟩ : ∃ z, z = up2 V32 55 gi (V32 1 8) := ⟨_, rfl⟩
            have ew38 : (xw ad kk V32 L33 Z).set (72 + gi) ((ad (72 + gi)), .inr (3, (xfComp ad V32 gi).set 10 (.int (V32 1 8)))) = xw ad kk V37 L33 Z := by rw [hV37]; exact xpComp_whenValue hgi
            have hP : va_P D vwCl (xw ad kk V37 L33 Z) H := by rw [← ew38]; exact hP
            have hD : va_D A (xw ad kk V37 L33 Z) := by rw [← ew38]; exact hD
            have hMV37 : rgd bX V37 := hMV32.put hV37 (i_full _)
            have agV37 : agr [(1, 3), (1, 6), (1, 8), (6, 8), (6, 9), (6, 10)] [43, 44, 52, 53, 54, 55] V V37 := agV32.up hV37 rfl
            have fwV37 : frX (xR b) V V37 := frX.up fwV32 hV37 (Or.inr ⟨(by show 24 * b ≤ gi; first | omega | ((try (have i_t31 := Imp.go t31 (by omega))); (try (have i_t18 := Imp.go t18 (by omega))); (try (have i_t18 := Imp.go t18 (by omega))); (try (have i_t31 := Imp.go t31 (by omega))); omega)), (by show gi < 24 * b + 24; first | omega | ((try (have i_t31 := Imp.go t31 (by omega))); (try (have i_t18 := Imp.go t18 (by omega))); (try (have i_t18 := Imp.go t18 (by omega))); (try (have i_t31 := Imp.go t31 (by omega))); omega))⟩)
            refine lv_iconst (v := 1) hx hb dX1_readExtras_127 (by decide) ?_
            have px39 : px V V37 b := px.tr (px.rf : px V V b) (px.ag (show agr [(1, 3), (1, 6), (1, 8), (6, 8), (6, 9), (6, 10)] [54, 55] V V37 from (agr.up (agr.tr (agr.up (agr.tr (agr.tr agr.rf ajV12 (by decide) (by decide)) ajV19 (by decide) (by decide)) hV24 rfl) ajV32 (by decide) (by decide)) hV37 rfl)) (fun _ => rfl) (fun _ => rfl) (fun _ => rfl))
            exact W.zret (v := 1) hx hb hr rfl (fun t ht hW => ⟨⟨1, (V37, L33), rfl, ⟨hMV37, agV37, alL33, fwV37, (by decide), px39⟩, by rw [ht]; exact hP, va_K.moved hW.alike hK, hD⟩, hS.F ht⟩) hS.2.2 dX1_readExtras_128
          · skip
            have f40 : z28.toInt = 0 := b_eq rfl (by decide) c35
            refine lv_iconst (v := 0) hx hb dX1_readExtras_117 (by decide) ?_
            have px41 : px V V32 b := px.tr (px.rf : px V V b) (px.ag (show agr [(1, 3), (1, 6), (1, 8), (6, 8), (6, 9), (6, 10)] [54] V V32 from (agr.tr (agr.up (agr.tr (agr.tr agr.rf ajV12 (by decide) (by decide)) ajV19 (by decide) (by decide)) hV24 rfl) ajV32 (by decide) (by decide))) (fun _ => rfl) (fun _ => rfl) (fun _ => rfl))
            exact W.zret (v := 0) hx hb hr rfl (fun t ht hW => ⟨⟨0, (V32, L33), rfl, ⟨hMV32, agV32, alL33, fwV32, (by decide), px41⟩, by rw [ht]; exact hP, va_K.moved hW.alike hK, hD⟩, hS.F ht⟩) hS.2.2 dX1_readExtras_118
        · skip
          have f42 : z15.toInt = 0 := b_eq rfl (by decide) c22
          refine lv_iconst (v := 0) hx hb dX1_readExtras_97 (by decide) ?_
          have px43 : px V V19 b := px.tr (px.rf : px V V b) (px.ag (show agr [(1, 3), (1, 6), (6, 8), (6, 9), (6, 10)] [] V V19 from (agr.tr (agr.tr agr.rf ajV12 (by decide) (by decide)) ajV19 (by decide) (by decide))) (fun _ => rfl) (fun _ => rfl) (fun _ => rfl))
          exact W.zret (v := 0) hx hb hr rfl (fun t ht hW => ⟨⟨0, (V19, L20), rfl, ⟨hMV19, agV19, alL20, fwV19, (by decide), px43⟩, by rw [ht]; exact hP, va_K.moved hW.alike hK, hD⟩, hS.F ht⟩) hS.2.2 dX1_readExtras_98
    · skip
      have f44 : ((V 6 9)).toInt = 134 := b_eq rfl (by decide) c4
      refine lv_aload_n hx hb dX1_readExtras_43 rfl (lv_at hl 0 rfl) ?_
      refine va_get (D := D) (ci := 1) (v := .ref (ad 6)) (fs := (xfReader ad V L Z)) (C := RX1) (T := TX1) (N := 9) hx hb hg inX1 hown hK hP 1 xgReader rfl 0 (by decide) (hg _ w304) (fun _ h9 => h9) rfl dX1_readExtras_44 ?_
      refine gA_void (gA_runV (As := []) (rest := []) (ci := 9) (q0 := 6) hx hb hml hown hg hP hD hK hS hA hnw hgk (x_next l D ks H.size ad kk V L Z  hMV ) w871 w852 w853 w157 w854 rfl xgTape hdV_yX9_next ⟨Nat.le_of_ble_eq_true rfl, Nat.le_of_ble_eq_true rfl⟩ rfl hl.1 rfl (Nat.le_of_ble_eq_true rfl) dX1_readExtras_47 ⟨Nat.le_of_ble_eq_true rfl, Nat.le_of_ble_eq_true rfl⟩) hP hD hK hS hA (fun u46 H locs w47 hP hD hK hS => ?_)
      obtain ⟨V48, L49⟩ := u46
      obtain ⟨hMV48, ajV48, axL49⟩ := w47
      have alL49 : agL [6, 44] L L49 := agL.tr alL axL49 (by decide)
      have hP : va_P D vwCl (xw ad kk V48 L49 Z) H := hP
      have hD : va_D A (xw ad kk V48 L49 Z) := hD
      have hMV48 : rgd bX V48 := hMV48
      have ajV48 : agr [(6, 8), (6, 9), (6, 10)] [] V V48 := ajV48
      have agV48 : agr [(1, 3), (1, 6), (1, 8), (6, 8), (6, 9), (6, 10)] [43, 44, 52, 53, 54, 55] V V48 := agV.tr ajV48 (by decide) (by decide)
      have fwV48 : frX (xR b) V V48 := frX.tr fwV (frX.ag ajV48 (by decide) (by decide))
      refine lv_aload_n hx hb dX1_readExtras_50 rfl (lv_at hl 0 rfl) ?_
      refine lv_iconst (v := 0) hx hb dX1_readExtras_51 (by decide) ?_
      refine lv_bipush (v := 9) hx hb dX1_readExtras_52 (by decide) ?_
      have r50 : Int32.toInt 0 = 0 := by decide
      have r51 : Int32.toInt 9 = 9 := by decide
      refine gA_int (gA_runV (As := [.int 0, .int 9]) (rest := []) (ci := 1) (q0 := 1) hx hb hml hown hg hP hD hK hS hA hnw hgk (x_takeNumber l D ks H.size ad kk V48 L49 Z 0 9 hMV48 (show 0 ≤ (Int32.toInt 0) from by omega) (show (Int32.toInt 9) ≤ 999999999 from by omega)) w906 w908 w12 w162 w909 rfl xgReader hdV_yX1_takeNumber ⟨Nat.le_of_ble_eq_true rfl, Nat.le_of_ble_eq_true rfl⟩ rfl hl.1 rfl (Nat.le_of_ble_eq_true rfl) dX1_readExtras_54 ⟨Nat.le_of_ble_eq_true rfl, Nat.le_of_ble_eq_true rfl⟩) hP hD hK hS hA (fun z52 u53 H locs w54 hP hD hK hS => ?_)
      obtain ⟨V56, L57⟩ := u53
      obtain ⟨hMV56, ajV56, axL57, rgz52, t55⟩ := w54
      have alL57 : agL [6, 44] L L57 := agL.tr alL49 axL57 (by decide)
      have hP : va_P D vwCl (xw ad kk V56 L57 Z) H := hP
      have hD : va_D A (xw ad kk V56 L57 Z) := hD
      have hMV56 : rgd bX V56 := hMV56
      have ajV56 : agr [(1, 3), (1, 8), (6, 8), (6, 9), (6, 10)] [] V48 V56 := ajV56
      have agV56 : agr [(1, 3), (1, 6), (1, 8), (6, 8), (6, 9), (6, 10)] [43, 44, 52, 53, 54, 55] V V56 := agV48.tr ajV56 (by decide) (by decide)
      have fwV56 : frX (xR b) V V56 := frX.tr fwV48 (frX.ag ajV56 (by decide) (by decide))
      have rgz52 : 0 ≤ z52.toInt ∧ z52.toInt ≤ 1 := rgz52
      have t55 : Imp (z52.toInt = 1) ((Int32.toInt 0) ≤ (V56 1 8).toInt ∧ (V56 1 8).toInt ≤ (Int32.toInt 9)) := t55
      have r58 : 0 ≤ ((V56 1 8)).toInt ∧ ((V56 1 8)).toInt ≤ 999999999 := hMV56 1 8
      refine lv_if_ne (tgt := 62) hx hb dX1_readExtras_57 (by decide) (fun c59 => ?_) (fun c59 => ?_)
      · skip
        have f60 : z52.toInt ≠ 0 := b_neq rfl (by decide) c59
        refine lv_aload_n hx hb dX1_readExtras_62 rfl (lv_at hl 1 rfl) ?_
        refine lv_aload_n hx hb dX1_readExtras_63 rfl (lv_at hl 0 rfl) ?_
        refine va_get (D := D) (ci := 1) (v := .int (V56 1 8)) (fs := (xfReader ad V56 L57 Z)) (C := RX1) (T := TX1) (N := 9) hx hb hg inX1 hown hK hP 1 xgReader rfl 8 (by decide) (hg _ w312) (fun _ h9 => h9) rfl dX1_readExtras_64 ?_
        refine va_putN (D := D) (ci := 3) (v := .int (V56 1 8)) (ty := tyX3 8) (fs := (xfComp ad V56 gi)) (C := RX3) (T := TX3) (N := 13) hx hb hg inX3 tyX3 tyX3_ok nmX3 hown hK hP hD hS (72 + gi) (xgComp hgi) rfl 8 (by decide) (hnw.use 528 n528 rfl) (fun _ h9 => h9) rfl (tyX3_ok 8 (by decide)) rfl rfl (Nat.le_of_ble_eq_true rfl) dX1_readExtras_67 (fun H locs hP hD hS => ?_)
        obtain ⟨V61, hV61⟩ : ∃ z, z = up2 V56 53 gi (V56 1 8) := ⟨_, rfl⟩
        have ew62 : (xw ad kk V56 L57 Z).set (72 + gi) ((ad (72 + gi)), .inr (3, (xfComp ad V56 gi).set 8 (.int (V56 1 8)))) = xw ad kk V61 L57 Z := by rw [hV61]; exact xpComp_rank hgi
        have hP : va_P D vwCl (xw ad kk V61 L57 Z) H := by rw [← ew62]; exact hP
        have hD : va_D A (xw ad kk V61 L57 Z) := by rw [← ew62]; exact hD
        have hMV61 : rgd bX V61 := hMV56.put hV61 (i_full _)
        have agV61 : agr [(1, 3), (1, 6), (1, 8), (6, 8), (6, 9), (6, 10)] [43, 44, 52, 53, 54, 55] V V61 := agV56.up hV61 rfl
        have fwV61 : frX (xR b) V V61 := frX.up fwV56 hV61 (Or.inr ⟨(by show 24 * b ≤ gi; first | omega | ((try (have i_t55 := Imp.go t55 (by omega))); omega)), (by show gi < 24 * b + 24; first | omega | ((try (have i_t55 := Imp.go t55 (by omega))); omega))⟩)
        refine lv_aload_n hx hb dX1_readExtras_70 rfl (lv_at hl 0 rfl) ?_
        refine va_get (D := D) (ci := 1) (v := .ref (ad 6)) (fs := (xfReader ad V61 L57 Z)) (C := RX1) (T := TX1) (N := 9) hx hb hg inX1 hown hK hP 1 xgReader rfl 0 (by decide) (hg _ w304) (fun _ h9 => h9) rfl dX1_readExtras_71 ?_
        refine va_getN (D := D) (ci := 9) (v := .int (V61 6 9)) (fs := (xfTape ad V61 L57 Z)) (C := RX9) (T := TX9) (N := 12) hx hb hg inX9 hown hK hP 6 xgTape rfl 9 (by decide) (hnw.use 262 n262 rfl) (fun _ h9 => h9) rfl dX1_readExtras_74 ?_
        refine g_top (v := (V56 6 9)) (up2_o hV61 (by decide)) ?_
        refine lv_sipush (v := 135) hx hb dX1_readExtras_77 (by decide) ?_
        refine lv_icmp_ne (tgt := 127) hx hb dX1_readExtras_80 (by decide) (fun c63 => ?_) (fun c63 => ?_)
        · skip
          have f64 : ((V56 6 9)).toInt ≠ 135 := b_neq rfl (by decide) c63
          refine lv_iconst (v := 1) hx hb dX1_readExtras_127 (by decide) ?_
          have px65 : px V V61 b := px.tr (px.rf : px V V b) (px.ag (show agr [(1, 3), (1, 8), (6, 8), (6, 9), (6, 10)] [53] V V61 from (agr.up (agr.tr (agr.tr agr.rf ajV48 (by decide) (by decide)) ajV56 (by decide) (by decide)) hV61 rfl)) (fun _ => rfl) (fun _ => rfl) (fun _ => rfl))
          exact W.zret (v := 1) hx hb hr rfl (fun t ht hW => ⟨⟨1, (V61, L57), rfl, ⟨hMV61, agV61, alL57, fwV61, (by decide), px65⟩, by rw [ht]; exact hP, va_K.moved hW.alike hK, hD⟩, hS.F ht⟩) hS.2.2 dX1_readExtras_128
        · skip
          have f66 : ((V56 6 9)).toInt = 135 := b_eq rfl (by decide) c63
          refine lv_aload_n hx hb dX1_readExtras_83 rfl (lv_at hl 0 rfl) ?_
          refine va_get (D := D) (ci := 1) (v := .ref (ad 6)) (fs := (xfReader ad V61 L57 Z)) (C := RX1) (T := TX1) (N := 9) hx hb hg inX1 hown hK hP 1 xgReader rfl 0 (by decide) (hg _ w304) (fun _ h9 => h9) rfl dX1_readExtras_84 ?_
          refine gA_void (gA_runV (As := []) (rest := []) (ci := 9) (q0 := 6) hx hb hml hown hg hP hD hK hS hA hnw hgk (x_next l D ks H.size ad kk V61 L57 Z  hMV61 ) w871 w852 w853 w157 w854 rfl xgTape hdV_yX9_next ⟨Nat.le_of_ble_eq_true rfl, Nat.le_of_ble_eq_true rfl⟩ rfl hl.1 rfl (Nat.le_of_ble_eq_true rfl) dX1_readExtras_87 ⟨Nat.le_of_ble_eq_true rfl, Nat.le_of_ble_eq_true rfl⟩) hP hD hK hS hA (fun u68 H locs w69 hP hD hK hS => ?_)
          obtain ⟨V70, L71⟩ := u68
          obtain ⟨hMV70, ajV70, axL71⟩ := w69
          have alL71 : agL [6, 44] L L71 := agL.tr alL57 axL71 (by decide)
          have hP : va_P D vwCl (xw ad kk V70 L71 Z) H := hP
          have hD : va_D A (xw ad kk V70 L71 Z) := hD
          have hMV70 : rgd bX V70 := hMV70
          have ajV70 : agr [(6, 8), (6, 9), (6, 10)] [] V61 V70 := ajV70
          have agV70 : agr [(1, 3), (1, 6), (1, 8), (6, 8), (6, 9), (6, 10)] [43, 44, 52, 53, 54, 55] V V70 := agV61.tr ajV70 (by decide) (by decide)
          have fwV70 : frX (xR b) V V70 := frX.tr fwV61 (frX.ag ajV70 (by decide) (by decide))
          refine lv_aload_n hx hb dX1_readExtras_90 rfl (lv_at hl 0 rfl) ?_
          have pq72 : (V70 1 1).toInt = ((V 1 1)).toInt := congrArg Int32.toInt ((ajV70 1 1 rfl).trans ((up2_o hV61 (by decide)).trans ((ajV56 1 1 rfl).trans (ajV48 1 1 rfl))))
          refine gA_int (gA_runV (As := []) (rest := []) (ci := 1) (q0 := 1) hx hb hml hown hg hP hD hK hS hA hnw hgk (x_takeSetting l D ks H.size ad kk V70 L71 Z (b) hMV70 (show b < 2 from by first | omega | ((try (have i_t55 := Imp.go t55 (by omega))); omega)) (show (V70 1 1).toInt = (b : Int) from by first | omega | ((try (have i_t55 := Imp.go t55 (by omega))); omega))) w931 w933 w17 w162 w934 rfl xgReader hdV_yX1_takeSetting ⟨Nat.le_of_ble_eq_true rfl, Nat.le_of_ble_eq_true rfl⟩ rfl hl.1 rfl (Nat.le_of_ble_eq_true rfl) dX1_readExtras_91 ⟨Nat.le_of_ble_eq_true rfl, Nat.le_of_ble_eq_true rfl⟩) hP hD hK hS hA (fun z73 u74 H locs w75 hP hD hK hS => ?_)
          obtain ⟨V77, L78⟩ := u74
          obtain ⟨hMV77, ajV77, axL78, rgz73, t76⟩ := w75
          have alL78 : agL [6, 44] L L78 := agL.tr alL71 axL78 (by decide)
          have hP : va_P D vwCl (xw ad kk V77 L78 Z) H := hP
          have hD : va_D A (xw ad kk V77 L78 Z) := hD
          have hMV77 : rgd bX V77 := hMV77
          have ajV77 : agr [(1, 3), (1, 6), (6, 8), (6, 9), (6, 10)] [] V70 V77 := ajV77
          have agV77 : agr [(1, 3), (1, 6), (1, 8), (6, 8), (6, 9), (6, 10)] [43, 44, 52, 53, 54, 55] V V77 := agV70.tr ajV77 (by decide) (by decide)
          have fwV77 : frX (xR b) V V77 := frX.tr fwV70 (frX.ag ajV77 (by decide) (by decide))
          have rgz73 : 0 ≤ z73.toInt ∧ z73.toInt ≤ 1 := rgz73
          have t76 : Imp (z73.toInt = 1) (0 ≤ (V77 1 6).toInt ∧ (V77 1 6).toInt ≤ 11) := t76
          have r79 : (-1) ≤ ((V77 1 6)).toInt ∧ ((V77 1 6)).toInt ≤ 23 := hMV77 1 6
          refine lv_if_ne (tgt := 99) hx hb dX1_readExtras_94 (by decide) (fun c80 => ?_) (fun c80 => ?_)
          · skip
            have f81 : z73.toInt ≠ 0 := b_neq rfl (by decide) c80
            refine lv_aload_n hx hb dX1_readExtras_99 rfl (lv_at hl 1 rfl) ?_
            refine lv_aload_n hx hb dX1_readExtras_100 rfl (lv_at hl 0 rfl) ?_
            refine va_get (D := D) (ci := 1) (v := .int (V77 1 6)) (fs := (xfReader ad V77 L78 Z)) (C := RX1) (T := TX1) (N := 9) hx hb hg inX1 hown hK hP 1 xgReader rfl 6 (by decide) (hg _ w310) (fun _ h9 => h9) rfl dX1_readExtras_101 ?_
            refine va_putN (D := D) (ci := 3) (v := .int (V77 1 6)) (ty := tyX3 9) (fs := (xfComp ad V77 gi)) (C := RX3) (T := TX3) (N := 13) hx hb hg inX3 tyX3 tyX3_ok nmX3 hown hK hP hD hS (72 + gi) (xgComp hgi) rfl 9 (by decide) (hnw.use 533 n533 rfl) (fun _ h9 => h9) rfl (tyX3_ok 9 (by decide)) rfl rfl (Nat.le_of_ble_eq_true rfl) dX1_readExtras_104 (fun H locs hP hD hS => ?_)
            obtain ⟨V82, hV82⟩ : ∃ z, z = up2 V77 54 gi (V77 1 6) := ⟨_, rfl⟩
            have ew83 : (xw ad kk V77 L78 Z).set (72 + gi) ((ad (72 + gi)), .inr (3, (xfComp ad V77 gi).set 9 (.int (V77 1 6)))) = xw ad kk V82 L78 Z := by rw [hV82]; exact xpComp_whenSetting hgi
            have hP : va_P D vwCl (xw ad kk V82 L78 Z) H := by rw [← ew83]; exact hP
            have hD : va_D A (xw ad kk V82 L78 Z) := by rw [← ew83]; exact hD
            have hMV82 : rgd bX V82 := hMV77.put hV82 (show (-1) ≤ ((V77 1 6)).toInt ∧ ((V77 1 6)).toInt ≤ 11 from by first | omega | ((try (have i_t76 := Imp.go t76 (by omega))); (try (have i_t55 := Imp.go t55 (by omega))); (try (have i_t55 := Imp.go t55 (by omega))); (try (have i_t76 := Imp.go t76 (by omega))); omega))
            have agV82 : agr [(1, 3), (1, 6), (1, 8), (6, 8), (6, 9), (6, 10)] [43, 44, 52, 53, 54, 55] V V82 := agV77.up hV82 rfl
            have fwV82 : frX (xR b) V V82 := frX.up fwV77 hV82 (Or.inr ⟨(by show 24 * b ≤ gi; first | omega | ((try (have i_t76 := Imp.go t76 (by omega))); (try (have i_t55 := Imp.go t55 (by omega))); (try (have i_t55 := Imp.go t55 (by omega))); (try (have i_t76 := Imp.go t76 (by omega))); omega)), (by show gi < 24 * b + 24; first | omega | ((try (have i_t76 := Imp.go t76 (by omega))); (try (have i_t55 := Imp.go t55 (by omega))); (try (have i_t55 := Imp.go t55 (by omega))); (try (have i_t76 := Imp.go t76 (by omega))); omega))⟩)
            refine lv_aload_n hx hb dX1_readExtras_107 rfl (lv_at hl 0 rfl) ?_
            refine lv_iconst (v := 0) hx hb dX1_readExtras_108 (by decide) ?_
            refine lv_ldc (v := 999999999) hx hb hown (hg _ w905) dX1_readExtras_109 ?_
            have r84 : Int32.toInt 999999999 = 999999999 := by decide
            refine gA_int (gA_runV (As := [.int 0, .int 999999999]) (rest := []) (ci := 1) (q0 := 1) hx hb hml hown hg hP hD hK hS hA hnw hgk (x_takeNumber l D ks H.size ad kk V82 L78 Z 0 999999999 hMV82 (show 0 ≤ (Int32.toInt 0) from by first | omega | ((try (have i_t76 := Imp.go t76 (by omega))); (try (have i_t55 := Imp.go t55 (by omega))); (try (have i_t55 := Imp.go t55 (by omega))); (try (have i_t76 := Imp.go t76 (by omega))); omega)) (show (Int32.toInt 999999999) ≤ 999999999 from by first | omega | ((try (have i_t76 := Imp.go t76 (by omega))); (try (have i_t55 := Imp.go t55 (by omega))); (try (have i_t55 := Imp.go t55 (by omega))); (try (have i_t76 := Imp.go t76 (by omega))); omega))) w906 w908 w12 w162 w909 rfl xgReader hdV_yX1_takeNumber ⟨Nat.le_of_ble_eq_true rfl, Nat.le_of_ble_eq_true rfl⟩ rfl hl.1 rfl (Nat.le_of_ble_eq_true rfl) dX1_readExtras_111 ⟨Nat.le_of_ble_eq_true rfl, Nat.le_of_ble_eq_true rfl⟩) hP hD hK hS hA (fun z85 u86 H locs w87 hP hD hK hS => ?_)
            obtain ⟨V89, L90⟩ := u86
            obtain ⟨hMV89, ajV89, axL90, rgz85, t88⟩ := w87
            have alL90 : agL [6, 44] L L90 := agL.tr alL78 axL90 (by decide)
            have hP : va_P D vwCl (xw ad kk V89 L90 Z) H := hP
            have hD : va_D A (xw ad kk V89 L90 Z) := hD
            have hMV89 : rgd bX V89 := hMV89
            have ajV89 : agr [(1, 3), (1, 8), (6, 8), (6, 9), (6, 10)] [] V82 V89 := ajV89
            have agV89 : agr [(1, 3), (1, 6), (1, 8), (6, 8), (6, 9), (6, 10)] [43, 44, 52, 53, 54, 55] V V89 := agV82.tr ajV89 (by decide) (by decide)
            have fwV89 : frX (xR b) V V89 := frX.tr fwV82 (frX.ag ajV89 (by decide) (by decide))
            have rgz85 : 0 ≤ z85.toInt ∧ z85.toInt ≤ 1 := rgz85
            have t88 : Imp (z85.toInt = 1) ((Int32.toInt 0) ≤ (V89 1 8).toInt ∧ (V89 1 8).toInt ≤ (Int32.toInt 999999999)) := t88
            have r91 : 0 ≤ ((V89 1 8)).toInt ∧ ((V89 1 8)).toInt ≤ 999999999 := hMV89 1 8
            refine lv_if_ne (tgt := 119) hx hb dX1_readExtras_114 (by decide) (fun c92 => ?_) (fun c92 => ?_)
            · skip
              have f93 : z85.toInt ≠ 0 := b_neq rfl (by decide) c92
              refine lv_aload_n hx hb dX1_readExtras_119 rfl (lv_at hl 1 rfl) ?_
              refine lv_aload_n hx hb dX1_readExtras_120 rfl (lv_at hl 0 rfl) ?_
              refine va_get (D := D) (ci := 1) (v := .int (V89 1 8)) (fs := (xfReader ad V89 L90 Z)) (C := RX1) (T := TX1) (N := 9) hx hb hg inX1 hown hK hP 1 xgReader rfl 8 (by decide) (hg _ w312) (fun _ h9 => h9) rfl dX1_readExtras_121 ?_
              refine va_putN (D := D) (ci := 3) (v := .int (V89 1 8)) (ty := tyX3 10) (fs := (xfComp ad V89 gi)) (C := RX3) (T := TX3) (N := 13) hx hb hg inX3 tyX3 tyX3_ok nmX3 hown hK hP hD hS (72 + gi) (xgComp hgi) rfl 10 (by decide) (hnw.use 536 n536 rfl) (fun _ h9 => h9) rfl (tyX3_ok 10 (by decide)) rfl rfl (Nat.le_of_ble_eq_true rfl) dX1_readExtras_124 (fun H locs hP hD hS => ?_)
              obtain ⟨V94, hV94⟩ : ∃ z, z = up2 V89 55 gi (V89 1 8) := ⟨_, rfl⟩
              have ew95 : (xw ad kk V89 L90 Z).set (72 + gi) ((ad (72 + gi)), .inr (3, (xfComp ad V89 gi).set 10 (.int (V89 1 8)))) = xw ad kk V94 L90 Z := by rw [hV94]; exact xpComp_whenValue hgi
              have hP : va_P D vwCl (xw ad kk V94 L90 Z) H := by rw [← ew95]; exact hP
              have hD : va_D A (xw ad kk V94 L90 Z) := by rw [← ew95]; exact hD
              have hMV94 : rgd bX V94 := hMV89.put hV94 (i_full _)
              have agV94 : agr [(1, 3), (1, 6), (1, 8), (6, 8), (6, 9), (6, 10)] [43, 44, 52, 53, 54, 55] V V94 := agV89.up hV94 rfl
              have fwV94 : frX (xR b) V V94 := frX.up fwV89 hV94 (Or.inr ⟨(by show 24 * b ≤ gi; first | omega | ((try (have i_t88 := Imp.go t88 (by omega))); (try (have i_t76 := Imp.go t76 (by omega))); (try (have i_t55 := Imp.go t55 (by omega))); (try (have i_t55 := Imp.go t55 (by omega))); (try (have i_t76 := Imp.go t76 (by omega))); (try (have i_t88 := Imp.go t88 (by omega))); omega)), (by show gi < 24 * b + 24; first | omega | ((try (have i_t88 := Imp.go t88 (by omega))); (try (have i_t76 := Imp.go t76 (by omega))); (try (have i_t55 := Imp.go t55 (by omega))); (try (have i_t55 := Imp.go t55 (by omega))); (try (have i_t76 := Imp.go t76 (by omega))); (try (have i_t88 := Imp.go t88 (by omega))); omega))⟩)
              refine lv_iconst (v := 1) hx hb dX1_readExtras_127 (by decide) ?_
              have px96 : px V V94 b := px.tr (px.rf : px V V b) (px.ag (show agr [(1, 3), (1, 6), (1, 8), (6, 8), (6, 9), (6, 10)] [53, 54, 55] V V94 from (agr.up (agr.tr (agr.up (agr.tr (agr.tr (agr.up (agr.tr (agr.tr agr.rf ajV48 (by decide) (by decide)) ajV56 (by decide) (by decide)) hV61 rfl) ajV70 (by decide) (by decide)) ajV77 (by decide) (by decide)) hV82 rfl) ajV89 (by decide) (by decide)) hV94 rfl)) (fun _ => rfl) (fun _ => rfl) (fun _ => rfl))
              exact W.zret (v := 1) hx hb hr rfl (fun t ht hW => ⟨⟨1, (V94, L90), rfl, ⟨hMV94, agV94, alL90, fwV94, (by decide), px96⟩, by rw [ht]; exact hP, va_K.moved hW.alike hK, hD⟩, hS.F ht⟩) hS.2.2 dX1_readExtras_128
            · skip
              have f97 : z85.toInt = 0 := b_eq rfl (by decide) c92
              refine lv_iconst (v := 0) hx hb dX1_readExtras_117 (by decide) ?_
              have px98 : px V V89 b := px.tr (px.rf : px V V b) (px.ag (show agr [(1, 3), (1, 6), (1, 8), (6, 8), (6, 9), (6, 10)] [53, 54] V V89 from (agr.tr (agr.up (agr.tr (agr.tr (agr.up (agr.tr (agr.tr agr.rf ajV48 (by decide) (by decide)) ajV56 (by decide) (by decide)) hV61 rfl) ajV70 (by decide) (by decide)) ajV77 (by decide) (by decide)) hV82 rfl) ajV89 (by decide) (by decide))) (fun _ => rfl) (fun _ => rfl) (fun _ => rfl))
              exact W.zret (v := 0) hx hb hr rfl (fun t ht hW => ⟨⟨0, (V89, L90), rfl, ⟨hMV89, agV89, alL90, fwV89, (by decide), px98⟩, by rw [ht]; exact hP, va_K.moved hW.alike hK, hD⟩, hS.F ht⟩) hS.2.2 dX1_readExtras_118
          · skip
            have f99 : z73.toInt = 0 := b_eq rfl (by decide) c80
            refine lv_iconst (v := 0) hx hb dX1_readExtras_97 (by decide) ?_
            have px100 : px V V77 b := px.tr (px.rf : px V V b) (px.ag (show agr [(1, 3), (1, 6), (1, 8), (6, 8), (6, 9), (6, 10)] [53] V V77 from (agr.tr (agr.tr (agr.up (agr.tr (agr.tr agr.rf ajV48 (by decide) (by decide)) ajV56 (by decide) (by decide)) hV61 rfl) ajV70 (by decide) (by decide)) ajV77 (by decide) (by decide))) (fun _ => rfl) (fun _ => rfl) (fun _ => rfl))
            exact W.zret (v := 0) hx hb hr rfl (fun t ht hW => ⟨⟨0, (V77, L78), rfl, ⟨hMV77, agV77, alL78, fwV77, (by decide), px100⟩, by rw [ht]; exact hP, va_K.moved hW.alike hK, hD⟩, hS.F ht⟩) hS.2.2 dX1_readExtras_98
      · skip
        have f101 : z52.toInt = 0 := b_eq rfl (by decide) c59
        refine lv_iconst (v := 0) hx hb dX1_readExtras_60 (by decide) ?_
        have px102 : px V V56 b := px.tr (px.rf : px V V b) (px.ag (show agr [(1, 3), (1, 8), (6, 8), (6, 9), (6, 10)] [] V V56 from (agr.tr (agr.tr agr.rf ajV48 (by decide) (by decide)) ajV56 (by decide) (by decide))) (fun _ => rfl) (fun _ => rfl) (fun _ => rfl))
        exact W.zret (v := 0) hx hb hr rfl (fun t ht hW => ⟨⟨0, (V56, L57), rfl, ⟨hMV56, agV56, alL57, fwV56, (by decide), px102⟩, by rw [ht]; exact hP, va_K.moved hW.alike hK, hD⟩, hS.F ht⟩) hS.2.2 dX1_readExtras_61
  · skip
    have f103 : ((V 6 9)).toInt = 133 := b_eq rfl (by decide) c2
    refine lv_aload_n hx hb dX1_readExtras_13 rfl (lv_at hl 0 rfl) ?_
    refine gA_int (gA_runV (As := []) (rest := []) (ci := 1) (q0 := 1) hx hb hml hown hg hP hD hK hS hA hnw hgk (x_takeCalled l D ks H.size ad kk V L Z (b) hMV (show b < 2 from by omega) (show (V 1 1).toInt = (b : Int) from by omega)) w923 w925 w15 w162 w926 rfl xgReader hdV_yX1_takeCalled ⟨Nat.le_of_ble_eq_true rfl, Nat.le_of_ble_eq_true rfl⟩ rfl hl.1 rfl (Nat.le_of_ble_eq_true rfl) dX1_readExtras_14 ⟨Nat.le_of_ble_eq_true rfl, Nat.le_of_ble_eq_true rfl⟩) hP hD hK hS hA (fun z104 u105 H locs w106 hP hD hK hS => ?_)
    obtain ⟨V108, L109⟩ := u105
    obtain ⟨hMV108, ajV108, axL109, fyV108, rgz104, t107⟩ := w106
    have alL109 : agL [6, 44] L L109 := agL.tr alL axL109 (by decide)
    have hP : va_P D vwCl (xw ad kk V108 L109 Z) H := hP
    have hD : va_D A (xw ad kk V108 L109 Z) := hD
    have hMV108 : rgd bX V108 := hMV108
    have ajV108 : agr [(1, 3), (1, 6), (6, 8), (6, 9), (6, 10)] [43, 44] V V108 := ajV108
    have agV108 : agr [(1, 3), (1, 6), (1, 8), (6, 8), (6, 9), (6, 10)] [43, 44, 52, 53, 54, 55] V V108 := agV.tr ajV108 (by decide) (by decide)
    have fwV108 : frX (xR b) V V108 := frX.tr fwV (fyV108)
    have rgz104 : 0 ≤ z104.toInt ∧ z104.toInt ≤ 1 := rgz104
    have t107 : px V V108 b := t107
    refine lv_if_ne (tgt := 22) hx hb dX1_readExtras_17 (by decide) (fun c110 => ?_) (fun c110 => ?_)
    · skip
      have f111 : z104.toInt ≠ 0 := b_neq rfl (by decide) c110
      refine lv_aload_n hx hb dX1_readExtras_22 rfl (lv_at hl 1 rfl) ?_
      refine lv_aload_n hx hb dX1_readExtras_23 rfl (lv_at hl 0 rfl) ?_
      refine va_get (D := D) (ci := 1) (v := .int (V108 1 6)) (fs := (xfReader ad V108 L109 Z)) (C := RX1) (T := TX1) (N := 9) hx hb hg inX1 hown hK hP 1 xgReader rfl 6 (by decide) (hg _ w310) (fun _ h9 => h9) rfl dX1_readExtras_24 ?_
      have r112 : (-1) ≤ ((V108 1 6)).toInt ∧ ((V108 1 6)).toInt ≤ 23 := hMV108 1 6
      refine va_putN (D := D) (ci := 3) (v := .int (V108 1 6)) (ty := tyX3 7) (fs := (xfComp ad V108 gi)) (C := RX3) (T := TX3) (N := 13) hx hb hg inX3 tyX3 tyX3_ok nmX3 hown hK hP hD hS (72 + gi) (xgComp hgi) rfl 7 (by decide) (hnw.use 524 n524 rfl) (fun _ h9 => h9) rfl (tyX3_ok 7 (by decide)) rfl rfl (Nat.le_of_ble_eq_true rfl) dX1_readExtras_27 (fun H locs hP hD hS => ?_)
      obtain ⟨V113, hV113⟩ : ∃ z, z = up2 V108 52 gi (V108 1 6) := ⟨_, rfl⟩
      have ew114 : (xw ad kk V108 L109 Z).set (72 + gi) ((ad (72 + gi)), .inr (3, (xfComp ad V108 gi).set 7 (.int (V108 1 6)))) = xw ad kk V113 L109 Z := by rw [hV113]; exact xpComp_calledWord hgi
      have hP : va_P D vwCl (xw ad kk V113 L109 Z) H := by rw [← ew114]; exact hP
      have hD : va_D A (xw ad kk V113 L109 Z) := by rw [← ew114]; exact hD
      have hMV113 : rgd bX V113 := hMV108.put hV113 (i_full _)
      have agV113 : agr [(1, 3), (1, 6), (1, 8), (6, 8), (6, 9), (6, 10)] [43, 44, 52, 53, 54, 55] V V113 := agV108.up hV113 rfl
      have fwV113 : frX (xR b) V V113 := frX.up fwV108 hV113 (Or.inr ⟨(by show 24 * b ≤ gi; omega), (by show gi < 24 * b + 24; omega)⟩)
      refine lv_aload_n hx hb dX1_readExtras_30 rfl (lv_at hl 0 rfl) ?_
      refine va_get (D := D) (ci := 1) (v := .ref (ad 6)) (fs := (xfReader ad V113 L109 Z)) (C := RX1) (T := TX1) (N := 9) hx hb hg inX1 hown hK hP 1 xgReader rfl 0 (by decide) (hg _ w304) (fun _ h9 => h9) rfl dX1_readExtras_31 ?_
      refine va_getN (D := D) (ci := 9) (v := .int (V113 6 9)) (fs := (xfTape ad V113 L109 Z)) (C := RX9) (T := TX9) (N := 12) hx hb hg inX9 hown hK hP 6 xgTape rfl 9 (by decide) (hnw.use 262 n262 rfl) (fun _ h9 => h9) rfl dX1_readExtras_34 ?_
      refine g_top (v := (V108 6 9)) (up2_o hV113 (by decide)) ?_
      refine lv_sipush (v := 134) hx hb dX1_readExtras_37 (by decide) ?_
      refine lv_icmp_ne (tgt := 70) hx hb dX1_readExtras_40 (by decide) (fun c115 => ?_) (fun c115 => ?_)
      · skip
        have f116 : ((V108 6 9)).toInt ≠ 134 := b_neq rfl (by decide) c115
        refine lv_aload_n hx hb dX1_readExtras_70 rfl (lv_at hl 0 rfl) ?_
        refine va_get (D := D) (ci := 1) (v := .ref (ad 6)) (fs := (xfReader ad V113 L109 Z)) (C := RX1) (T := TX1) (N := 9) hx hb hg inX1 hown hK hP 1 xgReader rfl 0 (by decide) (hg _ w304) (fun _ h9 => h9) rfl dX1_readExtras_71 ?_
        refine va_getN (D := D) (ci := 9) (v := .int (V113 6 9)) (fs := (xfTape ad V113 L109 Z)) (C := RX9) (T := TX9) (N := 12) hx hb hg inX9 hown hK hP 6 xgTape rfl 9 (by decide) (hnw.use 262 n262 rfl) (fun _ h9 => h9) rfl dX1_readExtras_74 ?_
        refine g_top (v := (V108 6 9)) (up2_o hV113 (by decide)) ?_
        refine lv_sipush (v := 135) hx hb dX1_readExtras_77 (by decide) ?_
        refine lv_icmp_ne (tgt := 127) hx hb dX1_readExtras_80 (by decide) (fun c117 => ?_) (fun c117 => ?_)
        · skip
          have f118 : ((V108 6 9)).toInt ≠ 135 := b_neq rfl (by decide) c117
          refine lv_iconst (v := 1) hx hb dX1_readExtras_127 (by decide) ?_
          have px119 : px V V108 b := px.tr (px.rf : px V V b) t107
          have px120 : px V V113 b := px.tr px119 (px.ag (show agr [] [52] V108 V113 from (agr.up agr.rf hV113 rfl)) (fun _ => rfl) (fun _ => rfl) (fun _ => rfl))
          exact W.zret (v := 1) hx hb hr rfl (fun t ht hW => ⟨⟨1, (V113, L109), rfl, ⟨hMV113, agV113, alL109, fwV113, (by decide), px120⟩, by rw [ht]; exact hP, va_K.moved hW.alike hK, hD⟩, hS.F ht⟩) hS.2.2 dX1_readExtras_128
        · skip
          have f121 : ((V108 6 9)).toInt = 135 := b_eq rfl (by decide) c117
          refine lv_aload_n hx hb dX1_readExtras_83 rfl (lv_at hl 0 rfl) ?_
          refine va_get (D := D) (ci := 1) (v := .ref (ad 6)) (fs := (xfReader ad V113 L109 Z)) (C := RX1) (T := TX1) (N := 9) hx hb hg inX1 hown hK hP 1 xgReader rfl 0 (by decide) (hg _ w304) (fun _ h9 => h9) rfl dX1_readExtras_84 ?_
          refine gA_void (gA_runV (As := []) (rest := []) (ci := 9) (q0 := 6) hx hb hml hown hg hP hD hK hS hA hnw hgk (x_next l D ks H.size ad kk V113 L109 Z  hMV113 ) w871 w852 w853 w157 w854 rfl xgTape hdV_yX9_next ⟨Nat.le_of_ble_eq_true rfl, Nat.le_of_ble_eq_true rfl⟩ rfl hl.1 rfl (Nat.le_of_ble_eq_true rfl) dX1_readExtras_87 ⟨Nat.le_of_ble_eq_true rfl, Nat.le_of_ble_eq_true rfl⟩) hP hD hK hS hA (fun u123 H locs w124 hP hD hK hS => ?_)
          obtain ⟨V125, L126⟩ := u123
          obtain ⟨hMV125, ajV125, axL126⟩ := w124
          have alL126 : agL [6, 44] L L126 := agL.tr alL109 axL126 (by decide)
          have hP : va_P D vwCl (xw ad kk V125 L126 Z) H := hP
          have hD : va_D A (xw ad kk V125 L126 Z) := hD
          have hMV125 : rgd bX V125 := hMV125
          have ajV125 : agr [(6, 8), (6, 9), (6, 10)] [] V113 V125 := ajV125
          have agV125 : agr [(1, 3), (1, 6), (1, 8), (6, 8), (6, 9), (6, 10)] [43, 44, 52, 53, 54, 55] V V125 := agV113.tr ajV125 (by decide) (by decide)
          have fwV125 : frX (xR b) V V125 := frX.tr fwV113 (frX.ag ajV125 (by decide) (by decide))
          refine lv_aload_n hx hb dX1_readExtras_90 rfl (lv_at hl 0 rfl) ?_
          have pq127 : (V125 1 1).toInt = ((V 1 1)).toInt := congrArg Int32.toInt ((ajV125 1 1 rfl).trans ((up2_o hV113 (by decide)).trans (ajV108 1 1 rfl)))
          refine gA_int (gA_runV (As := []) (rest := []) (ci := 1) (q0 := 1) hx hb hml hown hg hP hD hK hS hA hnw hgk (x_takeSetting l D ks H.size ad kk V125 L126 Z (b) hMV125 (show b < 2 from by omega) (show (V125 1 1).toInt = (b : Int) from by omega)) w931 w933 w17 w162 w934 rfl xgReader hdV_yX1_takeSetting ⟨Nat.le_of_ble_eq_true rfl, Nat.le_of_ble_eq_true rfl⟩ rfl hl.1 rfl (Nat.le_of_ble_eq_true rfl) dX1_readExtras_91 ⟨Nat.le_of_ble_eq_true rfl, Nat.le_of_ble_eq_true rfl⟩) hP hD hK hS hA (fun z128 u129 H locs w130 hP hD hK hS => ?_)
          obtain ⟨V132, L133⟩ := u129
          obtain ⟨hMV132, ajV132, axL133, rgz128, t131⟩ := w130
          have alL133 : agL [6, 44] L L133 := agL.tr alL126 axL133 (by decide)
          have hP : va_P D vwCl (xw ad kk V132 L133 Z) H := hP
          have hD : va_D A (xw ad kk V132 L133 Z) := hD
          have hMV132 : rgd bX V132 := hMV132
          have ajV132 : agr [(1, 3), (1, 6), (6, 8), (6, 9), (6, 10)] [] V125 V132 := ajV132
          have agV132 : agr [(1, 3), (1, 6), (1, 8), (6, 8), (6, 9), (6, 10)] [43, 44, 52, 53, 54, 55] V V132 := agV125.tr ajV132 (by decide) (by decide)
          have fwV132 : frX (xR b) V V132 := frX.tr fwV125 (frX.ag ajV132 (by decide) (by decide))
          have rgz128 : 0 ≤ z128.toInt ∧ z128.toInt ≤ 1 := rgz128
          have t131 : Imp (z128.toInt = 1) (0 ≤ (V132 1 6).toInt ∧ (V132 1 6).toInt ≤ 11) := t131
          have r134 : (-1) ≤ ((V132 1 6)).toInt ∧ ((V132 1 6)).toInt ≤ 23 := hMV132 1 6
          refine lv_if_ne (tgt := 99) hx hb dX1_readExtras_94 (by decide) (fun c135 => ?_) (fun c135 => ?_)
          · skip
            have f136 : z128.toInt ≠ 0 := b_neq rfl (by decide) c135
            refine lv_aload_n hx hb dX1_readExtras_99 rfl (lv_at hl 1 rfl) ?_
            refine lv_aload_n hx hb dX1_readExtras_100 rfl (lv_at hl 0 rfl) ?_
            refine va_get (D := D) (ci := 1) (v := .int (V132 1 6)) (fs := (xfReader ad V132 L133 Z)) (C := RX1) (T := TX1) (N := 9) hx hb hg inX1 hown hK hP 1 xgReader rfl 6 (by decide) (hg _ w310) (fun _ h9 => h9) rfl dX1_readExtras_101 ?_
            refine va_putN (D := D) (ci := 3) (v := .int (V132 1 6)) (ty := tyX3 9) (fs := (xfComp ad V132 gi)) (C := RX3) (T := TX3) (N := 13) hx hb hg inX3 tyX3 tyX3_ok nmX3 hown hK hP hD hS (72 + gi) (xgComp hgi) rfl 9 (by decide) (hnw.use 533 n533 rfl) (fun _ h9 => h9) rfl (tyX3_ok 9 (by decide)) rfl rfl (Nat.le_of_ble_eq_true rfl) dX1_readExtras_104 (fun H locs hP hD hS => ?_)
            obtain ⟨V137, hV137⟩ : ∃ z, z = up2 V132 54 gi (V132 1 6) := ⟨_, rfl⟩
            have ew138 : (xw ad kk V132 L133 Z).set (72 + gi) ((ad (72 + gi)), .inr (3, (xfComp ad V132 gi).set 9 (.int (V132 1 6)))) = xw ad kk V137 L133 Z := by rw [hV137]; exact xpComp_whenSetting hgi
            have hP : va_P D vwCl (xw ad kk V137 L133 Z) H := by rw [← ew138]; exact hP
            have hD : va_D A (xw ad kk V137 L133 Z) := by rw [← ew138]; exact hD
            have hMV137 : rgd bX V137 := hMV132.put hV137 (show (-1) ≤ ((V132 1 6)).toInt ∧ ((V132 1 6)).toInt ≤ 11 from by first | omega | ((try (have i_t131 := Imp.go t131 (by omega))); omega))
            have agV137 : agr [(1, 3), (1, 6), (1, 8), (6, 8), (6, 9), (6, 10)] [43, 44, 52, 53, 54, 55] V V137 := agV132.up hV137 rfl
            have fwV137 : frX (xR b) V V137 := frX.up fwV132 hV137 (Or.inr ⟨(by show 24 * b ≤ gi; first | omega | ((try (have i_t131 := Imp.go t131 (by omega))); omega)), (by show gi < 24 * b + 24; first | omega | ((try (have i_t131 := Imp.go t131 (by omega))); omega))⟩)
            refine lv_aload_n hx hb dX1_readExtras_107 rfl (lv_at hl 0 rfl) ?_
            refine lv_iconst (v := 0) hx hb dX1_readExtras_108 (by decide) ?_
            refine lv_ldc (v := 999999999) hx hb hown (hg _ w905) dX1_readExtras_109 ?_
            have r139 : Int32.toInt 0 = 0 := by decide
            have r140 : Int32.toInt 999999999 = 999999999 := by decide
            refine gA_int (gA_runV (As := [.int 0, .int 999999999]) (rest := []) (ci := 1) (q0 := 1) hx hb hml hown hg hP hD hK hS hA hnw hgk (x_takeNumber l D ks H.size ad kk V137 L133 Z 0 999999999 hMV137 (show 0 ≤ (Int32.toInt 0) from by first | omega | ((try (have i_t131 := Imp.go t131 (by omega))); omega)) (show (Int32.toInt 999999999) ≤ 999999999 from by first | omega | ((try (have i_t131 := Imp.go t131 (by omega))); omega))) w906 w908 w12 w162 w909 rfl xgReader hdV_yX1_takeNumber ⟨Nat.le_of_ble_eq_true rfl, Nat.le_of_ble_eq_true rfl⟩ rfl hl.1 rfl (Nat.le_of_ble_eq_true rfl) dX1_readExtras_111 ⟨Nat.le_of_ble_eq_true rfl, Nat.le_of_ble_eq_true rfl⟩) hP hD hK hS hA (fun z141 u142 H locs w143 hP hD hK hS => ?_)
            obtain ⟨V145, L146⟩ := u142
            obtain ⟨hMV145, ajV145, axL146, rgz141, t144⟩ := w143
            have alL146 : agL [6, 44] L L146 := agL.tr alL133 axL146 (by decide)
            have hP : va_P D vwCl (xw ad kk V145 L146 Z) H := hP
            have hD : va_D A (xw ad kk V145 L146 Z) := hD
            have hMV145 : rgd bX V145 := hMV145
            have ajV145 : agr [(1, 3), (1, 8), (6, 8), (6, 9), (6, 10)] [] V137 V145 := ajV145
            have agV145 : agr [(1, 3), (1, 6), (1, 8), (6, 8), (6, 9), (6, 10)] [43, 44, 52, 53, 54, 55] V V145 := agV137.tr ajV145 (by decide) (by decide)
            have fwV145 : frX (xR b) V V145 := frX.tr fwV137 (frX.ag ajV145 (by decide) (by decide))
            have rgz141 : 0 ≤ z141.toInt ∧ z141.toInt ≤ 1 := rgz141
            have t144 : Imp (z141.toInt = 1) ((Int32.toInt 0) ≤ (V145 1 8).toInt ∧ (V145 1 8).toInt ≤ (Int32.toInt 999999999)) := t144
            have r147 : 0 ≤ ((V145 1 8)).toInt ∧ ((V145 1 8)).toInt ≤ 999999999 := hMV145 1 8
            refine lv_if_ne (tgt := 119) hx hb dX1_readExtras_114 (by decide) (fun c148 => ?_) (fun c148 => ?_)
            · skip
              have f149 : z141.toInt ≠ 0 := b_neq rfl (by decide) c148
              refine lv_aload_n hx hb dX1_readExtras_119 rfl (lv_at hl 1 rfl) ?_
              refine lv_aload_n hx hb dX1_readExtras_120 rfl (lv_at hl 0 rfl) ?_
              refine va_get (D := D) (ci := 1) (v := .int (V145 1 8)) (fs := (xfReader ad V145 L146 Z)) (C := RX1) (T := TX1) (N := 9) hx hb hg inX1 hown hK hP 1 xgReader rfl 8 (by decide) (hg _ w312) (fun _ h9 => h9) rfl dX1_readExtras_121 ?_
              refine va_putN (D := D) (ci := 3) (v := .int (V145 1 8)) (ty := tyX3 10) (fs := (xfComp ad V145 gi)) (C := RX3) (T := TX3) (N := 13) hx hb hg inX3 tyX3 tyX3_ok nmX3 hown hK hP hD hS (72 + gi) (xgComp hgi) rfl 10 (by decide) (hnw.use 536 n536 rfl) (fun _ h9 => h9) rfl (tyX3_ok 10 (by decide)) rfl rfl (Nat.le_of_ble_eq_true rfl) dX1_readExtras_124 (fun H locs hP hD hS => ?_)
              obtain ⟨V150, hV150⟩ : ∃ z, z = up2 V145 55 gi (V145 1 8) := ⟨_, rfl⟩
              have ew151 : (xw ad kk V145 L146 Z).set (72 + gi) ((ad (72 + gi)), .inr (3, (xfComp ad V145 gi).set 10 (.int (V145 1 8)))) = xw ad kk V150 L146 Z := by rw [hV150]; exact xpComp_whenValue hgi
              have hP : va_P D vwCl (xw ad kk V150 L146 Z) H := by rw [← ew151]; exact hP
              have hD : va_D A (xw ad kk V150 L146 Z) := by rw [← ew151]; exact hD
              have hMV150 : rgd bX V150 := hMV145.put hV150 (i_full _)
              have agV150 : agr [(1, 3), (1, 6), (1, 8), (6, 8), (6, 9), (6, 10)] [43, 44, 52, 53, 54, 55] V V150 := agV145.up hV150 rfl
              have fwV150 : frX (xR b) V V150 := frX.up fwV145 hV150 (Or.inr ⟨(by show 24 * b ≤ gi; first | omega | ((try (have i_t144 := Imp.go t144 (by omega))); (try (have i_t131 := Imp.go t131 (by omega))); (try (have i_t131 := Imp.go t131 (by omega))); (try (have i_t144 := Imp.go t144 (by omega))); omega)), (by show gi < 24 * b + 24; first | omega | ((try (have i_t144 := Imp.go t144 (by omega))); (try (have i_t131 := Imp.go t131 (by omega))); (try (have i_t131 := Imp.go t131 (by omega))); (try (have i_t144 := Imp.go t144 (by omega))); omega))⟩)
              refine lv_iconst (v := 1) hx hb dX1_readExtras_127 (by decide) ?_
              have px152 : px V V108 b := px.tr (px.rf : px V V b) t107
              have px153 : px V V150 b := px.tr px152 (px.ag (show agr [(1, 3), (1, 6), (1, 8), (6, 8), (6, 9), (6, 10)] [52, 54, 55] V108 V150 from (agr.up (agr.tr (agr.up (agr.tr (agr.tr (agr.up agr.rf hV113 rfl) ajV125 (by decide) (by decide)) ajV132 (by decide) (by decide)) hV137 rfl) ajV145 (by decide) (by decide)) hV150 rfl)) (fun _ => rfl) (fun _ => rfl) (fun _ => rfl))
              exact W.zret (v := 1) hx hb hr rfl (fun t ht hW => ⟨⟨1, (V150, L146), rfl, ⟨hMV150, agV150, alL146, fwV150, (by decide), px153⟩, by rw [ht]; exact hP, va_K.moved hW.alike hK, hD⟩, hS.F ht⟩) hS.2.2 dX1_readExtras_128
            · skip
              have f154 : z141.toInt = 0 := b_eq rfl (by decide) c148
              refine lv_iconst (v := 0) hx hb dX1_readExtras_117 (by decide) ?_
              have px155 : px V V108 b := px.tr (px.rf : px V V b) t107
              have px156 : px V V145 b := px.tr px155 (px.ag (show agr [(1, 3), (1, 6), (1, 8), (6, 8), (6, 9), (6, 10)] [52, 54] V108 V145 from (agr.tr (agr.up (agr.tr (agr.tr (agr.up agr.rf hV113 rfl) ajV125 (by decide) (by decide)) ajV132 (by decide) (by decide)) hV137 rfl) ajV145 (by decide) (by decide))) (fun _ => rfl) (fun _ => rfl) (fun _ => rfl))
              exact W.zret (v := 0) hx hb hr rfl (fun t ht hW => ⟨⟨0, (V145, L146), rfl, ⟨hMV145, agV145, alL146, fwV145, (by decide), px156⟩, by rw [ht]; exact hP, va_K.moved hW.alike hK, hD⟩, hS.F ht⟩) hS.2.2 dX1_readExtras_118
          · skip
            have f157 : z128.toInt = 0 := b_eq rfl (by decide) c135
            refine lv_iconst (v := 0) hx hb dX1_readExtras_97 (by decide) ?_
            have px158 : px V V108 b := px.tr (px.rf : px V V b) t107
            have px159 : px V V132 b := px.tr px158 (px.ag (show agr [(1, 3), (1, 6), (6, 8), (6, 9), (6, 10)] [52] V108 V132 from (agr.tr (agr.tr (agr.up agr.rf hV113 rfl) ajV125 (by decide) (by decide)) ajV132 (by decide) (by decide))) (fun _ => rfl) (fun _ => rfl) (fun _ => rfl))
            exact W.zret (v := 0) hx hb hr rfl (fun t ht hW => ⟨⟨0, (V132, L133), rfl, ⟨hMV132, agV132, alL133, fwV132, (by decide), px159⟩, by rw [ht]; exact hP, va_K.moved hW.alike hK, hD⟩, hS.F ht⟩) hS.2.2 dX1_readExtras_98
      · skip
        have f160 : ((V108 6 9)).toInt = 134 := b_eq rfl (by decide) c115
        refine lv_aload_n hx hb dX1_readExtras_43 rfl (lv_at hl 0 rfl) ?_
        refine va_get (D := D) (ci := 1) (v := .ref (ad 6)) (fs := (xfReader ad V113 L109 Z)) (C := RX1) (T := TX1) (N := 9) hx hb hg inX1 hown hK hP 1 xgReader rfl 0 (by decide) (hg _ w304) (fun _ h9 => h9) rfl dX1_readExtras_44 ?_
        refine gA_void (gA_runV (As := []) (rest := []) (ci := 9) (q0 := 6) hx hb hml hown hg hP hD hK hS hA hnw hgk (x_next l D ks H.size ad kk V113 L109 Z  hMV113 ) w871 w852 w853 w157 w854 rfl xgTape hdV_yX9_next ⟨Nat.le_of_ble_eq_true rfl, Nat.le_of_ble_eq_true rfl⟩ rfl hl.1 rfl (Nat.le_of_ble_eq_true rfl) dX1_readExtras_47 ⟨Nat.le_of_ble_eq_true rfl, Nat.le_of_ble_eq_true rfl⟩) hP hD hK hS hA (fun u162 H locs w163 hP hD hK hS => ?_)
        obtain ⟨V164, L165⟩ := u162
        obtain ⟨hMV164, ajV164, axL165⟩ := w163
        have alL165 : agL [6, 44] L L165 := agL.tr alL109 axL165 (by decide)
        have hP : va_P D vwCl (xw ad kk V164 L165 Z) H := hP
        have hD : va_D A (xw ad kk V164 L165 Z) := hD
        have hMV164 : rgd bX V164 := hMV164
        have ajV164 : agr [(6, 8), (6, 9), (6, 10)] [] V113 V164 := ajV164
        have agV164 : agr [(1, 3), (1, 6), (1, 8), (6, 8), (6, 9), (6, 10)] [43, 44, 52, 53, 54, 55] V V164 := agV113.tr ajV164 (by decide) (by decide)
        have fwV164 : frX (xR b) V V164 := frX.tr fwV113 (frX.ag ajV164 (by decide) (by decide))
        refine lv_aload_n hx hb dX1_readExtras_50 rfl (lv_at hl 0 rfl) ?_
        refine lv_iconst (v := 0) hx hb dX1_readExtras_51 (by decide) ?_
        refine lv_bipush (v := 9) hx hb dX1_readExtras_52 (by decide) ?_
        have r166 : Int32.toInt 0 = 0 := by decide
        have r167 : Int32.toInt 9 = 9 := by decide
        refine gA_int (gA_runV (As := [.int 0, .int 9]) (rest := []) (ci := 1) (q0 := 1) hx hb hml hown hg hP hD hK hS hA hnw hgk (x_takeNumber l D ks H.size ad kk V164 L165 Z 0 9 hMV164 (show 0 ≤ (Int32.toInt 0) from by omega) (show (Int32.toInt 9) ≤ 999999999 from by omega)) w906 w908 w12 w162 w909 rfl xgReader hdV_yX1_takeNumber ⟨Nat.le_of_ble_eq_true rfl, Nat.le_of_ble_eq_true rfl⟩ rfl hl.1 rfl (Nat.le_of_ble_eq_true rfl) dX1_readExtras_54 ⟨Nat.le_of_ble_eq_true rfl, Nat.le_of_ble_eq_true rfl⟩) hP hD hK hS hA (fun z168 u169 H locs w170 hP hD hK hS => ?_)
        obtain ⟨V172, L173⟩ := u169
        obtain ⟨hMV172, ajV172, axL173, rgz168, t171⟩ := w170
        have alL173 : agL [6, 44] L L173 := agL.tr alL165 axL173 (by decide)
        have hP : va_P D vwCl (xw ad kk V172 L173 Z) H := hP
        have hD : va_D A (xw ad kk V172 L173 Z) := hD
        have hMV172 : rgd bX V172 := hMV172
        have ajV172 : agr [(1, 3), (1, 8), (6, 8), (6, 9), (6, 10)] [] V164 V172 := ajV172
        have agV172 : agr [(1, 3), (1, 6), (1, 8), (6, 8), (6, 9), (6, 10)] [43, 44, 52, 53, 54, 55] V V172 := agV164.tr ajV172 (by decide) (by decide)
        have fwV172 : frX (xR b) V V172 := frX.tr fwV164 (frX.ag ajV172 (by decide) (by decide))
        have rgz168 : 0 ≤ z168.toInt ∧ z168.toInt ≤ 1 := rgz168
        have t171 : Imp (z168.toInt = 1) ((Int32.toInt 0) ≤ (V172 1 8).toInt ∧ (V172 1 8).toInt ≤ (Int32.toInt 9)) := t171
        have r174 : 0 ≤ ((V172 1 8)).toInt ∧ ((V172 1 8)).toInt ≤ 999999999 := hMV172 1 8
        refine lv_if_ne (tgt := 62) hx hb dX1_readExtras_57 (by decide) (fun c175 => ?_) (fun c175 => ?_)
        · skip
          have f176 : z168.toInt ≠ 0 := b_neq rfl (by decide) c175
          refine lv_aload_n hx hb dX1_readExtras_62 rfl (lv_at hl 1 rfl) ?_
          refine lv_aload_n hx hb dX1_readExtras_63 rfl (lv_at hl 0 rfl) ?_
          refine va_get (D := D) (ci := 1) (v := .int (V172 1 8)) (fs := (xfReader ad V172 L173 Z)) (C := RX1) (T := TX1) (N := 9) hx hb hg inX1 hown hK hP 1 xgReader rfl 8 (by decide) (hg _ w312) (fun _ h9 => h9) rfl dX1_readExtras_64 ?_
          refine va_putN (D := D) (ci := 3) (v := .int (V172 1 8)) (ty := tyX3 8) (fs := (xfComp ad V172 gi)) (C := RX3) (T := TX3) (N := 13) hx hb hg inX3 tyX3 tyX3_ok nmX3 hown hK hP hD hS (72 + gi) (xgComp hgi) rfl 8 (by decide) (hnw.use 528 n528 rfl) (fun _ h9 => h9) rfl (tyX3_ok 8 (by decide)) rfl rfl (Nat.le_of_ble_eq_true rfl) dX1_readExtras_67 (fun H locs hP hD hS => ?_)
          obtain ⟨V177, hV177⟩ : ∃ z, z = up2 V172 53 gi (V172 1 8) := ⟨_, rfl⟩
          have ew178 : (xw ad kk V172 L173 Z).set (72 + gi) ((ad (72 + gi)), .inr (3, (xfComp ad V172 gi).set 8 (.int (V172 1 8)))) = xw ad kk V177 L173 Z := by rw [hV177]; exact xpComp_rank hgi
          have hP : va_P D vwCl (xw ad kk V177 L173 Z) H := by rw [← ew178]; exact hP
          have hD : va_D A (xw ad kk V177 L173 Z) := by rw [← ew178]; exact hD
          have hMV177 : rgd bX V177 := hMV172.put hV177 (i_full _)
          have agV177 : agr [(1, 3), (1, 6), (1, 8), (6, 8), (6, 9), (6, 10)] [43, 44, 52, 53, 54, 55] V V177 := agV172.up hV177 rfl
          have fwV177 : frX (xR b) V V177 := frX.up fwV172 hV177 (Or.inr ⟨(by show 24 * b ≤ gi; first | omega | ((try (have i_t171 := Imp.go t171 (by omega))); omega)), (by show gi < 24 * b + 24; first | omega | ((try (have i_t171 := Imp.go t171 (by omega))); omega))⟩)
          refine lv_aload_n hx hb dX1_readExtras_70 rfl (lv_at hl 0 rfl) ?_
          refine va_get (D := D) (ci := 1) (v := .ref (ad 6)) (fs := (xfReader ad V177 L173 Z)) (C := RX1) (T := TX1) (N := 9) hx hb hg inX1 hown hK hP 1 xgReader rfl 0 (by decide) (hg _ w304) (fun _ h9 => h9) rfl dX1_readExtras_71 ?_
          refine va_getN (D := D) (ci := 9) (v := .int (V177 6 9)) (fs := (xfTape ad V177 L173 Z)) (C := RX9) (T := TX9) (N := 12) hx hb hg inX9 hown hK hP 6 xgTape rfl 9 (by decide) (hnw.use 262 n262 rfl) (fun _ h9 => h9) rfl dX1_readExtras_74 ?_
          refine g_top (v := (V172 6 9)) (up2_o hV177 (by decide)) ?_
          refine lv_sipush (v := 135) hx hb dX1_readExtras_77 (by decide) ?_
          refine lv_icmp_ne (tgt := 127) hx hb dX1_readExtras_80 (by decide) (fun c179 => ?_) (fun c179 => ?_)
          · skip
            have f180 : ((V172 6 9)).toInt ≠ 135 := b_neq rfl (by decide) c179
            refine lv_iconst (v := 1) hx hb dX1_readExtras_127 (by decide) ?_
            have px181 : px V V108 b := px.tr (px.rf : px V V b) t107
            have px182 : px V V177 b := px.tr px181 (px.ag (show agr [(1, 3), (1, 8), (6, 8), (6, 9), (6, 10)] [52, 53] V108 V177 from (agr.up (agr.tr (agr.tr (agr.up agr.rf hV113 rfl) ajV164 (by decide) (by decide)) ajV172 (by decide) (by decide)) hV177 rfl)) (fun _ => rfl) (fun _ => rfl) (fun _ => rfl))
            exact W.zret (v := 1) hx hb hr rfl (fun t ht hW => ⟨⟨1, (V177, L173), rfl, ⟨hMV177, agV177, alL173, fwV177, (by decide), px182⟩, by rw [ht]; exact hP, va_K.moved hW.alike hK, hD⟩, hS.F ht⟩) hS.2.2 dX1_readExtras_128
          · skip
            have f183 : ((V172 6 9)).toInt = 135 := b_eq rfl (by decide) c179
            refine lv_aload_n hx hb dX1_readExtras_83 rfl (lv_at hl 0 rfl) ?_
            refine va_get (D := D) (ci := 1) (v := .ref (ad 6)) (fs := (xfReader ad V177 L173 Z)) (C := RX1) (T := TX1) (N := 9) hx hb hg inX1 hown hK hP 1 xgReader rfl 0 (by decide) (hg _ w304) (fun _ h9 => h9) rfl dX1_readExtras_84 ?_
            refine gA_void (gA_runV (As := []) (rest := []) (ci := 9) (q0 := 6) hx hb hml hown hg hP hD hK hS hA hnw hgk (x_next l D ks H.size ad kk V177 L173 Z  hMV177 ) w871 w852 w853 w157 w854 rfl xgTape hdV_yX9_next ⟨Nat.le_of_ble_eq_true rfl, Nat.le_of_ble_eq_true rfl⟩ rfl hl.1 rfl (Nat.le_of_ble_eq_true rfl) dX1_readExtras_87 ⟨Nat.le_of_ble_eq_true rfl, Nat.le_of_ble_eq_true rfl⟩) hP hD hK hS hA (fun u185 H locs w186 hP hD hK hS => ?_)
            obtain ⟨V187, L188⟩ := u185
            obtain ⟨hMV187, ajV187, axL188⟩ := w186
            have alL188 : agL [6, 44] L L188 := agL.tr alL173 axL188 (by decide)
            have hP : va_P D vwCl (xw ad kk V187 L188 Z) H := hP
            have hD : va_D A (xw ad kk V187 L188 Z) := hD
            have hMV187 : rgd bX V187 := hMV187
            have ajV187 : agr [(6, 8), (6, 9), (6, 10)] [] V177 V187 := ajV187
            have agV187 : agr [(1, 3), (1, 6), (1, 8), (6, 8), (6, 9), (6, 10)] [43, 44, 52, 53, 54, 55] V V187 := agV177.tr ajV187 (by decide) (by decide)
            have fwV187 : frX (xR b) V V187 := frX.tr fwV177 (frX.ag ajV187 (by decide) (by decide))
            refine lv_aload_n hx hb dX1_readExtras_90 rfl (lv_at hl 0 rfl) ?_
            have pq189 : (V187 1 1).toInt = ((V 1 1)).toInt := congrArg Int32.toInt ((ajV187 1 1 rfl).trans ((up2_o hV177 (by decide)).trans ((ajV172 1 1 rfl).trans ((ajV164 1 1 rfl).trans ((up2_o hV113 (by decide)).trans (ajV108 1 1 rfl))))))
            refine gA_int (gA_runV (As := []) (rest := []) (ci := 1) (q0 := 1) hx hb hml hown hg hP hD hK hS hA hnw hgk (x_takeSetting l D ks H.size ad kk V187 L188 Z (b) hMV187 (show b < 2 from by first | omega | ((try (have i_t171 := Imp.go t171 (by omega))); omega)) (show (V187 1 1).toInt = (b : Int) from by first | omega | ((try (have i_t171 := Imp.go t171 (by omega))); omega))) w931 w933 w17 w162 w934 rfl xgReader hdV_yX1_takeSetting ⟨Nat.le_of_ble_eq_true rfl, Nat.le_of_ble_eq_true rfl⟩ rfl hl.1 rfl (Nat.le_of_ble_eq_true rfl) dX1_readExtras_91 ⟨Nat.le_of_ble_eq_true rfl, Nat.le_of_ble_eq_true rfl⟩) hP hD hK hS hA (fun z190 u191 H locs w192 hP hD hK hS => ?_)
            obtain ⟨V194, L195⟩ := u191
            obtain ⟨hMV194, ajV194, axL195, rgz190, t193⟩ := w192
            have alL195 : agL [6, 44] L L195 := agL.tr alL188 axL195 (by decide)
            have hP : va_P D vwCl (xw ad kk V194 L195 Z) H := hP
            have hD : va_D A (xw ad kk V194 L195 Z) := hD
            have hMV194 : rgd bX V194 := hMV194
            have ajV194 : agr [(1, 3), (1, 6), (6, 8), (6, 9), (6, 10)] [] V187 V194 := ajV194
            have agV194 : agr [(1, 3), (1, 6), (1, 8), (6, 8), (6, 9), (6, 10)] [43, 44, 52, 53, 54, 55] V V194 := agV187.tr ajV194 (by decide) (by decide)
            have fwV194 : frX (xR b) V V194 := frX.tr fwV187 (frX.ag ajV194 (by decide) (by decide))
            have rgz190 : 0 ≤ z190.toInt ∧ z190.toInt ≤ 1 := rgz190
            have t193 : Imp (z190.toInt = 1) (0 ≤ (V194 1 6).toInt ∧ (V194 1 6).toInt ≤ 11) := t193
            have r196 : (-1) ≤ ((V194 1 6)).toInt ∧ ((V194 1 6)).toInt ≤ 23 := hMV194 1 6
            refine lv_if_ne (tgt := 99) hx hb dX1_readExtras_94 (by decide) (fun c197 => ?_) (fun c197 => ?_)
            · skip
              have f198 : z190.toInt ≠ 0 := b_neq rfl (by decide) c197
              refine lv_aload_n hx hb dX1_readExtras_99 rfl (lv_at hl 1 rfl) ?_
              refine lv_aload_n hx hb dX1_readExtras_100 rfl (lv_at hl 0 rfl) ?_
              refine va_get (D := D) (ci := 1) (v := .int (V194 1 6)) (fs := (xfReader ad V194 L195 Z)) (C := RX1) (T := TX1) (N := 9) hx hb hg inX1 hown hK hP 1 xgReader rfl 6 (by decide) (hg _ w310) (fun _ h9 => h9) rfl dX1_readExtras_101 ?_
              refine va_putN (D := D) (ci := 3) (v := .int (V194 1 6)) (ty := tyX3 9) (fs := (xfComp ad V194 gi)) (C := RX3) (T := TX3) (N := 13) hx hb hg inX3 tyX3 tyX3_ok nmX3 hown hK hP hD hS (72 + gi) (xgComp hgi) rfl 9 (by decide) (hnw.use 533 n533 rfl) (fun _ h9 => h9) rfl (tyX3_ok 9 (by decide)) rfl rfl (Nat.le_of_ble_eq_true rfl) dX1_readExtras_104 (fun H locs hP hD hS => ?_)
              obtain ⟨V199, hV199⟩ : ∃ z, z = up2 V194 54 gi (V194 1 6) := ⟨_, rfl⟩
              have ew200 : (xw ad kk V194 L195 Z).set (72 + gi) ((ad (72 + gi)), .inr (3, (xfComp ad V194 gi).set 9 (.int (V194 1 6)))) = xw ad kk V199 L195 Z := by rw [hV199]; exact xpComp_whenSetting hgi
              have hP : va_P D vwCl (xw ad kk V199 L195 Z) H := by rw [← ew200]; exact hP
              have hD : va_D A (xw ad kk V199 L195 Z) := by rw [← ew200]; exact hD
              have hMV199 : rgd bX V199 := hMV194.put hV199 (show (-1) ≤ ((V194 1 6)).toInt ∧ ((V194 1 6)).toInt ≤ 11 from by first | omega | ((try (have i_t193 := Imp.go t193 (by omega))); (try (have i_t171 := Imp.go t171 (by omega))); (try (have i_t171 := Imp.go t171 (by omega))); (try (have i_t193 := Imp.go t193 (by omega))); omega))
              have agV199 : agr [(1, 3), (1, 6), (1, 8), (6, 8), (6, 9), (6, 10)] [43, 44, 52, 53, 54, 55] V V199 := agV194.up hV199 rfl
              have fwV199 : frX (xR b) V V199 := frX.up fwV194 hV199 (Or.inr ⟨(by show 24 * b ≤ gi; first | omega | ((try (have i_t193 := Imp.go t193 (by omega))); (try (have i_t171 := Imp.go t171 (by omega))); (try (have i_t171 := Imp.go t171 (by omega))); (try (have i_t193 := Imp.go t193 (by omega))); omega)), (by show gi < 24 * b + 24; first | omega | ((try (have i_t193 := Imp.go t193 (by omega))); (try (have i_t171 := Imp.go t171 (by omega))); (try (have i_t171 := Imp.go t171 (by omega))); (try (have i_t193 := Imp.go t193 (by omega))); omega))⟩)
              refine lv_aload_n hx hb dX1_readExtras_107 rfl (lv_at hl 0 rfl) ?_
              refine lv_iconst (v := 0) hx hb dX1_readExtras_108 (by decide) ?_
              refine lv_ldc (v := 999999999) hx hb hown (hg _ w905) dX1_readExtras_109 ?_
              have r201 : Int32.toInt 999999999 = 999999999 := by decide
              refine gA_int (gA_runV (As := [.int 0, .int 999999999]) (rest := []) (ci := 1) (q0 := 1) hx hb hml hown hg hP hD hK hS hA hnw hgk (x_takeNumber l D ks H.size ad kk V199 L195 Z 0 999999999 hMV199 (show 0 ≤ (Int32.toInt 0) from by first | omega | ((try (have i_t193 := Imp.go t193 (by omega))); (try (have i_t171 := Imp.go t171 (by omega))); (try (have i_t171 := Imp.go t171 (by omega))); (try (have i_t193 := Imp.go t193 (by omega))); omega)) (show (Int32.toInt 999999999) ≤ 999999999 from by first | omega | ((try (have i_t193 := Imp.go t193 (by omega))); (try (have i_t171 := Imp.go t171 (by omega))); (try (have i_t171 := Imp.go t171 (by omega))); (try (have i_t193 := Imp.go t193 (by omega))); omega))) w906 w908 w12 w162 w909 rfl xgReader hdV_yX1_takeNumber ⟨Nat.le_of_ble_eq_true rfl, Nat.le_of_ble_eq_true rfl⟩ rfl hl.1 rfl (Nat.le_of_ble_eq_true rfl) dX1_readExtras_111 ⟨Nat.le_of_ble_eq_true rfl, Nat.le_of_ble_eq_true rfl⟩) hP hD hK hS hA (fun z202 u203 H locs w204 hP hD hK hS => ?_)
              obtain ⟨V206, L207⟩ := u203
              obtain ⟨hMV206, ajV206, axL207, rgz202, t205⟩ := w204
              have alL207 : agL [6, 44] L L207 := agL.tr alL195 axL207 (by decide)
              have hP : va_P D vwCl (xw ad kk V206 L207 Z) H := hP
              have hD : va_D A (xw ad kk V206 L207 Z) := hD
              have hMV206 : rgd bX V206 := hMV206
              have ajV206 : agr [(1, 3), (1, 8), (6, 8), (6, 9), (6, 10)] [] V199 V206 := ajV206
              have agV206 : agr [(1, 3), (1, 6), (1, 8), (6, 8), (6, 9), (6, 10)] [43, 44, 52, 53, 54, 55] V V206 := agV199.tr ajV206 (by decide) (by decide)
              have fwV206 : frX (xR b) V V206 := frX.tr fwV199 (frX.ag ajV206 (by decide) (by decide))
              have rgz202 : 0 ≤ z202.toInt ∧ z202.toInt ≤ 1 := rgz202
              have t205 : Imp (z202.toInt = 1) ((Int32.toInt 0) ≤ (V206 1 8).toInt ∧ (V206 1 8).toInt ≤ (Int32.toInt 999999999)) := t205
              have r208 : 0 ≤ ((V206 1 8)).toInt ∧ ((V206 1 8)).toInt ≤ 999999999 := hMV206 1 8
              refine lv_if_ne (tgt := 119) hx hb dX1_readExtras_114 (by decide) (fun c209 => ?_) (fun c209 => ?_)
              · skip
                have f210 : z202.toInt ≠ 0 := b_neq rfl (by decide) c209
                refine lv_aload_n hx hb dX1_readExtras_119 rfl (lv_at hl 1 rfl) ?_
                refine lv_aload_n hx hb dX1_readExtras_120 rfl (lv_at hl 0 rfl) ?_
                refine va_get (D := D) (ci := 1) (v := .int (V206 1 8)) (fs := (xfReader ad V206 L207 Z)) (C := RX1) (T := TX1) (N := 9) hx hb hg inX1 hown hK hP 1 xgReader rfl 8 (by decide) (hg _ w312) (fun _ h9 => h9) rfl dX1_readExtras_121 ?_
                refine va_putN (D := D) (ci := 3) (v := .int (V206 1 8)) (ty := tyX3 10) (fs := (xfComp ad V206 gi)) (C := RX3) (T := TX3) (N := 13) hx hb hg inX3 tyX3 tyX3_ok nmX3 hown hK hP hD hS (72 + gi) (xgComp hgi) rfl 10 (by decide) (hnw.use 536 n536 rfl) (fun _ h9 => h9) rfl (tyX3_ok 10 (by decide)) rfl rfl (Nat.le_of_ble_eq_true rfl) dX1_readExtras_124 (fun H locs hP hD hS => ?_)
                obtain ⟨V211, hV211⟩ : ∃ z, z = up2 V206 55 gi (V206 1 8) := ⟨_, rfl⟩
                have ew212 : (xw ad kk V206 L207 Z).set (72 + gi) ((ad (72 + gi)), .inr (3, (xfComp ad V206 gi).set 10 (.int (V206 1 8)))) = xw ad kk V211 L207 Z := by rw [hV211]; exact xpComp_whenValue hgi
                have hP : va_P D vwCl (xw ad kk V211 L207 Z) H := by rw [← ew212]; exact hP
                have hD : va_D A (xw ad kk V211 L207 Z) := by rw [← ew212]; exact hD
                have hMV211 : rgd bX V211 := hMV206.put hV211 (i_full _)
                have agV211 : agr [(1, 3), (1, 6), (1, 8), (6, 8), (6, 9), (6, 10)] [43, 44, 52, 53, 54, 55] V V211 := agV206.up hV211 rfl
                have fwV211 : frX (xR b) V V211 := frX.up fwV206 hV211 (Or.inr ⟨(by show 24 * b ≤ gi; first | omega | ((try (have i_t205 := Imp.go t205 (by omega))); (try (have i_t193 := Imp.go t193 (by omega))); (try (have i_t171 := Imp.go t171 (by omega))); (try (have i_t171 := Imp.go t171 (by omega))); (try (have i_t193 := Imp.go t193 (by omega))); (try (have i_t205 := Imp.go t205 (by omega))); omega)), (by show gi < 24 * b + 24; first | omega | ((try (have i_t205 := Imp.go t205 (by omega))); (try (have i_t193 := Imp.go t193 (by omega))); (try (have i_t171 := Imp.go t171 (by omega))); (try (have i_t171 := Imp.go t171 (by omega))); (try (have i_t193 := Imp.go t193 (by omega))); (try (have i_t205 := Imp.go t205 (by omega))); omega))⟩)
                refine lv_iconst (v := 1) hx hb dX1_readExtras_127 (by decide) ?_
                have px213 : px V V108 b := px.tr (px.rf : px V V b) t107
                have px214 : px V V211 b := px.tr px213 (px.ag (show agr [(1, 3), (1, 6), (1, 8), (6, 8), (6, 9), (6, 10)] [52, 53, 54, 55] V108 V211 from (agr.up (agr.tr (agr.up (agr.tr (agr.tr (agr.up (agr.tr (agr.tr (agr.up agr.rf hV113 rfl) ajV164 (by decide) (by decide)) ajV172 (by decide) (by decide)) hV177 rfl) ajV187 (by decide) (by decide)) ajV194 (by decide) (by decide)) hV199 rfl) ajV206 (by decide) (by decide)) hV211 rfl)) (fun _ => rfl) (fun _ => rfl) (fun _ => rfl))
                exact W.zret (v := 1) hx hb hr rfl (fun t ht hW => ⟨⟨1, (V211, L207), rfl, ⟨hMV211, agV211, alL207, fwV211, (by decide), px214⟩, by rw [ht]; exact hP, va_K.moved hW.alike hK, hD⟩, hS.F ht⟩) hS.2.2 dX1_readExtras_128
              · skip
                have f215 : z202.toInt = 0 := b_eq rfl (by decide) c209
                refine lv_iconst (v := 0) hx hb dX1_readExtras_117 (by decide) ?_
                have px216 : px V V108 b := px.tr (px.rf : px V V b) t107
                have px217 : px V V206 b := px.tr px216 (px.ag (show agr [(1, 3), (1, 6), (1, 8), (6, 8), (6, 9), (6, 10)] [52, 53, 54] V108 V206 from (agr.tr (agr.up (agr.tr (agr.tr (agr.up (agr.tr (agr.tr (agr.up agr.rf hV113 rfl) ajV164 (by decide) (by decide)) ajV172 (by decide) (by decide)) hV177 rfl) ajV187 (by decide) (by decide)) ajV194 (by decide) (by decide)) hV199 rfl) ajV206 (by decide) (by decide))) (fun _ => rfl) (fun _ => rfl) (fun _ => rfl))
                exact W.zret (v := 0) hx hb hr rfl (fun t ht hW => ⟨⟨0, (V206, L207), rfl, ⟨hMV206, agV206, alL207, fwV206, (by decide), px217⟩, by rw [ht]; exact hP, va_K.moved hW.alike hK, hD⟩, hS.F ht⟩) hS.2.2 dX1_readExtras_118
            · skip
              have f218 : z190.toInt = 0 := b_eq rfl (by decide) c197
              refine lv_iconst (v := 0) hx hb dX1_readExtras_97 (by decide) ?_
              have px219 : px V V108 b := px.tr (px.rf : px V V b) t107
              have px220 : px V V194 b := px.tr px219 (px.ag (show agr [(1, 3), (1, 6), (1, 8), (6, 8), (6, 9), (6, 10)] [52, 53] V108 V194 from (agr.tr (agr.tr (agr.up (agr.tr (agr.tr (agr.up agr.rf hV113 rfl) ajV164 (by decide) (by decide)) ajV172 (by decide) (by decide)) hV177 rfl) ajV187 (by decide) (by decide)) ajV194 (by decide) (by decide))) (fun _ => rfl) (fun _ => rfl) (fun _ => rfl))
              exact W.zret (v := 0) hx hb hr rfl (fun t ht hW => ⟨⟨0, (V194, L195), rfl, ⟨hMV194, agV194, alL195, fwV194, (by decide), px220⟩, by rw [ht]; exact hP, va_K.moved hW.alike hK, hD⟩, hS.F ht⟩) hS.2.2 dX1_readExtras_98
        · skip
          have f221 : z168.toInt = 0 := b_eq rfl (by decide) c175
          refine lv_iconst (v := 0) hx hb dX1_readExtras_60 (by decide) ?_
          have px222 : px V V108 b := px.tr (px.rf : px V V b) t107
          have px223 : px V V172 b := px.tr px222 (px.ag (show agr [(1, 3), (1, 8), (6, 8), (6, 9), (6, 10)] [52] V108 V172 from (agr.tr (agr.tr (agr.up agr.rf hV113 rfl) ajV164 (by decide) (by decide)) ajV172 (by decide) (by decide))) (fun _ => rfl) (fun _ => rfl) (fun _ => rfl))
          exact W.zret (v := 0) hx hb hr rfl (fun t ht hW => ⟨⟨0, (V172, L173), rfl, ⟨hMV172, agV172, alL173, fwV172, (by decide), px223⟩, by rw [ht]; exact hP, va_K.moved hW.alike hK, hD⟩, hS.F ht⟩) hS.2.2 dX1_readExtras_61
    · skip
      have f224 : z104.toInt = 0 := b_eq rfl (by decide) c110
      refine lv_iconst (v := 0) hx hb dX1_readExtras_20 (by decide) ?_
      have px225 : px V V108 b := px.tr (px.rf : px V V b) t107
      exact W.zret (v := 0) hx hb hr rfl (fun t ht hW => ⟨⟨0, (V108, L109), rfl, ⟨hMV108, agV108, alL109, fwV108, (by decide), px225⟩, by rw [ht]; exact hP, va_K.moved hW.alike hK, hD⟩, hS.F ht⟩) hS.2.2 dX1_readExtras_21
abbrev r_x_readSetting : Room := { frames := 3, cells := 0, slots := 0, locals := 65 }
abbrev q_x_readSetting (D : va_G) (ks : KS) (ad : Nat → Nat) (kk : Nat → ClassId) (V : Vf) (L : Lf) (Z : XZ) (b : Nat) (A : Nat → Prop) : Array Value → State → Outcome → State → Prop := va_Qi (fun (r : Int32) (u : Vf × Lf) => rgd bX u.1 ∧ agr [(1, 3), (1, 8), (6, 8), (6, 9), (6, 10)] [43, 44, 46] V u.1 ∧ agL [1, 6, 44] L u.2 ∧ frX (xR b) V u.1 ∧ (0 ≤ r.toInt ∧ r.toInt ≤ 1) ∧ (TX u.1 b) ∧ (CD u.1 b) ∧ (px V u.1 b)) (fun u t => gq D A (xw ad kk u.1 u.2 Z) (xty kk Z) t) A
set_option maxHeartbeats 4000000 in
set_option maxRecDepth 100000 in
theorem x_readSetting (l : Launch) (D : va_G) (ks : KS) (sz : Nat) (ad : Nat → Nat) (kk : Nat → ClassId) (V : Vf) (L : Lf) (Z : XZ) (b : Nat) (hMV : rgd bX V) (hb2 : b < 2) (rbk : (V 1 1).toInt = (b : Int)) (cd : CD V b) (tx : TX V b)  : Met l yX1_readSetting (Cond.code yX1_readSetting cX1_readSetting 4 (some .boolean) :: GW) r_x_readSetting (va_Pc [.ref (ad 1)] (gp D ks (xw ad kk V L Z) (xty kk Z) sz)) (q_x_readSetting D ks ad kk V L Z  b (va_A (xw ad kk V L Z) sz)) 0 0 (va_A (xw ad kk V L Z) sz) := by
  refine g_met (q_x_readSetting D ks ad kk V L Z  b) (by decide) (Nat.le_of_ble_eq_true rfl) ?_
  intro p e s m below meth c A ls H locs hx hb hr hml hown hg hlocks hin hnw hgk hP hK hD hS hA hl
  have hown : s.vm.findClass RX1 = some m.cls := hown
  have hl : lv_has ls 4 [(0, .ref (ad 1))] := hl
  have hP : va_P D vwCl (xw ad kk V L Z) H := hP
  have hD : va_D A (xw ad kk V L Z) := hD
  have hK : va_K D vwCl (xty kk Z) s := hK
  have agV : agr [(1, 3), (1, 8), (6, 8), (6, 9), (6, 10)] [43, 44, 46] V V := agr.rf
  have alL : agL [1, 6, 44] L L := agL.rf
  have fwV : frX (xR b) V V := frX.rf
  have r1 : (-1) ≤ ((V 1 1)).toInt ∧ ((V 1 1)).toInt ≤ 1 := hMV 1 1
  refine lv_aload_n hx hb dX1_readSetting_0 rfl (lv_at hl 0 rfl) ?_
  refine va_get (D := D) (ci := 1) (v := rfN ad 38 (V 1 1)) (fs := (xfReader ad V L Z)) (C := RX1) (T := TX1) (N := 9) hx hb hg inX1 hown hK hP 1 xgReader rfl 1 (by decide) (hg _ w305) (fun _ h9 => h9) rfl dX1_readSetting_1 ?_
  refine g_topv (v := .ref (ad (38 + b))) (rfN_r (by first | omega | ((try (have i_tx := Imp.go tx (by omega))); (try (have i_cd := Imp.go cd (by omega))); (try (have i_cd := Imp.go cd (by omega))); (try (have i_tx := Imp.go tx (by omega))); omega))) ?_
  refine va_getN (D := D) (ci := 0) (v := .ref (ad (40 + (5 * b + 1)))) (fs := (xfBook ad V b)) (C := RX0) (T := TX0) (N := 13) hx hb hg inX0 hown hK hP (38 + b) (xgBook hb2) rfl 1 (by decide) (hnw.use 597 n597 rfl) (fun _ h9 => h9) rfl dX1_readSetting_4 ?_
  have il2 : (5 * b + 1) < 10 := by first | omega | ((try (have i_tx := Imp.go tx (by omega))); (try (have i_cd := Imp.go cd (by omega))); (try (have i_cd := Imp.go cd (by omega))); (try (have i_tx := Imp.go tx (by omega))); omega)
  refine gA_int (gA_runV (As := []) (rest := []) (ci := 6) (q0 := (40 + (5 * b + 1))) hx hb hml hown hg hP hD hK hS hA hnw hgk (x_isFull l D ks H.size ad kk V L Z ((5 * b + 1)) hMV (show (5 * b + 1) < 10 from by first | omega | ((try (have i_tx := Imp.go tx (by omega))); (try (have i_cd := Imp.go cd (by omega))); (try (have i_cd := Imp.go cd (by omega))); (try (have i_tx := Imp.go tx (by omega))); omega))) w863 w864 w865 w168 w866 rfl (xgNames il2) hdV_yX6_isFull ⟨Nat.le_of_ble_eq_true rfl, Nat.le_of_ble_eq_true rfl⟩ rfl hl.1 rfl (Nat.le_of_ble_eq_true rfl) dX1_readSetting_7 ⟨Nat.le_of_ble_eq_true rfl, Nat.le_of_ble_eq_true rfl⟩) hP hD hK hS hA (fun z3 u4 H locs w5 hP hD hK hS => ?_)
  obtain ⟨rgz3, t6⟩ := w5
  have rgz3 : 0 ≤ z3.toInt ∧ z3.toInt ≤ 1 := rgz3
  have t6 : Imp (z3.toInt = 0) ((V 43 (5 * b + 1)).toInt < ((xcap (5 * b + 1) : Nat) : Int)) := t6
  refine lv_if_eq (tgt := 19) hx hb dX1_readSetting_10 (by decide) (fun c7 => ?_) (fun c7 => ?_)
  · skip
    have f8 : z3.toInt = 0 := b_eq rfl (by decide) c7
    refine lv_aload_n hx hb dX1_readSetting_19 rfl (lv_at hl 0 rfl) ?_
    refine va_get (D := D) (ci := 1) (v := .ref (ad 6)) (fs := (xfReader ad V L Z)) (C := RX1) (T := TX1) (N := 9) hx hb hg inX1 hown hK hP 1 xgReader rfl 0 (by decide) (hg _ w304) (fun _ h9 => h9) rfl dX1_readSetting_20 ?_
    refine gA_void (gA_runV (As := []) (rest := []) (ci := 9) (q0 := 6) hx hb hml hown hg hP hD hK hS hA hnw hgk (x_next l D ks H.size ad kk V L Z  hMV ) w871 w852 w853 w157 w854 rfl xgTape hdV_yX9_next ⟨Nat.le_of_ble_eq_true rfl, Nat.le_of_ble_eq_true rfl⟩ rfl hl.1 rfl (Nat.le_of_ble_eq_true rfl) dX1_readSetting_23 ⟨Nat.le_of_ble_eq_true rfl, Nat.le_of_ble_eq_true rfl⟩) hP hD hK hS hA (fun u10 H locs w11 hP hD hK hS => ?_)
    obtain ⟨V12, L13⟩ := u10
    obtain ⟨hMV12, ajV12, axL13⟩ := w11
    have alL13 : agL [1, 6, 44] L L13 := agL.tr alL axL13 (by decide)
    have hP : va_P D vwCl (xw ad kk V12 L13 Z) H := hP
    have hD : va_D A (xw ad kk V12 L13 Z) := hD
    have hMV12 : rgd bX V12 := hMV12
    have ajV12 : agr [(6, 8), (6, 9), (6, 10)] [] V V12 := ajV12
    have agV12 : agr [(1, 3), (1, 8), (6, 8), (6, 9), (6, 10)] [43, 44, 46] V V12 := agV.tr ajV12 (by decide) (by decide)
    have fwV12 : frX (xR b) V V12 := frX.tr fwV (frX.ag ajV12 (by decide) (by decide))
    refine lv_aload_n hx hb dX1_readSetting_26 rfl (lv_at hl 0 rfl) ?_
    have pq14 : (V12 1 1).toInt = ((V 1 1)).toInt := congrArg Int32.toInt (ajV12 1 1 rfl)
    refine gA_int (gA_runV (As := []) (rest := []) (ci := 1) (q0 := 1) hx hb hml hown hg hP hD hK hS hA hnw hgk (x_takeNewName l D ks H.size ad kk V12 L13 Z (b) hMV12 (show b < 2 from by first | omega | ((try (have i_t6 := Imp.go t6 (by omega))); (try (have i_tx := Imp.go tx (by omega))); (try (have i_cd := Imp.go cd (by omega))); (try (have i_cd := Imp.go cd (by omega))); (try (have i_tx := Imp.go tx (by omega))); (try (have i_t6 := Imp.go t6 (by omega))); omega)) (show (V12 1 1).toInt = (b : Int) from by first | omega | ((try (have i_t6 := Imp.go t6 (by omega))); (try (have i_tx := Imp.go tx (by omega))); (try (have i_cd := Imp.go cd (by omega))); (try (have i_cd := Imp.go cd (by omega))); (try (have i_tx := Imp.go tx (by omega))); (try (have i_t6 := Imp.go t6 (by omega))); omega))) w872 w874 w7 w162 w875 rfl xgReader hdV_yX1_takeNewName ⟨Nat.le_of_ble_eq_true rfl, Nat.le_of_ble_eq_true rfl⟩ rfl hl.1 rfl (Nat.le_of_ble_eq_true rfl) dX1_readSetting_27 ⟨Nat.le_of_ble_eq_true rfl, Nat.le_of_ble_eq_true rfl⟩) hP hD hK hS hA (fun z15 u16 H locs w17 hP hD hK hS => ?_)
    obtain ⟨V18, L19⟩ := u16
    obtain ⟨hMV18, ajV18, axL19, rgz15⟩ := w17
    have alL19 : agL [1, 6, 44] L L19 := agL.tr alL13 axL19 (by decide)
    have hP : va_P D vwCl (xw ad kk V18 L19 Z) H := hP
    have hD : va_D A (xw ad kk V18 L19 Z) := hD
    have hMV18 : rgd bX V18 := hMV18
    have ajV18 : agr [(1, 3), (6, 8), (6, 9), (6, 10)] [] V12 V18 := ajV18
    have agV18 : agr [(1, 3), (1, 8), (6, 8), (6, 9), (6, 10)] [43, 44, 46] V V18 := agV12.tr ajV18 (by decide) (by decide)
    have fwV18 : frX (xR b) V V18 := frX.tr fwV12 (frX.ag ajV18 (by decide) (by decide))
    have rgz15 : 0 ≤ z15.toInt ∧ z15.toInt ≤ 1 := rgz15
    refine lv_if_ne (tgt := 35) hx hb dX1_readSetting_30 (by decide) (fun c20 => ?_) (fun c20 => ?_)
    · skip
      have f21 : z15.toInt ≠ 0 := b_neq rfl (by decide) c20
      refine lv_aload_n hx hb dX1_readSetting_35 rfl (lv_at hl 0 rfl) ?_
      refine va_get (D := D) (ci := 1) (v := .long (L19 1 5)) (fs := (xfReader ad V18 L19 Z)) (C := RX1) (T := TX1) (N := 9) hx hb hg inX1 hown hK hP 1 xgReader rfl 5 (by decide) (hg _ w309) (fun _ h9 => h9) rfl dX1_readSetting_36 ?_
      refine lv_topl (fun w22 ew22 => ?_)
      refine lv_lstore_n (lv' := [(1, .long w22), (0, .ref (ad 1))]) hx hb dX1_readSetting_39 rfl hl (by decide) rfl (fun ls hl => ?_)
      refine lv_aload_n hx hb dX1_readSetting_40 rfl (lv_at hl 1 rfl) ?_
      refine lv_iconst (v := 0) hx hb dX1_readSetting_41 (by decide) ?_
      refine lv_ldc (v := 999999999) hx hb hown (hg _ w905) dX1_readSetting_42 ?_
      have r23 : Int32.toInt 0 = 0 := by decide
      have r24 : Int32.toInt 999999999 = 999999999 := by decide
      refine gA_int (gA_runV (As := [.int 0, .int 999999999]) (rest := []) (ci := 1) (q0 := 1) hx hb hml hown hg hP hD hK hS hA hnw hgk (x_takeNumber l D ks H.size ad kk V18 L19 Z 0 999999999 hMV18 (show 0 ≤ (Int32.toInt 0) from by first | omega | ((try (have i_t6 := Imp.go t6 (by omega))); (try (have i_tx := Imp.go tx (by omega))); (try (have i_cd := Imp.go cd (by omega))); (try (have i_cd := Imp.go cd (by omega))); (try (have i_tx := Imp.go tx (by omega))); (try (have i_t6 := Imp.go t6 (by omega))); omega)) (show (Int32.toInt 999999999) ≤ 999999999 from by first | omega | ((try (have i_t6 := Imp.go t6 (by omega))); (try (have i_tx := Imp.go tx (by omega))); (try (have i_cd := Imp.go cd (by omega))); (try (have i_cd := Imp.go cd (by omega))); (try (have i_tx := Imp.go tx (by omega))); (try (have i_t6 := Imp.go t6 (by omega))); omega))) w906 w908 w12 w162 w909 rfl xgReader hdV_yX1_takeNumber ⟨Nat.le_of_ble_eq_true rfl, Nat.le_of_ble_eq_true rfl⟩ rfl hl.1 rfl (Nat.le_of_ble_eq_true rfl) dX1_readSetting_44 ⟨Nat.le_of_ble_eq_true rfl, Nat.le_of_ble_eq_true rfl⟩) hP hD hK hS hA (fun z25 u26 H locs w27 hP hD hK hS => ?_)
      obtain ⟨V29, L30⟩ := u26
      obtain ⟨hMV29, ajV29, axL30, rgz25, t28⟩ := w27
      have alL30 : agL [1, 6, 44] L L30 := agL.tr alL19 axL30 (by decide)
      have hP : va_P D vwCl (xw ad kk V29 L30 Z) H := hP
      have hD : va_D A (xw ad kk V29 L30 Z) := hD
      have hMV29 : rgd bX V29 := hMV29
      have ajV29 : agr [(1, 3), (1, 8), (6, 8), (6, 9), (6, 10)] [] V18 V29 := ajV29
      have agV29 : agr [(1, 3), (1, 8), (6, 8), (6, 9), (6, 10)] [43, 44, 46] V V29 := agV18.tr ajV29 (by decide) (by decide)
      have fwV29 : frX (xR b) V V29 := frX.tr fwV18 (frX.ag ajV29 (by decide) (by decide))
      have rgz25 : 0 ≤ z25.toInt ∧ z25.toInt ≤ 1 := rgz25
      have t28 : Imp (z25.toInt = 1) ((Int32.toInt 0) ≤ (V29 1 8).toInt ∧ (V29 1 8).toInt ≤ (Int32.toInt 999999999)) := t28
      have r31 : 0 ≤ ((V29 1 8)).toInt ∧ ((V29 1 8)).toInt ≤ 999999999 := hMV29 1 8
      refine lv_if_eq (tgt := 59) hx hb dX1_readSetting_47 (by decide) (fun c32 => ?_) (fun c32 => ?_)
      · skip
        have f33 : z25.toInt = 0 := b_eq rfl (by decide) c32
        refine lv_iconst (v := 0) hx hb dX1_readSetting_59 (by decide) ?_
        have px34 : px V V29 b := px.tr (px.rf : px V V b) (px.ag (show agr [(1, 3), (1, 8), (6, 8), (6, 9), (6, 10)] [] V V29 from (agr.tr (agr.tr (agr.tr agr.rf ajV12 (by decide) (by decide)) ajV18 (by decide) (by decide)) ajV29 (by decide) (by decide))) (fun _ => rfl) (fun _ => rfl) (fun _ => rfl))
        have tx35 : TX V29 b := TX.ag tx (show agr [(1, 3), (1, 8), (6, 8), (6, 9), (6, 10)] [] V V29 from (agr.tr (agr.tr (agr.tr agr.rf ajV12 (by decide) (by decide)) ajV18 (by decide) (by decide)) ajV29 (by decide) (by decide))) px34 (fun _ => rfl) (fun _ => rfl) (fun _ => rfl) (fun _ => rfl) (fun _ => rfl) (fun _ => rfl)
        have cd36 : CD V29 b := ⟨CB.ag cd.1 (show agr [(1, 3), (1, 8), (6, 8), (6, 9), (6, 10)] [] V V29 from (agr.tr (agr.tr (agr.tr agr.rf ajV12 (by decide) (by decide)) ajV18 (by decide) (by decide)) ajV29 (by decide) (by decide))) (fun _ => rfl) (fun _ => rfl), CO.ag cd.2 (show agr [(1, 3), (1, 8), (6, 8), (6, 9), (6, 10)] [] V V29 from (agr.tr (agr.tr (agr.tr agr.rf ajV12 (by decide) (by decide)) ajV18 (by decide) (by decide)) ajV29 (by decide) (by decide))) (fun _ => rfl) (fun _ => rfl)⟩
        have px37 : px V V29 b := px.tr (px.rf : px V V b) (px.ag (show agr [(1, 3), (1, 8), (6, 8), (6, 9), (6, 10)] [] V V29 from (agr.tr (agr.tr (agr.tr agr.rf ajV12 (by decide) (by decide)) ajV18 (by decide) (by decide)) ajV29 (by decide) (by decide))) (fun _ => rfl) (fun _ => rfl) (fun _ => rfl))
        exact W.zret (v := 0) hx hb hr rfl (fun t ht hW => ⟨⟨0, (V29, L30), rfl, ⟨hMV29, agV29, alL30, fwV29, (by decide), tx35, cd36, px37⟩, by rw [ht]; exact hP, va_K.moved hW.alike hK, hD⟩, hS.F ht⟩) hS.2.2 dX1_readSetting_60
      · skip
        have f38 : z25.toInt ≠ 0 := b_neq rfl (by decide) c32
        refine lv_aload_n hx hb dX1_readSetting_50 rfl (lv_at hl 1 rfl) ?_
        refine lv_bipush (v := 59) hx hb dX1_readSetting_51 (by decide) ?_
        have r39 : Int32.toInt 59 = 59 := by decide
        refine gA_int (gA_runV (As := [.int 59]) (rest := []) (ci := 1) (q0 := 1) hx hb hml hown hg hP hD hK hS hA hnw hgk (x_take l D ks H.size ad kk V29 L30 Z 59 hMV29 ) w893 w895 w10 w162 w896 rfl xgReader hdV_yX1_take ⟨Nat.le_of_ble_eq_true rfl, Nat.le_of_ble_eq_true rfl⟩ rfl hl.1 rfl (Nat.le_of_ble_eq_true rfl) dX1_readSetting_53 ⟨Nat.le_of_ble_eq_true rfl, Nat.le_of_ble_eq_true rfl⟩) hP hD hK hS hA (fun z40 u41 H locs w42 hP hD hK hS => ?_)
        obtain ⟨V43, L44⟩ := u41
        obtain ⟨hMV43, ajV43, axL44, rgz40⟩ := w42
        have alL44 : agL [1, 6, 44] L L44 := agL.tr alL30 axL44 (by decide)
        have hP : va_P D vwCl (xw ad kk V43 L44 Z) H := hP
        have hD : va_D A (xw ad kk V43 L44 Z) := hD
        have hMV43 : rgd bX V43 := hMV43
        have ajV43 : agr [(1, 3), (6, 8), (6, 9), (6, 10)] [] V29 V43 := ajV43
        have agV43 : agr [(1, 3), (1, 8), (6, 8), (6, 9), (6, 10)] [43, 44, 46] V V43 := agV29.tr ajV43 (by decide) (by decide)
        have fwV43 : frX (xR b) V V43 := frX.tr fwV29 (frX.ag ajV43 (by decide) (by decide))
        have rgz40 : 0 ≤ z40.toInt ∧ z40.toInt ≤ 1 := rgz40
        refine lv_if_ne (tgt := 61) hx hb dX1_readSetting_56 (by decide) (fun c45 => ?_) (fun c45 => ?_)
        · skip
          have f46 : z40.toInt ≠ 0 := b_neq rfl (by decide) c45
          refine lv_aload_n hx hb dX1_readSetting_61 rfl (lv_at hl 1 rfl) ?_
          refine va_get (D := D) (ci := 1) (v := rfN ad 38 (V43 1 1)) (fs := (xfReader ad V43 L44 Z)) (C := RX1) (T := TX1) (N := 9) hx hb hg inX1 hown hK hP 1 xgReader rfl 1 (by decide) (hg _ w305) (fun _ h9 => h9) rfl dX1_readSetting_62 ?_
          have pq47 : (V43 1 1).toInt = ((V 1 1)).toInt := congrArg Int32.toInt ((ajV43 1 1 rfl).trans ((ajV29 1 1 rfl).trans ((ajV18 1 1 rfl).trans (ajV12 1 1 rfl))))
          refine g_topv (v := .ref (ad (38 + b))) (rfN_r (by first | omega | ((try (have i_t28 := Imp.go t28 (by omega))); (try (have i_t6 := Imp.go t6 (by omega))); (try (have i_tx := Imp.go tx (by omega))); (try (have i_cd := Imp.go cd (by omega))); (try (have i_cd := Imp.go cd (by omega))); (try (have i_tx := Imp.go tx (by omega))); (try (have i_t6 := Imp.go t6 (by omega))); (try (have i_t28 := Imp.go t28 (by omega))); omega))) ?_
          refine va_getN (D := D) (ci := 0) (v := .ref (ad (40 + (5 * b + 1)))) (fs := (xfBook ad V43 b)) (C := RX0) (T := TX0) (N := 13) hx hb hg inX0 hown hK hP (38 + b) (xgBook hb2) rfl 1 (by decide) (hnw.use 597 n597 rfl) (fun _ h9 => h9) rfl dX1_readSetting_65 ?_
          refine lv_lload_n hx hb dX1_readSetting_68 rfl (lv_at hl 0 rfl) ?_
          refine gA_int (gA_runV (As := [.long w22]) (rest := []) (ci := 6) (q0 := (40 + (5 * b + 1))) hx hb hml hown hg hP hD hK hS hA hnw hgk (x_add l D ks H.size ad kk V43 L44 Z w22 ((5 * b + 1)) hMV43 (show (5 * b + 1) < 10 from by first | omega | ((try (have i_t28 := Imp.go t28 (by omega))); (try (have i_t6 := Imp.go t6 (by omega))); (try (have i_tx := Imp.go tx (by omega))); (try (have i_cd := Imp.go cd (by omega))); (try (have i_cd := Imp.go cd (by omega))); (try (have i_tx := Imp.go tx (by omega))); (try (have i_t6 := Imp.go t6 (by omega))); (try (have i_t28 := Imp.go t28 (by omega))); omega))) w897 w898 w899 w168 w900 rfl (xgNames il2) hdV_yX6_add ⟨Nat.le_of_ble_eq_true rfl, Nat.le_of_ble_eq_true rfl⟩ rfl hl.1 rfl (Nat.le_of_ble_eq_true rfl) dX1_readSetting_69 ⟨Nat.le_of_ble_eq_true rfl, Nat.le_of_ble_eq_true rfl⟩) hP hD hK hS hA (fun z48 u49 H locs w50 hP hD hK hS => ?_)
          obtain ⟨V54, L55⟩ := u49
          obtain ⟨hMV54, ajV54, axL55, fyV54, rgz48, t51, t52, t53⟩ := w50
          have alL55 : agL [1, 6, 44] L L55 := agL.tr alL44 axL55 (by decide)
          have hP : va_P D vwCl (xw ad kk V54 L55 Z) H := hP
          have hD : va_D A (xw ad kk V54 L55 Z) := hD
          have hMV54 : rgd bX V54 := hMV54
          have ajV54 : agr [] [43, 44] V43 V54 := ajV54
          have agV54 : agr [(1, 3), (1, 8), (6, 8), (6, 9), (6, 10)] [43, 44, 46] V V54 := agV43.tr ajV54 (by decide) (by decide)
          have fwV54 : frX (xR b) V V54 := frX.tr fwV43 (frX_NB fyV54 (by first | omega | ((try (have i_t28 := Imp.go t28 (by omega))); (try (have i_t6 := Imp.go t6 (by omega))); (try (have i_tx := Imp.go tx (by omega))); (try (have i_cd := Imp.go cd (by omega))); (try (have i_cd := Imp.go cd (by omega))); (try (have i_tx := Imp.go tx (by omega))); (try (have i_t6 := Imp.go t6 (by omega))); (try (have i_t28 := Imp.go t28 (by omega))); omega)) (by first | omega | ((try (have i_t28 := Imp.go t28 (by omega))); (try (have i_t6 := Imp.go t6 (by omega))); (try (have i_tx := Imp.go tx (by omega))); (try (have i_cd := Imp.go cd (by omega))); (try (have i_cd := Imp.go cd (by omega))); (try (have i_tx := Imp.go tx (by omega))); (try (have i_t6 := Imp.go t6 (by omega))); (try (have i_t28 := Imp.go t28 (by omega))); omega)))
          have rgz48 : (-1) ≤ z48.toInt ∧ z48.toInt ≤ 23 := rgz48
          have t51 : z48.toInt < (V54 43 (5 * b + 1)).toInt := t51
          have t52 : Imp ((V43 43 (5 * b + 1)).toInt < ((xcap (5 * b + 1) : Nat) : Int)) (z48.toInt = (V43 43 (5 * b + 1)).toInt ∧ (V54 43 (5 * b + 1)).toInt = (V43 43 (5 * b + 1)).toInt + 1) := t52
          have t53 : (∀ n : Nat, ¬ n = (5 * b + 1) → V54 43 n = V43 43 n) := t53
          have r56 : xcap (5 * b + 1) = 12 := xcap_1
          have sz1 : (V54 43 (5 * b + 1)).toInt ≤ ((xcap (5 * b + 1) : Nat) : Int) := (hMV54 43 (5 * b + 1)).2
          refine lv_istore_n (lv' := [(3, .int z48), (1, .long w22), (0, .ref (ad 1))]) hx hb dX1_readSetting_72 rfl hl (by decide) rfl (fun ls hl => ?_)
          refine lv_iload_n hx hb dX1_readSetting_73 rfl (lv_at hl 0 rfl) ?_
          refine lv_iconst (v := (-1)) hx hb dX1_readSetting_74 (by decide) ?_
          refine lv_icmp_eq (tgt := 91) hx hb dX1_readSetting_75 (by decide) (fun c57 => ?_) (fun c57 => ?_)
          · skip
            have f58 : z48.toInt = (-1) := b_eq rfl (by decide) c57
            refine lv_iconst (v := 1) hx hb dX1_readSetting_91 (by decide) ?_
            have px59 : px V V43 b := px.tr (px.rf : px V V b) (px.ag (show agr [(1, 3), (1, 8), (6, 8), (6, 9), (6, 10)] [] V V43 from (agr.tr (agr.tr (agr.tr (agr.tr agr.rf ajV12 (by decide) (by decide)) ajV18 (by decide) (by decide)) ajV29 (by decide) (by decide)) ajV43 (by decide) (by decide))) (fun _ => rfl) (fun _ => rfl) (fun _ => rfl))
            have px60 : px V V54 b := px.tr px59 ⟨p0x.ag ajV54 (fun _ => rfl) (fun _ => rfl), t53 _ (by omega)⟩
            have tx61 : TX V54 b := TX.ag tx (show agr [(1, 3), (1, 8), (6, 8), (6, 9), (6, 10)] [43, 44] V V54 from (agr.tr (agr.tr (agr.tr (agr.tr (agr.tr agr.rf ajV12 (by decide) (by decide)) ajV18 (by decide) (by decide)) ajV29 (by decide) (by decide)) ajV43 (by decide) (by decide)) ajV54 (by decide) (by decide))) px60 (fun _ => rfl) (fun _ => rfl) (fun _ => rfl) (fun _ => rfl) (fun _ => rfl) (fun _ => rfl)
            have cd62 : CD V54 b := ⟨CB.ag cd.1 (show agr [(1, 3), (1, 8), (6, 8), (6, 9), (6, 10)] [43, 44] V V54 from (agr.tr (agr.tr (agr.tr (agr.tr (agr.tr agr.rf ajV12 (by decide) (by decide)) ajV18 (by decide) (by decide)) ajV29 (by decide) (by decide)) ajV43 (by decide) (by decide)) ajV54 (by decide) (by decide))) (fun _ => rfl) (fun _ => rfl), CO.ag cd.2 (show agr [(1, 3), (1, 8), (6, 8), (6, 9), (6, 10)] [43, 44] V V54 from (agr.tr (agr.tr (agr.tr (agr.tr (agr.tr agr.rf ajV12 (by decide) (by decide)) ajV18 (by decide) (by decide)) ajV29 (by decide) (by decide)) ajV43 (by decide) (by decide)) ajV54 (by decide) (by decide))) (fun _ => rfl) (fun _ => rfl)⟩
            have px63 : px V V43 b := px.tr (px.rf : px V V b) (px.ag (show agr [(1, 3), (1, 8), (6, 8), (6, 9), (6, 10)] [] V V43 from (agr.tr (agr.tr (agr.tr (agr.tr agr.rf ajV12 (by decide) (by decide)) ajV18 (by decide) (by decide)) ajV29 (by decide) (by decide)) ajV43 (by decide) (by decide))) (fun _ => rfl) (fun _ => rfl) (fun _ => rfl))
            have px64 : px V V54 b := px.tr px63 ⟨p0x.ag ajV54 (fun _ => rfl) (fun _ => rfl), t53 _ (by omega)⟩
            exact W.zret (v := 1) hx hb hr rfl (fun t ht hW => ⟨⟨1, (V54, L55), rfl, ⟨hMV54, agV54, alL55, fwV54, (by decide), tx61, cd62, px64⟩, by rw [ht]; exact hP, va_K.moved hW.alike hK, hD⟩, hS.F ht⟩) hS.2.2 dX1_readSetting_92
          · skip
            have f65 : z48.toInt ≠ (-1) := b_neq rfl (by decide) c57
            refine lv_aload_n hx hb dX1_readSetting_78 rfl (lv_at hl 2 rfl) ?_
            refine va_get (D := D) (ci := 1) (v := rfN ad 38 (V54 1 1)) (fs := (xfReader ad V54 L55 Z)) (C := RX1) (T := TX1) (N := 9) hx hb hg inX1 hown hK hP 1 xgReader rfl 1 (by decide) (hg _ w305) (fun _ h9 => h9) rfl dX1_readSetting_79 ?_
            have pq66 : (V54 1 1).toInt = ((V 1 1)).toInt := congrArg Int32.toInt ((ajV54 1 1 rfl).trans ((ajV43 1 1 rfl).trans ((ajV29 1 1 rfl).trans ((ajV18 1 1 rfl).trans (ajV12 1 1 rfl)))))
            refine g_topv (v := .ref (ad (38 + b))) (rfN_r (by first | omega | ((try (have i_t52 := Imp.go t52 (by omega))); (try (have i_t28 := Imp.go t28 (by omega))); (try (have i_t6 := Imp.go t6 (by omega))); (try (have i_tx := Imp.go tx (by omega))); (try (have i_cd := Imp.go cd (by omega))); (try (have i_cd := Imp.go cd (by omega))); (try (have i_tx := Imp.go tx (by omega))); (try (have i_t6 := Imp.go t6 (by omega))); (try (have i_t28 := Imp.go t28 (by omega))); (try (have i_t52 := Imp.go t52 (by omega))); omega))) ?_
            refine va_getN (D := D) (ci := 0) (v := .ref (ad (62 + b))) (fs := (xfBook ad V54 b)) (C := RX0) (T := TX0) (N := 13) hx hb hg inX0 hown hK hP (38 + b) (xgBook hb2) rfl 6 (by decide) (hnw.use 612 n612 rfl) (fun _ h9 => h9) rfl dX1_readSetting_82 ?_
            refine lv_iload_n hx hb dX1_readSetting_85 rfl (lv_at hl 0 rfl) ?_
            refine lv_aload_n hx hb dX1_readSetting_86 rfl (lv_at hl 2 rfl) ?_
            refine va_get (D := D) (ci := 1) (v := .int (V54 1 8)) (fs := (xfReader ad V54 L55 Z)) (C := RX1) (T := TX1) (N := 9) hx hb hg inX1 hown hK hP 1 xgReader rfl 8 (by decide) (hg _ w312) (fun _ h9 => h9) rfl dX1_readSetting_87 ?_
            refine g_top (v := (V29 1 8)) ((ajV54 1 8 rfl).trans (ajV43 1 8 rfl)) ?_
            have il67 : b < 2 := by first | omega | ((try (have i_t52 := Imp.go t52 (by omega))); (try (have i_t28 := Imp.go t28 (by omega))); (try (have i_t6 := Imp.go t6 (by omega))); (try (have i_tx := Imp.go tx (by omega))); (try (have i_cd := Imp.go cd (by omega))); (try (have i_cd := Imp.go cd (by omega))); (try (have i_tx := Imp.go tx (by omega))); (try (have i_t6 := Imp.go t6 (by omega))); (try (have i_t28 := Imp.go t28 (by omega))); (try (have i_t52 := Imp.go t52 (by omega))); omega)
            refine va_iast (D := D) (i := z48) (x := (V29 1 8)) hx hb hK hP hD hS (62 + b) (55 + b) (xgsettingValues il67) (xtsettingValues il67) (i_in (a := z48.toInt) rfl (by first | omega | ((try (have i_t52 := Imp.go t52 (by omega))); (try (have i_t28 := Imp.go t28 (by omega))); (try (have i_t6 := Imp.go t6 (by omega))); (try (have i_tx := Imp.go tx (by omega))); (try (have i_cd := Imp.go cd (by omega))); (try (have i_cd := Imp.go cd (by omega))); (try (have i_tx := Imp.go tx (by omega))); (try (have i_t6 := Imp.go t6 (by omega))); (try (have i_t28 := Imp.go t28 (by omega))); (try (have i_t52 := Imp.go t52 (by omega))); omega))) dX1_readSetting_90 (fun H locs hP hD hS => ?_)
            have kc68 := i_clamp (x := z48) rfl (by first | omega | ((try (have i_t52 := Imp.go t52 (by omega))); (try (have i_t28 := Imp.go t28 (by omega))); (try (have i_t6 := Imp.go t6 (by omega))); (try (have i_tx := Imp.go tx (by omega))); (try (have i_cd := Imp.go cd (by omega))); (try (have i_cd := Imp.go cd (by omega))); (try (have i_tx := Imp.go tx (by omega))); (try (have i_t6 := Imp.go t6 (by omega))); (try (have i_t28 := Imp.go t28 (by omega))); (try (have i_t52 := Imp.go t52 (by omega))); omega))
            have kl69 : (Int32.toNatClampNeg z48) < 12 := by first | omega | ((try (have i_t52 := Imp.go t52 (by omega))); (try (have i_t28 := Imp.go t28 (by omega))); (try (have i_t6 := Imp.go t6 (by omega))); (try (have i_tx := Imp.go tx (by omega))); (try (have i_cd := Imp.go cd (by omega))); (try (have i_cd := Imp.go cd (by omega))); (try (have i_tx := Imp.go tx (by omega))); (try (have i_t6 := Imp.go t6 (by omega))); (try (have i_t28 := Imp.go t28 (by omega))); (try (have i_t52 := Imp.go t52 (by omega))); omega)
            obtain ⟨V70, hV70⟩ : ∃ z, z = up2 V54 46 (12 * b + (Int32.toNatClampNeg z48)) (V29 1 8) := ⟨_, rfl⟩
            have ew71 : (xw ad kk V54 L55 Z).set (62 + b) ((ad (62 + b)), .inl ((kk (62 + b)), 12, .inl (upd (fun q => if q < 12 then V54 46 (12 * b + q) else 0) (Int32.toNatClampNeg z48) (V29 1 8)))) = xw ad kk V70 L55 Z := by rw [hV70]; exact xpsettingValues il67 kl69
            have hP : va_P D vwCl (xw ad kk V70 L55 Z) H := by rw [← ew71]; exact hP
            have hD : va_D A (xw ad kk V70 L55 Z) := by rw [← ew71]; exact hD
            have hMV70 : rgd bX V70 := hMV54.put hV70 (i_full _)
            have agV70 : agr [(1, 3), (1, 8), (6, 8), (6, 9), (6, 10)] [43, 44, 46] V V70 := agV54.up hV70 rfl
            have fwV70 : frX (xR b) V V70 := frX.up fwV54 hV70 (Or.inr ⟨(by show 12 * b ≤ (12 * b + (Int32.toNatClampNeg z48)); first | omega | ((try (have i_t52 := Imp.go t52 (by omega))); (try (have i_t28 := Imp.go t28 (by omega))); (try (have i_t6 := Imp.go t6 (by omega))); (try (have i_tx := Imp.go tx (by omega))); (try (have i_cd := Imp.go cd (by omega))); (try (have i_cd := Imp.go cd (by omega))); (try (have i_tx := Imp.go tx (by omega))); (try (have i_t6 := Imp.go t6 (by omega))); (try (have i_t28 := Imp.go t28 (by omega))); (try (have i_t52 := Imp.go t52 (by omega))); omega)), (by show (12 * b + (Int32.toNatClampNeg z48)) < 12 * b + 12; first | omega | ((try (have i_t52 := Imp.go t52 (by omega))); (try (have i_t28 := Imp.go t28 (by omega))); (try (have i_t6 := Imp.go t6 (by omega))); (try (have i_tx := Imp.go tx (by omega))); (try (have i_cd := Imp.go cd (by omega))); (try (have i_cd := Imp.go cd (by omega))); (try (have i_tx := Imp.go tx (by omega))); (try (have i_t6 := Imp.go t6 (by omega))); (try (have i_t28 := Imp.go t28 (by omega))); (try (have i_t52 := Imp.go t52 (by omega))); omega))⟩)
            refine lv_iconst (v := 1) hx hb dX1_readSetting_91 (by decide) ?_
            have px72 : px V V43 b := px.tr (px.rf : px V V b) (px.ag (show agr [(1, 3), (1, 8), (6, 8), (6, 9), (6, 10)] [] V V43 from (agr.tr (agr.tr (agr.tr (agr.tr agr.rf ajV12 (by decide) (by decide)) ajV18 (by decide) (by decide)) ajV29 (by decide) (by decide)) ajV43 (by decide) (by decide))) (fun _ => rfl) (fun _ => rfl) (fun _ => rfl))
            have px73 : px V V54 b := px.tr px72 ⟨p0x.ag ajV54 (fun _ => rfl) (fun _ => rfl), t53 _ (by omega)⟩
            have px74 : px V V70 b := px.tr px73 (px.ag (show agr [] [46] V54 V70 from (agr.up agr.rf hV70 rfl)) (fun _ => rfl) (fun _ => rfl) (fun _ => rfl))
            have tx75 : TX V70 b := TX.ag tx (show agr [(1, 3), (1, 8), (6, 8), (6, 9), (6, 10)] [43, 44, 46] V V70 from (agr.up (agr.tr (agr.tr (agr.tr (agr.tr (agr.tr agr.rf ajV12 (by decide) (by decide)) ajV18 (by decide) (by decide)) ajV29 (by decide) (by decide)) ajV43 (by decide) (by decide)) ajV54 (by decide) (by decide)) hV70 rfl)) px74 (fun _ => rfl) (fun _ => rfl) (fun _ => rfl) (fun _ => rfl) (fun _ => rfl) (fun _ => rfl)
            have cd76 : CD V70 b := ⟨CB.ag cd.1 (show agr [(1, 3), (1, 8), (6, 8), (6, 9), (6, 10)] [43, 44, 46] V V70 from (agr.up (agr.tr (agr.tr (agr.tr (agr.tr (agr.tr agr.rf ajV12 (by decide) (by decide)) ajV18 (by decide) (by decide)) ajV29 (by decide) (by decide)) ajV43 (by decide) (by decide)) ajV54 (by decide) (by decide)) hV70 rfl)) (fun _ => rfl) (fun _ => rfl), CO.ag cd.2 (show agr [(1, 3), (1, 8), (6, 8), (6, 9), (6, 10)] [43, 44, 46] V V70 from (agr.up (agr.tr (agr.tr (agr.tr (agr.tr (agr.tr agr.rf ajV12 (by decide) (by decide)) ajV18 (by decide) (by decide)) ajV29 (by decide) (by decide)) ajV43 (by decide) (by decide)) ajV54 (by decide) (by decide)) hV70 rfl)) (fun _ => rfl) (fun _ => rfl)⟩
            have px77 : px V V43 b := px.tr (px.rf : px V V b) (px.ag (show agr [(1, 3), (1, 8), (6, 8), (6, 9), (6, 10)] [] V V43 from (agr.tr (agr.tr (agr.tr (agr.tr agr.rf ajV12 (by decide) (by decide)) ajV18 (by decide) (by decide)) ajV29 (by decide) (by decide)) ajV43 (by decide) (by decide))) (fun _ => rfl) (fun _ => rfl) (fun _ => rfl))
            have px78 : px V V54 b := px.tr px77 ⟨p0x.ag ajV54 (fun _ => rfl) (fun _ => rfl), t53 _ (by omega)⟩
            have px79 : px V V70 b := px.tr px78 (px.ag (show agr [] [46] V54 V70 from (agr.up agr.rf hV70 rfl)) (fun _ => rfl) (fun _ => rfl) (fun _ => rfl))
            exact W.zret (v := 1) hx hb hr rfl (fun t ht hW => ⟨⟨1, (V70, L55), rfl, ⟨hMV70, agV70, alL55, fwV70, (by decide), tx75, cd76, px79⟩, by rw [ht]; exact hP, va_K.moved hW.alike hK, hD⟩, hS.F ht⟩) hS.2.2 dX1_readSetting_92
        · skip
          have f80 : z40.toInt = 0 := b_eq rfl (by decide) c45
          refine lv_iconst (v := 0) hx hb dX1_readSetting_59 (by decide) ?_
          have px81 : px V V43 b := px.tr (px.rf : px V V b) (px.ag (show agr [(1, 3), (1, 8), (6, 8), (6, 9), (6, 10)] [] V V43 from (agr.tr (agr.tr (agr.tr (agr.tr agr.rf ajV12 (by decide) (by decide)) ajV18 (by decide) (by decide)) ajV29 (by decide) (by decide)) ajV43 (by decide) (by decide))) (fun _ => rfl) (fun _ => rfl) (fun _ => rfl))
          have tx82 : TX V43 b := TX.ag tx (show agr [(1, 3), (1, 8), (6, 8), (6, 9), (6, 10)] [] V V43 from (agr.tr (agr.tr (agr.tr (agr.tr agr.rf ajV12 (by decide) (by decide)) ajV18 (by decide) (by decide)) ajV29 (by decide) (by decide)) ajV43 (by decide) (by decide))) px81 (fun _ => rfl) (fun _ => rfl) (fun _ => rfl) (fun _ => rfl) (fun _ => rfl) (fun _ => rfl)
          have cd83 : CD V43 b := ⟨CB.ag cd.1 (show agr [(1, 3), (1, 8), (6, 8), (6, 9), (6, 10)] [] V V43 from (agr.tr (agr.tr (agr.tr (agr.tr agr.rf ajV12 (by decide) (by decide)) ajV18 (by decide) (by decide)) ajV29 (by decide) (by decide)) ajV43 (by decide) (by decide))) (fun _ => rfl) (fun _ => rfl), CO.ag cd.2 (show agr [(1, 3), (1, 8), (6, 8), (6, 9), (6, 10)] [] V V43 from (agr.tr (agr.tr (agr.tr (agr.tr agr.rf ajV12 (by decide) (by decide)) ajV18 (by decide) (by decide)) ajV29 (by decide) (by decide)) ajV43 (by decide) (by decide))) (fun _ => rfl) (fun _ => rfl)⟩
          have px84 : px V V43 b := px.tr (px.rf : px V V b) (px.ag (show agr [(1, 3), (1, 8), (6, 8), (6, 9), (6, 10)] [] V V43 from (agr.tr (agr.tr (agr.tr (agr.tr agr.rf ajV12 (by decide) (by decide)) ajV18 (by decide) (by decide)) ajV29 (by decide) (by decide)) ajV43 (by decide) (by decide))) (fun _ => rfl) (fun _ => rfl) (fun _ => rfl))
          exact W.zret (v := 0) hx hb hr rfl (fun t ht hW => ⟨⟨0, (V43, L44), rfl, ⟨hMV43, agV43, alL44, fwV43, (by decide), tx82, cd83, px84⟩, by rw [ht]; exact hP, va_K.moved hW.alike hK, hD⟩, hS.F ht⟩) hS.2.2 dX1_readSetting_60
    · skip
      have f85 : z15.toInt = 0 := b_eq rfl (by decide) c20
      refine lv_iconst (v := 0) hx hb dX1_readSetting_33 (by decide) ?_
      have px86 : px V V18 b := px.tr (px.rf : px V V b) (px.ag (show agr [(1, 3), (6, 8), (6, 9), (6, 10)] [] V V18 from (agr.tr (agr.tr agr.rf ajV12 (by decide) (by decide)) ajV18 (by decide) (by decide))) (fun _ => rfl) (fun _ => rfl) (fun _ => rfl))
      have tx87 : TX V18 b := TX.ag tx (show agr [(1, 3), (6, 8), (6, 9), (6, 10)] [] V V18 from (agr.tr (agr.tr agr.rf ajV12 (by decide) (by decide)) ajV18 (by decide) (by decide))) px86 (fun _ => rfl) (fun _ => rfl) (fun _ => rfl) (fun _ => rfl) (fun _ => rfl) (fun _ => rfl)
      have cd88 : CD V18 b := ⟨CB.ag cd.1 (show agr [(1, 3), (6, 8), (6, 9), (6, 10)] [] V V18 from (agr.tr (agr.tr agr.rf ajV12 (by decide) (by decide)) ajV18 (by decide) (by decide))) (fun _ => rfl) (fun _ => rfl), CO.ag cd.2 (show agr [(1, 3), (6, 8), (6, 9), (6, 10)] [] V V18 from (agr.tr (agr.tr agr.rf ajV12 (by decide) (by decide)) ajV18 (by decide) (by decide))) (fun _ => rfl) (fun _ => rfl)⟩
      have px89 : px V V18 b := px.tr (px.rf : px V V b) (px.ag (show agr [(1, 3), (6, 8), (6, 9), (6, 10)] [] V V18 from (agr.tr (agr.tr agr.rf ajV12 (by decide) (by decide)) ajV18 (by decide) (by decide))) (fun _ => rfl) (fun _ => rfl) (fun _ => rfl))
      exact W.zret (v := 0) hx hb hr rfl (fun t ht hW => ⟨⟨0, (V18, L19), rfl, ⟨hMV18, agV18, alL19, fwV18, (by decide), tx87, cd88, px89⟩, by rw [ht]; exact hP, va_K.moved hW.alike hK, hD⟩, hS.F ht⟩) hS.2.2 dX1_readSetting_34
  · skip
    have f90 : z3.toInt ≠ 0 := b_neq rfl (by decide) c7
    refine lv_aload_n hx hb dX1_readSetting_13 rfl (lv_at hl 0 rfl) ?_
    refine lv_iconst (v := 5) hx hb dX1_readSetting_14 (by decide) ?_
    have r91 : Int32.toInt 5 = 5 := by decide
    refine gA_int (gA_runV (As := [.int 5]) (rest := []) (ci := 1) (q0 := 1) hx hb hml hown hg hP hD hK hS hA hnw hgk (x_wrong l D ks H.size ad kk V L Z 5 hMV ) w867 w869 w6 w162 w870 rfl xgReader hdV_yX1_wrong ⟨Nat.le_of_ble_eq_true rfl, Nat.le_of_ble_eq_true rfl⟩ rfl hl.1 rfl (Nat.le_of_ble_eq_true rfl) dX1_readSetting_15 ⟨Nat.le_of_ble_eq_true rfl, Nat.le_of_ble_eq_true rfl⟩) hP hD hK hS hA (fun z92 u93 H locs w94 hP hD hK hS => ?_)
    obtain ⟨V95, L96⟩ := u93
    obtain ⟨hMV95, ajV95, axL96, rgz92⟩ := w94
    have axL96 : L = L96 := Eq.symm axL96
    subst axL96
    have hP : va_P D vwCl (xw ad kk V95 L Z) H := hP
    have hD : va_D A (xw ad kk V95 L Z) := hD
    have hMV95 : rgd bX V95 := hMV95
    have ajV95 : agr [(1, 3)] [] V V95 := ajV95
    have agV95 : agr [(1, 3), (1, 8), (6, 8), (6, 9), (6, 10)] [43, 44, 46] V V95 := agV.tr ajV95 (by decide) (by decide)
    have fwV95 : frX (xR b) V V95 := frX.tr fwV (frX.ag ajV95 (by decide) (by decide))
    have rgz92 : 0 ≤ z92.toInt ∧ z92.toInt ≤ 0 := rgz92
    have px97 : px V V95 b := px.tr (px.rf : px V V b) (px.ag (show agr [(1, 3)] [] V V95 from (agr.tr agr.rf ajV95 (by decide) (by decide))) (fun _ => rfl) (fun _ => rfl) (fun _ => rfl))
    have tx98 : TX V95 b := TX.ag tx (show agr [(1, 3)] [] V V95 from (agr.tr agr.rf ajV95 (by decide) (by decide))) px97 (fun _ => rfl) (fun _ => rfl) (fun _ => rfl) (fun _ => rfl) (fun _ => rfl) (fun _ => rfl)
    have cd99 : CD V95 b := ⟨CB.ag cd.1 (show agr [(1, 3)] [] V V95 from (agr.tr agr.rf ajV95 (by decide) (by decide))) (fun _ => rfl) (fun _ => rfl), CO.ag cd.2 (show agr [(1, 3)] [] V V95 from (agr.tr agr.rf ajV95 (by decide) (by decide))) (fun _ => rfl) (fun _ => rfl)⟩
    have px100 : px V V95 b := px.tr (px.rf : px V V b) (px.ag (show agr [(1, 3)] [] V V95 from (agr.tr agr.rf ajV95 (by decide) (by decide))) (fun _ => rfl) (fun _ => rfl) (fun _ => rfl))
    exact W.zret (v := z92) hx hb hr (nb_ok (by omega)) (fun t ht hW => ⟨⟨z92, (V95, L), rfl, ⟨hMV95, agV95, alL, fwV95, (show 0 ≤ z92.toInt ∧ z92.toInt ≤ 1 from by first | omega | ((try (have i_t6 := Imp.go t6 (by omega))); (try (have i_tx := Imp.go tx (by omega))); (try (have i_cd := Imp.go cd (by omega))); (try (have i_cd := Imp.go cd (by omega))); (try (have i_tx := Imp.go tx (by omega))); (try (have i_t6 := Imp.go t6 (by omega))); omega)), tx98, cd99, px100⟩, by rw [ht]; exact hP, va_K.moved hW.alike hK, hD⟩, hS.F ht⟩) hS.2.2 dX1_readSetting_18
abbrev r_x_readType : Room := { frames := 3, cells := 0, slots := 0, locals := 65 }
abbrev q_x_readType (D : va_G) (ks : KS) (ad : Nat → Nat) (kk : Nat → ClassId) (V : Vf) (L : Lf) (Z : XZ) (b : Nat) (A : Nat → Prop) : Array Value → State → Outcome → State → Prop := va_Qi (fun (r : Int32) (u : Vf × Lf) => rgd bX u.1 ∧ agr [(1, 3), (1, 6), (1, 7), (6, 8), (6, 9), (6, 10)] [43, 44, 45] V u.1 ∧ agL [1, 6, 44] L u.2 ∧ frX (xR b) V u.1 ∧ (0 ≤ r.toInt ∧ r.toInt ≤ 1) ∧ (TX u.1 b) ∧ (CD u.1 b) ∧ (px V u.1 b)) (fun u t => gq D A (xw ad kk u.1 u.2 Z) (xty kk Z) t) A
set_option maxHeartbeats 4000000 in
set_option maxRecDepth 100000 in
theorem x_readType (l : Launch) (D : va_G) (ks : KS) (sz : Nat) (ad : Nat → Nat) (kk : Nat → ClassId) (V : Vf) (L : Lf) (Z : XZ) (b : Nat) (hMV : rgd bX V) (hb2 : b < 2) (rbk : (V 1 1).toInt = (b : Int)) (cd : CD V b) (tx : TX V b)  : Met l yX1_readType (Cond.code yX1_readType cX1_readType 4 (some .boolean) :: GW) r_x_readType (va_Pc [.ref (ad 1)] (gp D ks (xw ad kk V L Z) (xty kk Z) sz)) (q_x_readType D ks ad kk V L Z  b (va_A (xw ad kk V L Z) sz)) 0 0 (va_A (xw ad kk V L Z) sz) := by
  refine g_met (q_x_readType D ks ad kk V L Z  b) (by decide) (Nat.le_of_ble_eq_true rfl) ?_
  intro p e s m below meth c A ls H locs hx hb hr hml hown hg hlocks hin hnw hgk hP hK hD hS hA hl
  have hown : s.vm.findClass RX1 = some m.cls := hown
  have hl : lv_has ls 4 [(0, .ref (ad 1))] := hl
  have hP : va_P D vwCl (xw ad kk V L Z) H := hP
  have hD : va_D A (xw ad kk V L Z) := hD
  have hK : va_K D vwCl (xty kk Z) s := hK
  have agV : agr [(1, 3), (1, 6), (1, 7), (6, 8), (6, 9), (6, 10)] [43, 44, 45] V V := agr.rf
  have alL : agL [1, 6, 44] L L := agL.rf
  have fwV : frX (xR b) V V := frX.rf
  have r1 : (-1) ≤ ((V 1 1)).toInt ∧ ((V 1 1)).toInt ≤ 1 := hMV 1 1
  refine lv_aload_n hx hb dX1_readType_0 rfl (lv_at hl 0 rfl) ?_
  refine va_get (D := D) (ci := 1) (v := rfN ad 38 (V 1 1)) (fs := (xfReader ad V L Z)) (C := RX1) (T := TX1) (N := 9) hx hb hg inX1 hown hK hP 1 xgReader rfl 1 (by decide) (hg _ w305) (fun _ h9 => h9) rfl dX1_readType_1 ?_
  refine g_topv (v := .ref (ad (38 + b))) (rfN_r (by first | omega | ((try (have i_tx := Imp.go tx (by omega))); (try (have i_cd := Imp.go cd (by omega))); (try (have i_cd := Imp.go cd (by omega))); (try (have i_tx := Imp.go tx (by omega))); omega))) ?_
  refine va_getN (D := D) (ci := 0) (v := .ref (ad (40 + (5 * b + 0)))) (fs := (xfBook ad V b)) (C := RX0) (T := TX0) (N := 13) hx hb hg inX0 hown hK hP (38 + b) (xgBook hb2) rfl 0 (by decide) (hnw.use 594 n594 rfl) (fun _ h9 => h9) rfl dX1_readType_4 ?_
  have il2 : (5 * b + 0) < 10 := by first | omega | ((try (have i_tx := Imp.go tx (by omega))); (try (have i_cd := Imp.go cd (by omega))); (try (have i_cd := Imp.go cd (by omega))); (try (have i_tx := Imp.go tx (by omega))); omega)
  refine gA_int (gA_runV (As := []) (rest := []) (ci := 6) (q0 := (40 + (5 * b + 0))) hx hb hml hown hg hP hD hK hS hA hnw hgk (x_isFull l D ks H.size ad kk V L Z ((5 * b + 0)) hMV (show (5 * b + 0) < 10 from by first | omega | ((try (have i_tx := Imp.go tx (by omega))); (try (have i_cd := Imp.go cd (by omega))); (try (have i_cd := Imp.go cd (by omega))); (try (have i_tx := Imp.go tx (by omega))); omega))) w863 w864 w865 w168 w866 rfl (xgNames il2) hdV_yX6_isFull ⟨Nat.le_of_ble_eq_true rfl, Nat.le_of_ble_eq_true rfl⟩ rfl hl.1 rfl (Nat.le_of_ble_eq_true rfl) dX1_readType_7 ⟨Nat.le_of_ble_eq_true rfl, Nat.le_of_ble_eq_true rfl⟩) hP hD hK hS hA (fun z3 u4 H locs w5 hP hD hK hS => ?_)
  obtain ⟨rgz3, t6⟩ := w5
  have rgz3 : 0 ≤ z3.toInt ∧ z3.toInt ≤ 1 := rgz3
  have t6 : Imp (z3.toInt = 0) ((V 43 (5 * b + 0)).toInt < ((xcap (5 * b + 0) : Nat) : Int)) := t6
  refine lv_if_eq (tgt := 19) hx hb dX1_readType_10 (by decide) (fun c7 => ?_) (fun c7 => ?_)
  · skip
    have f8 : z3.toInt = 0 := b_eq rfl (by decide) c7
    refine lv_aload_n hx hb dX1_readType_19 rfl (lv_at hl 0 rfl) ?_
    refine va_get (D := D) (ci := 1) (v := .ref (ad 6)) (fs := (xfReader ad V L Z)) (C := RX1) (T := TX1) (N := 9) hx hb hg inX1 hown hK hP 1 xgReader rfl 0 (by decide) (hg _ w304) (fun _ h9 => h9) rfl dX1_readType_20 ?_
    refine gA_void (gA_runV (As := []) (rest := []) (ci := 9) (q0 := 6) hx hb hml hown hg hP hD hK hS hA hnw hgk (x_next l D ks H.size ad kk V L Z  hMV ) w871 w852 w853 w157 w854 rfl xgTape hdV_yX9_next ⟨Nat.le_of_ble_eq_true rfl, Nat.le_of_ble_eq_true rfl⟩ rfl hl.1 rfl (Nat.le_of_ble_eq_true rfl) dX1_readType_23 ⟨Nat.le_of_ble_eq_true rfl, Nat.le_of_ble_eq_true rfl⟩) hP hD hK hS hA (fun u10 H locs w11 hP hD hK hS => ?_)
    obtain ⟨V12, L13⟩ := u10
    obtain ⟨hMV12, ajV12, axL13⟩ := w11
    have alL13 : agL [1, 6, 44] L L13 := agL.tr alL axL13 (by decide)
    have hP : va_P D vwCl (xw ad kk V12 L13 Z) H := hP
    have hD : va_D A (xw ad kk V12 L13 Z) := hD
    have hMV12 : rgd bX V12 := hMV12
    have ajV12 : agr [(6, 8), (6, 9), (6, 10)] [] V V12 := ajV12
    have agV12 : agr [(1, 3), (1, 6), (1, 7), (6, 8), (6, 9), (6, 10)] [43, 44, 45] V V12 := agV.tr ajV12 (by decide) (by decide)
    have fwV12 : frX (xR b) V V12 := frX.tr fwV (frX.ag ajV12 (by decide) (by decide))
    refine lv_aload_n hx hb dX1_readType_26 rfl (lv_at hl 0 rfl) ?_
    have pq14 : (V12 1 1).toInt = ((V 1 1)).toInt := congrArg Int32.toInt (ajV12 1 1 rfl)
    refine gA_int (gA_runV (As := []) (rest := []) (ci := 1) (q0 := 1) hx hb hml hown hg hP hD hK hS hA hnw hgk (x_takeNewName l D ks H.size ad kk V12 L13 Z (b) hMV12 (show b < 2 from by first | omega | ((try (have i_t6 := Imp.go t6 (by omega))); (try (have i_tx := Imp.go tx (by omega))); (try (have i_cd := Imp.go cd (by omega))); (try (have i_cd := Imp.go cd (by omega))); (try (have i_tx := Imp.go tx (by omega))); (try (have i_t6 := Imp.go t6 (by omega))); omega)) (show (V12 1 1).toInt = (b : Int) from by first | omega | ((try (have i_t6 := Imp.go t6 (by omega))); (try (have i_tx := Imp.go tx (by omega))); (try (have i_cd := Imp.go cd (by omega))); (try (have i_cd := Imp.go cd (by omega))); (try (have i_tx := Imp.go tx (by omega))); (try (have i_t6 := Imp.go t6 (by omega))); omega))) w872 w874 w7 w162 w875 rfl xgReader hdV_yX1_takeNewName ⟨Nat.le_of_ble_eq_true rfl, Nat.le_of_ble_eq_true rfl⟩ rfl hl.1 rfl (Nat.le_of_ble_eq_true rfl) dX1_readType_27 ⟨Nat.le_of_ble_eq_true rfl, Nat.le_of_ble_eq_true rfl⟩) hP hD hK hS hA (fun z15 u16 H locs w17 hP hD hK hS => ?_)
    obtain ⟨V18, L19⟩ := u16
    obtain ⟨hMV18, ajV18, axL19, rgz15⟩ := w17
    have alL19 : agL [1, 6, 44] L L19 := agL.tr alL13 axL19 (by decide)
    have hP : va_P D vwCl (xw ad kk V18 L19 Z) H := hP
    have hD : va_D A (xw ad kk V18 L19 Z) := hD
    have hMV18 : rgd bX V18 := hMV18
    have ajV18 : agr [(1, 3), (6, 8), (6, 9), (6, 10)] [] V12 V18 := ajV18
    have agV18 : agr [(1, 3), (1, 6), (1, 7), (6, 8), (6, 9), (6, 10)] [43, 44, 45] V V18 := agV12.tr ajV18 (by decide) (by decide)
    have fwV18 : frX (xR b) V V18 := frX.tr fwV12 (frX.ag ajV18 (by decide) (by decide))
    have rgz15 : 0 ≤ z15.toInt ∧ z15.toInt ≤ 1 := rgz15
    refine lv_if_ne (tgt := 35) hx hb dX1_readType_30 (by decide) (fun c20 => ?_) (fun c20 => ?_)
    · skip
      have f21 : z15.toInt ≠ 0 := b_neq rfl (by decide) c20
      refine lv_aload_n hx hb dX1_readType_35 rfl (lv_at hl 0 rfl) ?_
      refine va_get (D := D) (ci := 1) (v := .long (L19 1 5)) (fs := (xfReader ad V18 L19 Z)) (C := RX1) (T := TX1) (N := 9) hx hb hg inX1 hown hK hP 1 xgReader rfl 5 (by decide) (hg _ w309) (fun _ h9 => h9) rfl dX1_readType_36 ?_
      refine lv_topl (fun w22 ew22 => ?_)
      refine lv_lstore_n (lv' := [(1, .long w22), (0, .ref (ad 1))]) hx hb dX1_readType_39 rfl hl (by decide) rfl (fun ls hl => ?_)
      refine lv_aload_n hx hb dX1_readType_40 rfl (lv_at hl 1 rfl) ?_
      refine lv_iconst (v := 0) hx hb dX1_readType_41 (by decide) ?_
      refine va_put (D := D) (ci := 1) (v := .int 0) (ty := tyX1 7) (fs := (xfReader ad V18 L19 Z)) (C := RX1) (T := TX1) (N := 9) hx hb hg inX1 tyX1 tyX1_ok nmX1 hown hK hP hD hS 1 xgReader rfl 7 (by decide) (hg _ w311) (fun _ h9 => h9) rfl (tyX1_ok 7 (by decide)) rfl rfl (Nat.le_of_ble_eq_true rfl) dX1_readType_42 (fun H locs hP hD hS => ?_)
      obtain ⟨V23, hV23⟩ : ∃ z, z = up2 V18 1 7 0 := ⟨_, rfl⟩
      have ew24 : (xw ad kk V18 L19 Z).set 1 ((ad 1), .inr (1, (xfReader ad V18 L19 Z).set 7 (.int 0))) = xw ad kk V23 L19 Z := by rw [hV23]; exact xw_ss (by decide) rfl (xb_si (by decide))
      have hP : va_P D vwCl (xw ad kk V23 L19 Z) H := by rw [← ew24]; exact hP
      have hD : va_D A (xw ad kk V23 L19 Z) := by rw [← ew24]; exact hD
      have hMV23 : rgd bX V23 := hMV18.put hV23 (i_full _)
      have agV23 : agr [(1, 3), (1, 6), (1, 7), (6, 8), (6, 9), (6, 10)] [43, 44, 45] V V23 := agV18.up hV23 rfl
      have fwV23 : frX (xR b) V V23 := frX.up fwV18 hV23 (Or.inl (by decide))
      refine lv_aload_n hx hb dX1_readType_45 rfl (lv_at hl 1 rfl) ?_
      refine va_get (D := D) (ci := 1) (v := .ref (ad 6)) (fs := (xfReader ad V23 L19 Z)) (C := RX1) (T := TX1) (N := 9) hx hb hg inX1 hown hK hP 1 xgReader rfl 0 (by decide) (hg _ w304) (fun _ h9 => h9) rfl dX1_readType_46 ?_
      refine va_getN (D := D) (ci := 9) (v := .int (V23 6 9)) (fs := (xfTape ad V23 L19 Z)) (C := RX9) (T := TX9) (N := 12) hx hb hg inX9 hown hK hP 6 xgTape rfl 9 (by decide) (hnw.use 262 n262 rfl) (fun _ h9 => h9) rfl dX1_readType_49 ?_
      refine g_top (v := (V18 6 9)) (up2_o hV23 (by decide)) ?_
      refine lv_sipush (v := 129) hx hb dX1_readType_52 (by decide) ?_
      refine lv_icmp_ne (tgt := 74) hx hb dX1_readType_55 (by decide) (fun c25 => ?_) (fun c25 => ?_)
      · skip
        have f26 : ((V18 6 9)).toInt ≠ 129 := b_neq rfl (by decide) c25
        refine lv_aload_n hx hb dX1_readType_74 rfl (lv_at hl 1 rfl) ?_
        refine lv_bipush (v := 59) hx hb dX1_readType_75 (by decide) ?_
        have r27 : Int32.toInt 59 = 59 := by decide
        refine gA_int (gA_runV (As := [.int 59]) (rest := []) (ci := 1) (q0 := 1) hx hb hml hown hg hP hD hK hS hA hnw hgk (x_take l D ks H.size ad kk V23 L19 Z 59 hMV23 ) w893 w895 w10 w162 w896 rfl xgReader hdV_yX1_take ⟨Nat.le_of_ble_eq_true rfl, Nat.le_of_ble_eq_true rfl⟩ rfl hl.1 rfl (Nat.le_of_ble_eq_true rfl) dX1_readType_77 ⟨Nat.le_of_ble_eq_true rfl, Nat.le_of_ble_eq_true rfl⟩) hP hD hK hS hA (fun z28 u29 H locs w30 hP hD hK hS => ?_)
        obtain ⟨V31, L32⟩ := u29
        obtain ⟨hMV31, ajV31, axL32, rgz28⟩ := w30
        have alL32 : agL [1, 6, 44] L L32 := agL.tr alL19 axL32 (by decide)
        have hP : va_P D vwCl (xw ad kk V31 L32 Z) H := hP
        have hD : va_D A (xw ad kk V31 L32 Z) := hD
        have hMV31 : rgd bX V31 := hMV31
        have ajV31 : agr [(1, 3), (6, 8), (6, 9), (6, 10)] [] V23 V31 := ajV31
        have agV31 : agr [(1, 3), (1, 6), (1, 7), (6, 8), (6, 9), (6, 10)] [43, 44, 45] V V31 := agV23.tr ajV31 (by decide) (by decide)
        have fwV31 : frX (xR b) V V31 := frX.tr fwV23 (frX.ag ajV31 (by decide) (by decide))
        have rgz28 : 0 ≤ z28.toInt ∧ z28.toInt ≤ 1 := rgz28
        refine lv_if_ne (tgt := 85) hx hb dX1_readType_80 (by decide) (fun c33 => ?_) (fun c33 => ?_)
        · skip
          have f34 : z28.toInt ≠ 0 := b_neq rfl (by decide) c33
          refine lv_aload_n hx hb dX1_readType_85 rfl (lv_at hl 1 rfl) ?_
          refine va_get (D := D) (ci := 1) (v := rfN ad 38 (V31 1 1)) (fs := (xfReader ad V31 L32 Z)) (C := RX1) (T := TX1) (N := 9) hx hb hg inX1 hown hK hP 1 xgReader rfl 1 (by decide) (hg _ w305) (fun _ h9 => h9) rfl dX1_readType_86 ?_
          have pq35 : (V31 1 1).toInt = ((V 1 1)).toInt := congrArg Int32.toInt ((ajV31 1 1 rfl).trans ((up2_k hV23 (by decide)).trans ((ajV18 1 1 rfl).trans (ajV12 1 1 rfl))))
          refine g_topv (v := .ref (ad (38 + b))) (rfN_r (by first | omega | ((try (have i_t6 := Imp.go t6 (by omega))); (try (have i_tx := Imp.go tx (by omega))); (try (have i_cd := Imp.go cd (by omega))); (try (have i_cd := Imp.go cd (by omega))); (try (have i_tx := Imp.go tx (by omega))); (try (have i_t6 := Imp.go t6 (by omega))); omega))) ?_
          refine va_getN (D := D) (ci := 0) (v := .ref (ad (40 + (5 * b + 0)))) (fs := (xfBook ad V31 b)) (C := RX0) (T := TX0) (N := 13) hx hb hg inX0 hown hK hP (38 + b) (xgBook hb2) rfl 0 (by decide) (hnw.use 594 n594 rfl) (fun _ h9 => h9) rfl dX1_readType_89 ?_
          refine lv_lload_n hx hb dX1_readType_92 rfl (lv_at hl 0 rfl) ?_
          refine gA_int (gA_runV (As := [.long w22]) (rest := []) (ci := 6) (q0 := (40 + (5 * b + 0))) hx hb hml hown hg hP hD hK hS hA hnw hgk (x_add l D ks H.size ad kk V31 L32 Z w22 ((5 * b + 0)) hMV31 (show (5 * b + 0) < 10 from by first | omega | ((try (have i_t6 := Imp.go t6 (by omega))); (try (have i_tx := Imp.go tx (by omega))); (try (have i_cd := Imp.go cd (by omega))); (try (have i_cd := Imp.go cd (by omega))); (try (have i_tx := Imp.go tx (by omega))); (try (have i_t6 := Imp.go t6 (by omega))); omega))) w897 w898 w899 w168 w900 rfl (xgNames il2) hdV_yX6_add ⟨Nat.le_of_ble_eq_true rfl, Nat.le_of_ble_eq_true rfl⟩ rfl hl.1 rfl (Nat.le_of_ble_eq_true rfl) dX1_readType_93 ⟨Nat.le_of_ble_eq_true rfl, Nat.le_of_ble_eq_true rfl⟩) hP hD hK hS hA (fun z36 u37 H locs w38 hP hD hK hS => ?_)
          obtain ⟨V42, L43⟩ := u37
          obtain ⟨hMV42, ajV42, axL43, fyV42, rgz36, t39, t40, t41⟩ := w38
          have alL43 : agL [1, 6, 44] L L43 := agL.tr alL32 axL43 (by decide)
          have hP : va_P D vwCl (xw ad kk V42 L43 Z) H := hP
          have hD : va_D A (xw ad kk V42 L43 Z) := hD
          have hMV42 : rgd bX V42 := hMV42
          have ajV42 : agr [] [43, 44] V31 V42 := ajV42
          have agV42 : agr [(1, 3), (1, 6), (1, 7), (6, 8), (6, 9), (6, 10)] [43, 44, 45] V V42 := agV31.tr ajV42 (by decide) (by decide)
          have fwV42 : frX (xR b) V V42 := frX.tr fwV31 (frX_NB fyV42 (by first | omega | ((try (have i_t6 := Imp.go t6 (by omega))); (try (have i_tx := Imp.go tx (by omega))); (try (have i_cd := Imp.go cd (by omega))); (try (have i_cd := Imp.go cd (by omega))); (try (have i_tx := Imp.go tx (by omega))); (try (have i_t6 := Imp.go t6 (by omega))); omega)) (by first | omega | ((try (have i_t6 := Imp.go t6 (by omega))); (try (have i_tx := Imp.go tx (by omega))); (try (have i_cd := Imp.go cd (by omega))); (try (have i_cd := Imp.go cd (by omega))); (try (have i_tx := Imp.go tx (by omega))); (try (have i_t6 := Imp.go t6 (by omega))); omega)))
          have rgz36 : (-1) ≤ z36.toInt ∧ z36.toInt ≤ 23 := rgz36
          have t39 : z36.toInt < (V42 43 (5 * b + 0)).toInt := t39
          have t40 : Imp ((V31 43 (5 * b + 0)).toInt < ((xcap (5 * b + 0) : Nat) : Int)) (z36.toInt = (V31 43 (5 * b + 0)).toInt ∧ (V42 43 (5 * b + 0)).toInt = (V31 43 (5 * b + 0)).toInt + 1) := t40
          have t41 : (∀ n : Nat, ¬ n = (5 * b + 0) → V42 43 n = V31 43 n) := t41
          refine lv_istore_n (lv' := [(3, .int z36), (1, .long w22), (0, .ref (ad 1))]) hx hb dX1_readType_96 rfl hl (by decide) rfl (fun ls hl => ?_)
          refine lv_iload_n hx hb dX1_readType_97 rfl (lv_at hl 0 rfl) ?_
          refine lv_iconst (v := (-1)) hx hb dX1_readType_98 (by decide) ?_
          refine lv_icmp_eq (tgt := 119) hx hb dX1_readType_99 (by decide) (fun c44 => ?_) (fun c44 => ?_)
          · skip
            have f45 : z36.toInt = (-1) := b_eq rfl (by decide) c44
            refine lv_iconst (v := 1) hx hb dX1_readType_119 (by decide) ?_
            have px46 : px V V31 b := px.tr (px.rf : px V V b) (px.ag (show agr [(1, 3), (1, 7), (6, 8), (6, 9), (6, 10)] [] V V31 from (agr.tr (agr.up (agr.tr (agr.tr agr.rf ajV12 (by decide) (by decide)) ajV18 (by decide) (by decide)) hV23 rfl) ajV31 (by decide) (by decide))) (fun _ => rfl) (fun _ => rfl) (fun _ => rfl))
            have px47 : px V V42 b := px.tr px46 ⟨p0x.ag ajV42 (fun _ => rfl) (fun _ => rfl), t41 _ (by omega)⟩
            have tx48 : TX V42 b := TX.ag tx (show agr [(1, 3), (1, 7), (6, 8), (6, 9), (6, 10)] [43, 44] V V42 from (agr.tr (agr.tr (agr.up (agr.tr (agr.tr agr.rf ajV12 (by decide) (by decide)) ajV18 (by decide) (by decide)) hV23 rfl) ajV31 (by decide) (by decide)) ajV42 (by decide) (by decide))) px47 (fun _ => rfl) (fun _ => rfl) (fun _ => rfl) (fun _ => rfl) (fun _ => rfl) (fun _ => rfl)
            have cd49 : CD V42 b := ⟨CB.ag cd.1 (show agr [(1, 3), (1, 7), (6, 8), (6, 9), (6, 10)] [43, 44] V V42 from (agr.tr (agr.tr (agr.up (agr.tr (agr.tr agr.rf ajV12 (by decide) (by decide)) ajV18 (by decide) (by decide)) hV23 rfl) ajV31 (by decide) (by decide)) ajV42 (by decide) (by decide))) (fun _ => rfl) (fun _ => rfl), CO.ag cd.2 (show agr [(1, 3), (1, 7), (6, 8), (6, 9), (6, 10)] [43, 44] V V42 from (agr.tr (agr.tr (agr.up (agr.tr (agr.tr agr.rf ajV12 (by decide) (by decide)) ajV18 (by decide) (by decide)) hV23 rfl) ajV31 (by decide) (by decide)) ajV42 (by decide) (by decide))) (fun _ => rfl) (fun _ => rfl)⟩
            have px50 : px V V31 b := px.tr (px.rf : px V V b) (px.ag (show agr [(1, 3), (1, 7), (6, 8), (6, 9), (6, 10)] [] V V31 from (agr.tr (agr.up (agr.tr (agr.tr agr.rf ajV12 (by decide) (by decide)) ajV18 (by decide) (by decide)) hV23 rfl) ajV31 (by decide) (by decide))) (fun _ => rfl) (fun _ => rfl) (fun _ => rfl))
            have px51 : px V V42 b := px.tr px50 ⟨p0x.ag ajV42 (fun _ => rfl) (fun _ => rfl), t41 _ (by omega)⟩
            exact W.zret (v := 1) hx hb hr rfl (fun t ht hW => ⟨⟨1, (V42, L43), rfl, ⟨hMV42, agV42, alL43, fwV42, (by decide), tx48, cd49, px51⟩, by rw [ht]; exact hP, va_K.moved hW.alike hK, hD⟩, hS.F ht⟩) hS.2.2 dX1_readType_120
          · skip
            have f52 : z36.toInt ≠ (-1) := b_neq rfl (by decide) c44
            refine lv_aload_n hx hb dX1_readType_102 rfl (lv_at hl 2 rfl) ?_
            refine va_get (D := D) (ci := 1) (v := rfN ad 38 (V42 1 1)) (fs := (xfReader ad V42 L43 Z)) (C := RX1) (T := TX1) (N := 9) hx hb hg inX1 hown hK hP 1 xgReader rfl 1 (by decide) (hg _ w305) (fun _ h9 => h9) rfl dX1_readType_103 ?_
            have pq53 : (V42 1 1).toInt = ((V 1 1)).toInt := congrArg Int32.toInt ((ajV42 1 1 rfl).trans ((ajV31 1 1 rfl).trans ((up2_k hV23 (by decide)).trans ((ajV18 1 1 rfl).trans (ajV12 1 1 rfl)))))
            refine g_topv (v := .ref (ad (38 + b))) (rfN_r (by first | omega | ((try (have i_t40 := Imp.go t40 (by omega))); (try (have i_t6 := Imp.go t6 (by omega))); (try (have i_tx := Imp.go tx (by omega))); (try (have i_cd := Imp.go cd (by omega))); (try (have i_cd := Imp.go cd (by omega))); (try (have i_tx := Imp.go tx (by omega))); (try (have i_t6 := Imp.go t6 (by omega))); (try (have i_t40 := Imp.go t40 (by omega))); omega))) ?_
            refine va_getN (D := D) (ci := 0) (v := .ref (ad (60 + b))) (fs := (xfBook ad V42 b)) (C := RX0) (T := TX0) (N := 13) hx hb hg inX0 hown hK hP (38 + b) (xgBook hb2) rfl 5 (by decide) (hnw.use 609 n609 rfl) (fun _ h9 => h9) rfl dX1_readType_106 ?_
            refine lv_iload_n hx hb dX1_readType_109 rfl (lv_at hl 0 rfl) ?_
            refine lv_aload_n hx hb dX1_readType_110 rfl (lv_at hl 2 rfl) ?_
            refine va_get (D := D) (ci := 1) (v := .int (V42 1 7)) (fs := (xfReader ad V42 L43 Z)) (C := RX1) (T := TX1) (N := 9) hx hb hg inX1 hown hK hP 1 xgReader rfl 7 (by decide) (hg _ w311) (fun _ h9 => h9) rfl dX1_readType_111 ?_
            refine g_top (v := 0) ((ajV42 1 7 rfl).trans ((ajV31 1 7 rfl).trans (up2_s hV23))) ?_
            refine lv_iconst (v := 1) hx hb dX1_readType_114 (by decide) ?_
            refine lv_iload_n hx hb dX1_readType_115 rfl (lv_at hl 0 rfl) ?_
            refine lv_ishl hx hb dX1_readType_116 ?_
            refine lv_topi (fun z54 ez54 => ?_)
            refine lv_ior hx hb dX1_readType_117 ?_
            refine lv_topi (fun z55 ez55 => ?_)
            have il56 : b < 2 := by first | omega | ((try (have i_t40 := Imp.go t40 (by omega))); (try (have i_t6 := Imp.go t6 (by omega))); (try (have i_tx := Imp.go tx (by omega))); (try (have i_cd := Imp.go cd (by omega))); (try (have i_cd := Imp.go cd (by omega))); (try (have i_tx := Imp.go tx (by omega))); (try (have i_t6 := Imp.go t6 (by omega))); (try (have i_t40 := Imp.go t40 (by omega))); omega)
            refine va_iast (D := D) (i := z36) (x := z55) hx hb hK hP hD hS (60 + b) (53 + b) (xgtypeUnder il56) (xttypeUnder il56) (i_in (a := z36.toInt) rfl (by first | omega | ((try (have i_t40 := Imp.go t40 (by omega))); (try (have i_t6 := Imp.go t6 (by omega))); (try (have i_tx := Imp.go tx (by omega))); (try (have i_cd := Imp.go cd (by omega))); (try (have i_cd := Imp.go cd (by omega))); (try (have i_tx := Imp.go tx (by omega))); (try (have i_t6 := Imp.go t6 (by omega))); (try (have i_t40 := Imp.go t40 (by omega))); omega))) dX1_readType_118 (fun H locs hP hD hS => ?_)
            have kc57 := i_clamp (x := z36) rfl (by first | omega | ((try (have i_t40 := Imp.go t40 (by omega))); (try (have i_t6 := Imp.go t6 (by omega))); (try (have i_tx := Imp.go tx (by omega))); (try (have i_cd := Imp.go cd (by omega))); (try (have i_cd := Imp.go cd (by omega))); (try (have i_tx := Imp.go tx (by omega))); (try (have i_t6 := Imp.go t6 (by omega))); (try (have i_t40 := Imp.go t40 (by omega))); omega))
            have kl58 : (Int32.toNatClampNeg z36) < 24 := by first | omega | ((try (have i_t40 := Imp.go t40 (by omega))); (try (have i_t6 := Imp.go t6 (by omega))); (try (have i_tx := Imp.go tx (by omega))); (try (have i_cd := Imp.go cd (by omega))); (try (have i_cd := Imp.go cd (by omega))); (try (have i_tx := Imp.go tx (by omega))); (try (have i_t6 := Imp.go t6 (by omega))); (try (have i_t40 := Imp.go t40 (by omega))); omega)
            obtain ⟨V59, hV59⟩ : ∃ z, z = up2 V42 45 (24 * b + (Int32.toNatClampNeg z36)) z55 := ⟨_, rfl⟩
            have ew60 : (xw ad kk V42 L43 Z).set (60 + b) ((ad (60 + b)), .inl ((kk (60 + b)), 24, .inl (upd (fun q => if q < 24 then V42 45 (24 * b + q) else 0) (Int32.toNatClampNeg z36) z55))) = xw ad kk V59 L43 Z := by rw [hV59]; exact xptypeUnder il56 kl58
            have hP : va_P D vwCl (xw ad kk V59 L43 Z) H := by rw [← ew60]; exact hP
            have hD : va_D A (xw ad kk V59 L43 Z) := by rw [← ew60]; exact hD
            have hMV59 : rgd bX V59 := hMV42.put hV59 (i_full _)
            have agV59 : agr [(1, 3), (1, 6), (1, 7), (6, 8), (6, 9), (6, 10)] [43, 44, 45] V V59 := agV42.up hV59 rfl
            have fwV59 : frX (xR b) V V59 := frX.up fwV42 hV59 (Or.inr ⟨(by show 24 * b ≤ (24 * b + (Int32.toNatClampNeg z36)); first | omega | ((try (have i_t40 := Imp.go t40 (by omega))); (try (have i_t6 := Imp.go t6 (by omega))); (try (have i_tx := Imp.go tx (by omega))); (try (have i_cd := Imp.go cd (by omega))); (try (have i_cd := Imp.go cd (by omega))); (try (have i_tx := Imp.go tx (by omega))); (try (have i_t6 := Imp.go t6 (by omega))); (try (have i_t40 := Imp.go t40 (by omega))); omega)), (by show (24 * b + (Int32.toNatClampNeg z36)) < 24 * b + 24; first | omega | ((try (have i_t40 := Imp.go t40 (by omega))); (try (have i_t6 := Imp.go t6 (by omega))); (try (have i_tx := Imp.go tx (by omega))); (try (have i_cd := Imp.go cd (by omega))); (try (have i_cd := Imp.go cd (by omega))); (try (have i_tx := Imp.go tx (by omega))); (try (have i_t6 := Imp.go t6 (by omega))); (try (have i_t40 := Imp.go t40 (by omega))); omega))⟩)
            refine lv_iconst (v := 1) hx hb dX1_readType_119 (by decide) ?_
            have px61 : px V V31 b := px.tr (px.rf : px V V b) (px.ag (show agr [(1, 3), (1, 7), (6, 8), (6, 9), (6, 10)] [] V V31 from (agr.tr (agr.up (agr.tr (agr.tr agr.rf ajV12 (by decide) (by decide)) ajV18 (by decide) (by decide)) hV23 rfl) ajV31 (by decide) (by decide))) (fun _ => rfl) (fun _ => rfl) (fun _ => rfl))
            have px62 : px V V42 b := px.tr px61 ⟨p0x.ag ajV42 (fun _ => rfl) (fun _ => rfl), t41 _ (by omega)⟩
            have px63 : px V V59 b := px.tr px62 (px.ag (show agr [] [45] V42 V59 from (agr.up agr.rf hV59 rfl)) (fun _ => rfl) (fun _ => rfl) (fun _ => rfl))
            have tx64 : TX V59 b := TX.ag tx (show agr [(1, 3), (1, 7), (6, 8), (6, 9), (6, 10)] [43, 44, 45] V V59 from (agr.up (agr.tr (agr.tr (agr.up (agr.tr (agr.tr agr.rf ajV12 (by decide) (by decide)) ajV18 (by decide) (by decide)) hV23 rfl) ajV31 (by decide) (by decide)) ajV42 (by decide) (by decide)) hV59 rfl)) px63 (fun _ => rfl) (fun _ => rfl) (fun _ => rfl) (fun _ => rfl) (fun _ => rfl) (fun _ => rfl)
            have cd65 : CD V59 b := ⟨CB.ag cd.1 (show agr [(1, 3), (1, 7), (6, 8), (6, 9), (6, 10)] [43, 44, 45] V V59 from (agr.up (agr.tr (agr.tr (agr.up (agr.tr (agr.tr agr.rf ajV12 (by decide) (by decide)) ajV18 (by decide) (by decide)) hV23 rfl) ajV31 (by decide) (by decide)) ajV42 (by decide) (by decide)) hV59 rfl)) (fun _ => rfl) (fun _ => rfl), CO.ag cd.2 (show agr [(1, 3), (1, 7), (6, 8), (6, 9), (6, 10)] [43, 44, 45] V V59 from (agr.up (agr.tr (agr.tr (agr.up (agr.tr (agr.tr agr.rf ajV12 (by decide) (by decide)) ajV18 (by decide) (by decide)) hV23 rfl) ajV31 (by decide) (by decide)) ajV42 (by decide) (by decide)) hV59 rfl)) (fun _ => rfl) (fun _ => rfl)⟩
            have px66 : px V V31 b := px.tr (px.rf : px V V b) (px.ag (show agr [(1, 3), (1, 7), (6, 8), (6, 9), (6, 10)] [] V V31 from (agr.tr (agr.up (agr.tr (agr.tr agr.rf ajV12 (by decide) (by decide)) ajV18 (by decide) (by decide)) hV23 rfl) ajV31 (by decide) (by decide))) (fun _ => rfl) (fun _ => rfl) (fun _ => rfl))
            have px67 : px V V42 b := px.tr px66 ⟨p0x.ag ajV42 (fun _ => rfl) (fun _ => rfl), t41 _ (by omega)⟩
            have px68 : px V V59 b := px.tr px67 (px.ag (show agr [] [45] V42 V59 from (agr.up agr.rf hV59 rfl)) (fun _ => rfl) (fun _ => rfl) (fun _ => rfl))
            exact W.zret (v := 1) hx hb hr rfl (fun t ht hW => ⟨⟨1, (V59, L43), rfl, ⟨hMV59, agV59, alL43, fwV59, (by decide), tx64, cd65, px68⟩, by rw [ht]; exact hP, va_K.moved hW.alike hK, hD⟩, hS.F ht⟩) hS.2.2 dX1_readType_120
        · skip
          have f69 : z28.toInt = 0 := b_eq rfl (by decide) c33
          refine lv_iconst (v := 0) hx hb dX1_readType_83 (by decide) ?_
          have px70 : px V V31 b := px.tr (px.rf : px V V b) (px.ag (show agr [(1, 3), (1, 7), (6, 8), (6, 9), (6, 10)] [] V V31 from (agr.tr (agr.up (agr.tr (agr.tr agr.rf ajV12 (by decide) (by decide)) ajV18 (by decide) (by decide)) hV23 rfl) ajV31 (by decide) (by decide))) (fun _ => rfl) (fun _ => rfl) (fun _ => rfl))
          have tx71 : TX V31 b := TX.ag tx (show agr [(1, 3), (1, 7), (6, 8), (6, 9), (6, 10)] [] V V31 from (agr.tr (agr.up (agr.tr (agr.tr agr.rf ajV12 (by decide) (by decide)) ajV18 (by decide) (by decide)) hV23 rfl) ajV31 (by decide) (by decide))) px70 (fun _ => rfl) (fun _ => rfl) (fun _ => rfl) (fun _ => rfl) (fun _ => rfl) (fun _ => rfl)
          have cd72 : CD V31 b := ⟨CB.ag cd.1 (show agr [(1, 3), (1, 7), (6, 8), (6, 9), (6, 10)] [] V V31 from (agr.tr (agr.up (agr.tr (agr.tr agr.rf ajV12 (by decide) (by decide)) ajV18 (by decide) (by decide)) hV23 rfl) ajV31 (by decide) (by decide))) (fun _ => rfl) (fun _ => rfl), CO.ag cd.2 (show agr [(1, 3), (1, 7), (6, 8), (6, 9), (6, 10)] [] V V31 from (agr.tr (agr.up (agr.tr (agr.tr agr.rf ajV12 (by decide) (by decide)) ajV18 (by decide) (by decide)) hV23 rfl) ajV31 (by decide) (by decide))) (fun _ => rfl) (fun _ => rfl)⟩
          have px73 : px V V31 b := px.tr (px.rf : px V V b) (px.ag (show agr [(1, 3), (1, 7), (6, 8), (6, 9), (6, 10)] [] V V31 from (agr.tr (agr.up (agr.tr (agr.tr agr.rf ajV12 (by decide) (by decide)) ajV18 (by decide) (by decide)) hV23 rfl) ajV31 (by decide) (by decide))) (fun _ => rfl) (fun _ => rfl) (fun _ => rfl))
          exact W.zret (v := 0) hx hb hr rfl (fun t ht hW => ⟨⟨0, (V31, L32), rfl, ⟨hMV31, agV31, alL32, fwV31, (by decide), tx71, cd72, px73⟩, by rw [ht]; exact hP, va_K.moved hW.alike hK, hD⟩, hS.F ht⟩) hS.2.2 dX1_readType_84
      · skip
        have f74 : ((V18 6 9)).toInt = 129 := b_eq rfl (by decide) c25
        refine lv_aload_n hx hb dX1_readType_58 rfl (lv_at hl 1 rfl) ?_
        refine va_get (D := D) (ci := 1) (v := .ref (ad 6)) (fs := (xfReader ad V23 L19 Z)) (C := RX1) (T := TX1) (N := 9) hx hb hg inX1 hown hK hP 1 xgReader rfl 0 (by decide) (hg _ w304) (fun _ h9 => h9) rfl dX1_readType_59 ?_
        refine gA_void (gA_runV (As := []) (rest := []) (ci := 9) (q0 := 6) hx hb hml hown hg hP hD hK hS hA hnw hgk (x_next l D ks H.size ad kk V23 L19 Z  hMV23 ) w871 w852 w853 w157 w854 rfl xgTape hdV_yX9_next ⟨Nat.le_of_ble_eq_true rfl, Nat.le_of_ble_eq_true rfl⟩ rfl hl.1 rfl (Nat.le_of_ble_eq_true rfl) dX1_readType_62 ⟨Nat.le_of_ble_eq_true rfl, Nat.le_of_ble_eq_true rfl⟩) hP hD hK hS hA (fun u76 H locs w77 hP hD hK hS => ?_)
        obtain ⟨V78, L79⟩ := u76
        obtain ⟨hMV78, ajV78, axL79⟩ := w77
        have alL79 : agL [1, 6, 44] L L79 := agL.tr alL19 axL79 (by decide)
        have hP : va_P D vwCl (xw ad kk V78 L79 Z) H := hP
        have hD : va_D A (xw ad kk V78 L79 Z) := hD
        have hMV78 : rgd bX V78 := hMV78
        have ajV78 : agr [(6, 8), (6, 9), (6, 10)] [] V23 V78 := ajV78
        have agV78 : agr [(1, 3), (1, 6), (1, 7), (6, 8), (6, 9), (6, 10)] [43, 44, 45] V V78 := agV23.tr ajV78 (by decide) (by decide)
        have fwV78 : frX (xR b) V V78 := frX.tr fwV23 (frX.ag ajV78 (by decide) (by decide))
        refine lv_aload_n hx hb dX1_readType_65 rfl (lv_at hl 1 rfl) ?_
        have pq80 : (V78 1 1).toInt = ((V 1 1)).toInt := congrArg Int32.toInt ((ajV78 1 1 rfl).trans ((up2_k hV23 (by decide)).trans ((ajV18 1 1 rfl).trans (ajV12 1 1 rfl))))
        refine gA_int (gA_runV (As := []) (rest := []) (ci := 1) (q0 := 1) hx hb hml hown hg hP hD hK hS hA hnw hgk (x_takeTypes l D ks H.size ad kk V78 L79 Z (b) hMV78 (show b < 2 from by first | omega | ((try (have i_t6 := Imp.go t6 (by omega))); (try (have i_tx := Imp.go tx (by omega))); (try (have i_cd := Imp.go cd (by omega))); (try (have i_cd := Imp.go cd (by omega))); (try (have i_tx := Imp.go tx (by omega))); (try (have i_t6 := Imp.go t6 (by omega))); omega)) (show (V78 1 1).toInt = (b : Int) from by first | omega | ((try (have i_t6 := Imp.go t6 (by omega))); (try (have i_tx := Imp.go tx (by omega))); (try (have i_cd := Imp.go cd (by omega))); (try (have i_cd := Imp.go cd (by omega))); (try (have i_tx := Imp.go tx (by omega))); (try (have i_t6 := Imp.go t6 (by omega))); omega))) w884 w886 w8 w162 w887 rfl xgReader hdV_yX1_takeTypes ⟨Nat.le_of_ble_eq_true rfl, Nat.le_of_ble_eq_true rfl⟩ rfl hl.1 rfl (Nat.le_of_ble_eq_true rfl) dX1_readType_66 ⟨Nat.le_of_ble_eq_true rfl, Nat.le_of_ble_eq_true rfl⟩) hP hD hK hS hA (fun z81 u82 H locs w83 hP hD hK hS => ?_)
        obtain ⟨V84, L85⟩ := u82
        obtain ⟨hMV84, ajV84, axL85, rgz81⟩ := w83
        have alL85 : agL [1, 6, 44] L L85 := agL.tr alL79 axL85 (by decide)
        have hP : va_P D vwCl (xw ad kk V84 L85 Z) H := hP
        have hD : va_D A (xw ad kk V84 L85 Z) := hD
        have hMV84 : rgd bX V84 := hMV84
        have ajV84 : agr [(1, 3), (1, 6), (1, 7), (6, 8), (6, 9), (6, 10)] [] V78 V84 := ajV84
        have agV84 : agr [(1, 3), (1, 6), (1, 7), (6, 8), (6, 9), (6, 10)] [43, 44, 45] V V84 := agV78.tr ajV84 (by decide) (by decide)
        have fwV84 : frX (xR b) V V84 := frX.tr fwV78 (frX.ag ajV84 (by decide) (by decide))
        have rgz81 : 0 ≤ z81.toInt ∧ z81.toInt ≤ 1 := rgz81
        refine lv_if_ne (tgt := 74) hx hb dX1_readType_69 (by decide) (fun c86 => ?_) (fun c86 => ?_)
        · skip
          have f87 : z81.toInt ≠ 0 := b_neq rfl (by decide) c86
          refine lv_aload_n hx hb dX1_readType_74 rfl (lv_at hl 1 rfl) ?_
          refine lv_bipush (v := 59) hx hb dX1_readType_75 (by decide) ?_
          have r88 : Int32.toInt 59 = 59 := by decide
          refine gA_int (gA_runV (As := [.int 59]) (rest := []) (ci := 1) (q0 := 1) hx hb hml hown hg hP hD hK hS hA hnw hgk (x_take l D ks H.size ad kk V84 L85 Z 59 hMV84 ) w893 w895 w10 w162 w896 rfl xgReader hdV_yX1_take ⟨Nat.le_of_ble_eq_true rfl, Nat.le_of_ble_eq_true rfl⟩ rfl hl.1 rfl (Nat.le_of_ble_eq_true rfl) dX1_readType_77 ⟨Nat.le_of_ble_eq_true rfl, Nat.le_of_ble_eq_true rfl⟩) hP hD hK hS hA (fun z89 u90 H locs w91 hP hD hK hS => ?_)
          obtain ⟨V92, L93⟩ := u90
          obtain ⟨hMV92, ajV92, axL93, rgz89⟩ := w91
          have alL93 : agL [1, 6, 44] L L93 := agL.tr alL85 axL93 (by decide)
          have hP : va_P D vwCl (xw ad kk V92 L93 Z) H := hP
          have hD : va_D A (xw ad kk V92 L93 Z) := hD
          have hMV92 : rgd bX V92 := hMV92
          have ajV92 : agr [(1, 3), (6, 8), (6, 9), (6, 10)] [] V84 V92 := ajV92
          have agV92 : agr [(1, 3), (1, 6), (1, 7), (6, 8), (6, 9), (6, 10)] [43, 44, 45] V V92 := agV84.tr ajV92 (by decide) (by decide)
          have fwV92 : frX (xR b) V V92 := frX.tr fwV84 (frX.ag ajV92 (by decide) (by decide))
          have rgz89 : 0 ≤ z89.toInt ∧ z89.toInt ≤ 1 := rgz89
          refine lv_if_ne (tgt := 85) hx hb dX1_readType_80 (by decide) (fun c94 => ?_) (fun c94 => ?_)
          · skip
            have f95 : z89.toInt ≠ 0 := b_neq rfl (by decide) c94
            refine lv_aload_n hx hb dX1_readType_85 rfl (lv_at hl 1 rfl) ?_
            refine va_get (D := D) (ci := 1) (v := rfN ad 38 (V92 1 1)) (fs := (xfReader ad V92 L93 Z)) (C := RX1) (T := TX1) (N := 9) hx hb hg inX1 hown hK hP 1 xgReader rfl 1 (by decide) (hg _ w305) (fun _ h9 => h9) rfl dX1_readType_86 ?_
            have pq96 : (V92 1 1).toInt = ((V 1 1)).toInt := congrArg Int32.toInt ((ajV92 1 1 rfl).trans ((ajV84 1 1 rfl).trans ((ajV78 1 1 rfl).trans ((up2_k hV23 (by decide)).trans ((ajV18 1 1 rfl).trans (ajV12 1 1 rfl))))))
            refine g_topv (v := .ref (ad (38 + b))) (rfN_r (by first | omega | ((try (have i_t6 := Imp.go t6 (by omega))); (try (have i_tx := Imp.go tx (by omega))); (try (have i_cd := Imp.go cd (by omega))); (try (have i_cd := Imp.go cd (by omega))); (try (have i_tx := Imp.go tx (by omega))); (try (have i_t6 := Imp.go t6 (by omega))); omega))) ?_
            refine va_getN (D := D) (ci := 0) (v := .ref (ad (40 + (5 * b + 0)))) (fs := (xfBook ad V92 b)) (C := RX0) (T := TX0) (N := 13) hx hb hg inX0 hown hK hP (38 + b) (xgBook hb2) rfl 0 (by decide) (hnw.use 594 n594 rfl) (fun _ h9 => h9) rfl dX1_readType_89 ?_
            refine lv_lload_n hx hb dX1_readType_92 rfl (lv_at hl 0 rfl) ?_
            refine gA_int (gA_runV (As := [.long w22]) (rest := []) (ci := 6) (q0 := (40 + (5 * b + 0))) hx hb hml hown hg hP hD hK hS hA hnw hgk (x_add l D ks H.size ad kk V92 L93 Z w22 ((5 * b + 0)) hMV92 (show (5 * b + 0) < 10 from by first | omega | ((try (have i_t6 := Imp.go t6 (by omega))); (try (have i_tx := Imp.go tx (by omega))); (try (have i_cd := Imp.go cd (by omega))); (try (have i_cd := Imp.go cd (by omega))); (try (have i_tx := Imp.go tx (by omega))); (try (have i_t6 := Imp.go t6 (by omega))); omega))) w897 w898 w899 w168 w900 rfl (xgNames il2) hdV_yX6_add ⟨Nat.le_of_ble_eq_true rfl, Nat.le_of_ble_eq_true rfl⟩ rfl hl.1 rfl (Nat.le_of_ble_eq_true rfl) dX1_readType_93 ⟨Nat.le_of_ble_eq_true rfl, Nat.le_of_ble_eq_true rfl⟩) hP hD hK hS hA (fun z97 u98 H locs w99 hP hD hK hS => ?_)
            obtain ⟨V103, L104⟩ := u98
            obtain ⟨hMV103, ajV103, axL104, fyV103, rgz97, t100, t101, t102⟩ := w99
            have alL104 : agL [1, 6, 44] L L104 := agL.tr alL93 axL104 (by decide)
            have hP : va_P D vwCl (xw ad kk V103 L104 Z) H := hP
            have hD : va_D A (xw ad kk V103 L104 Z) := hD
            have hMV103 : rgd bX V103 := hMV103
            have ajV103 : agr [] [43, 44] V92 V103 := ajV103
            have agV103 : agr [(1, 3), (1, 6), (1, 7), (6, 8), (6, 9), (6, 10)] [43, 44, 45] V V103 := agV92.tr ajV103 (by decide) (by decide)
            have fwV103 : frX (xR b) V V103 := frX.tr fwV92 (frX_NB fyV103 (by first | omega | ((try (have i_t6 := Imp.go t6 (by omega))); (try (have i_tx := Imp.go tx (by omega))); (try (have i_cd := Imp.go cd (by omega))); (try (have i_cd := Imp.go cd (by omega))); (try (have i_tx := Imp.go tx (by omega))); (try (have i_t6 := Imp.go t6 (by omega))); omega)) (by first | omega | ((try (have i_t6 := Imp.go t6 (by omega))); (try (have i_tx := Imp.go tx (by omega))); (try (have i_cd := Imp.go cd (by omega))); (try (have i_cd := Imp.go cd (by omega))); (try (have i_tx := Imp.go tx (by omega))); (try (have i_t6 := Imp.go t6 (by omega))); omega)))
            have rgz97 : (-1) ≤ z97.toInt ∧ z97.toInt ≤ 23 := rgz97
            have t100 : z97.toInt < (V103 43 (5 * b + 0)).toInt := t100
            have t101 : Imp ((V92 43 (5 * b + 0)).toInt < ((xcap (5 * b + 0) : Nat) : Int)) (z97.toInt = (V92 43 (5 * b + 0)).toInt ∧ (V103 43 (5 * b + 0)).toInt = (V92 43 (5 * b + 0)).toInt + 1) := t101
            have t102 : (∀ n : Nat, ¬ n = (5 * b + 0) → V103 43 n = V92 43 n) := t102
            refine lv_istore_n (lv' := [(3, .int z97), (1, .long w22), (0, .ref (ad 1))]) hx hb dX1_readType_96 rfl hl (by decide) rfl (fun ls hl => ?_)
            refine lv_iload_n hx hb dX1_readType_97 rfl (lv_at hl 0 rfl) ?_
            refine lv_iconst (v := (-1)) hx hb dX1_readType_98 (by decide) ?_
            refine lv_icmp_eq (tgt := 119) hx hb dX1_readType_99 (by decide) (fun c105 => ?_) (fun c105 => ?_)
            · skip
              have f106 : z97.toInt = (-1) := b_eq rfl (by decide) c105
              refine lv_iconst (v := 1) hx hb dX1_readType_119 (by decide) ?_
              have px107 : px V V92 b := px.tr (px.rf : px V V b) (px.ag (show agr [(1, 3), (1, 6), (1, 7), (6, 8), (6, 9), (6, 10)] [] V V92 from (agr.tr (agr.tr (agr.tr (agr.up (agr.tr (agr.tr agr.rf ajV12 (by decide) (by decide)) ajV18 (by decide) (by decide)) hV23 rfl) ajV78 (by decide) (by decide)) ajV84 (by decide) (by decide)) ajV92 (by decide) (by decide))) (fun _ => rfl) (fun _ => rfl) (fun _ => rfl))
              have px108 : px V V103 b := px.tr px107 ⟨p0x.ag ajV103 (fun _ => rfl) (fun _ => rfl), t102 _ (by omega)⟩
              have tx109 : TX V103 b := TX.ag tx (show agr [(1, 3), (1, 6), (1, 7), (6, 8), (6, 9), (6, 10)] [43, 44] V V103 from (agr.tr (agr.tr (agr.tr (agr.tr (agr.up (agr.tr (agr.tr agr.rf ajV12 (by decide) (by decide)) ajV18 (by decide) (by decide)) hV23 rfl) ajV78 (by decide) (by decide)) ajV84 (by decide) (by decide)) ajV92 (by decide) (by decide)) ajV103 (by decide) (by decide))) px108 (fun _ => rfl) (fun _ => rfl) (fun _ => rfl) (fun _ => rfl) (fun _ => rfl) (fun _ => rfl)
              have cd110 : CD V103 b := ⟨CB.ag cd.1 (show agr [(1, 3), (1, 6), (1, 7), (6, 8), (6, 9), (6, 10)] [43, 44] V V103 from (agr.tr (agr.tr (agr.tr (agr.tr (agr.up (agr.tr (agr.tr agr.rf ajV12 (by decide) (by decide)) ajV18 (by decide) (by decide)) hV23 rfl) ajV78 (by decide) (by decide)) ajV84 (by decide) (by decide)) ajV92 (by decide) (by decide)) ajV103 (by decide) (by decide))) (fun _ => rfl) (fun _ => rfl), CO.ag cd.2 (show agr [(1, 3), (1, 6), (1, 7), (6, 8), (6, 9), (6, 10)] [43, 44] V V103 from (agr.tr (agr.tr (agr.tr (agr.tr (agr.up (agr.tr (agr.tr agr.rf ajV12 (by decide) (by decide)) ajV18 (by decide) (by decide)) hV23 rfl) ajV78 (by decide) (by decide)) ajV84 (by decide) (by decide)) ajV92 (by decide) (by decide)) ajV103 (by decide) (by decide))) (fun _ => rfl) (fun _ => rfl)⟩
              have px111 : px V V92 b := px.tr (px.rf : px V V b) (px.ag (show agr [(1, 3), (1, 6), (1, 7), (6, 8), (6, 9), (6, 10)] [] V V92 from (agr.tr (agr.tr (agr.tr (agr.up (agr.tr (agr.tr agr.rf ajV12 (by decide) (by decide)) ajV18 (by decide) (by decide)) hV23 rfl) ajV78 (by decide) (by decide)) ajV84 (by decide) (by decide)) ajV92 (by decide) (by decide))) (fun _ => rfl) (fun _ => rfl) (fun _ => rfl))
              have px112 : px V V103 b := px.tr px111 ⟨p0x.ag ajV103 (fun _ => rfl) (fun _ => rfl), t102 _ (by omega)⟩
              exact W.zret (v := 1) hx hb hr rfl (fun t ht hW => ⟨⟨1, (V103, L104), rfl, ⟨hMV103, agV103, alL104, fwV103, (by decide), tx109, cd110, px112⟩, by rw [ht]; exact hP, va_K.moved hW.alike hK, hD⟩, hS.F ht⟩) hS.2.2 dX1_readType_120
            · skip
              have f113 : z97.toInt ≠ (-1) := b_neq rfl (by decide) c105
              refine lv_aload_n hx hb dX1_readType_102 rfl (lv_at hl 2 rfl) ?_
              refine va_get (D := D) (ci := 1) (v := rfN ad 38 (V103 1 1)) (fs := (xfReader ad V103 L104 Z)) (C := RX1) (T := TX1) (N := 9) hx hb hg inX1 hown hK hP 1 xgReader rfl 1 (by decide) (hg _ w305) (fun _ h9 => h9) rfl dX1_readType_103 ?_
              have pq114 : (V103 1 1).toInt = ((V 1 1)).toInt := congrArg Int32.toInt ((ajV103 1 1 rfl).trans ((ajV92 1 1 rfl).trans ((ajV84 1 1 rfl).trans ((ajV78 1 1 rfl).trans ((up2_k hV23 (by decide)).trans ((ajV18 1 1 rfl).trans (ajV12 1 1 rfl)))))))
              refine g_topv (v := .ref (ad (38 + b))) (rfN_r (by first | omega | ((try (have i_t101 := Imp.go t101 (by omega))); (try (have i_t6 := Imp.go t6 (by omega))); (try (have i_tx := Imp.go tx (by omega))); (try (have i_cd := Imp.go cd (by omega))); (try (have i_cd := Imp.go cd (by omega))); (try (have i_tx := Imp.go tx (by omega))); (try (have i_t6 := Imp.go t6 (by omega))); (try (have i_t101 := Imp.go t101 (by omega))); omega))) ?_
              refine va_getN (D := D) (ci := 0) (v := .ref (ad (60 + b))) (fs := (xfBook ad V103 b)) (C := RX0) (T := TX0) (N := 13) hx hb hg inX0 hown hK hP (38 + b) (xgBook hb2) rfl 5 (by decide) (hnw.use 609 n609 rfl) (fun _ h9 => h9) rfl dX1_readType_106 ?_
              refine lv_iload_n hx hb dX1_readType_109 rfl (lv_at hl 0 rfl) ?_
              refine lv_aload_n hx hb dX1_readType_110 rfl (lv_at hl 2 rfl) ?_
              refine va_get (D := D) (ci := 1) (v := .int (V103 1 7)) (fs := (xfReader ad V103 L104 Z)) (C := RX1) (T := TX1) (N := 9) hx hb hg inX1 hown hK hP 1 xgReader rfl 7 (by decide) (hg _ w311) (fun _ h9 => h9) rfl dX1_readType_111 ?_
              refine g_top (v := (V84 1 7)) ((ajV103 1 7 rfl).trans (ajV92 1 7 rfl)) ?_
              refine lv_iconst (v := 1) hx hb dX1_readType_114 (by decide) ?_
              refine lv_iload_n hx hb dX1_readType_115 rfl (lv_at hl 0 rfl) ?_
              refine lv_ishl hx hb dX1_readType_116 ?_
              refine lv_topi (fun z115 ez115 => ?_)
              refine lv_ior hx hb dX1_readType_117 ?_
              refine lv_topi (fun z116 ez116 => ?_)
              have il117 : b < 2 := by first | omega | ((try (have i_t101 := Imp.go t101 (by omega))); (try (have i_t6 := Imp.go t6 (by omega))); (try (have i_tx := Imp.go tx (by omega))); (try (have i_cd := Imp.go cd (by omega))); (try (have i_cd := Imp.go cd (by omega))); (try (have i_tx := Imp.go tx (by omega))); (try (have i_t6 := Imp.go t6 (by omega))); (try (have i_t101 := Imp.go t101 (by omega))); omega)
              refine va_iast (D := D) (i := z97) (x := z116) hx hb hK hP hD hS (60 + b) (53 + b) (xgtypeUnder il117) (xttypeUnder il117) (i_in (a := z97.toInt) rfl (by first | omega | ((try (have i_t101 := Imp.go t101 (by omega))); (try (have i_t6 := Imp.go t6 (by omega))); (try (have i_tx := Imp.go tx (by omega))); (try (have i_cd := Imp.go cd (by omega))); (try (have i_cd := Imp.go cd (by omega))); (try (have i_tx := Imp.go tx (by omega))); (try (have i_t6 := Imp.go t6 (by omega))); (try (have i_t101 := Imp.go t101 (by omega))); omega))) dX1_readType_118 (fun H locs hP hD hS => ?_)
              have kc118 := i_clamp (x := z97) rfl (by first | omega | ((try (have i_t101 := Imp.go t101 (by omega))); (try (have i_t6 := Imp.go t6 (by omega))); (try (have i_tx := Imp.go tx (by omega))); (try (have i_cd := Imp.go cd (by omega))); (try (have i_cd := Imp.go cd (by omega))); (try (have i_tx := Imp.go tx (by omega))); (try (have i_t6 := Imp.go t6 (by omega))); (try (have i_t101 := Imp.go t101 (by omega))); omega))
              have kl119 : (Int32.toNatClampNeg z97) < 24 := by first | omega | ((try (have i_t101 := Imp.go t101 (by omega))); (try (have i_t6 := Imp.go t6 (by omega))); (try (have i_tx := Imp.go tx (by omega))); (try (have i_cd := Imp.go cd (by omega))); (try (have i_cd := Imp.go cd (by omega))); (try (have i_tx := Imp.go tx (by omega))); (try (have i_t6 := Imp.go t6 (by omega))); (try (have i_t101 := Imp.go t101 (by omega))); omega)
              obtain ⟨V120, hV120⟩ : ∃ z, z = up2 V103 45 (24 * b + (Int32.toNatClampNeg z97)) z116 := ⟨_, rfl⟩
              have ew121 : (xw ad kk V103 L104 Z).set (60 + b) ((ad (60 + b)), .inl ((kk (60 + b)), 24, .inl (upd (fun q => if q < 24 then V103 45 (24 * b + q) else 0) (Int32.toNatClampNeg z97) z116))) = xw ad kk V120 L104 Z := by rw [hV120]; exact xptypeUnder il117 kl119
              have hP : va_P D vwCl (xw ad kk V120 L104 Z) H := by rw [← ew121]; exact hP
              have hD : va_D A (xw ad kk V120 L104 Z) := by rw [← ew121]; exact hD
              have hMV120 : rgd bX V120 := hMV103.put hV120 (i_full _)
              have agV120 : agr [(1, 3), (1, 6), (1, 7), (6, 8), (6, 9), (6, 10)] [43, 44, 45] V V120 := agV103.up hV120 rfl
              have fwV120 : frX (xR b) V V120 := frX.up fwV103 hV120 (Or.inr ⟨(by show 24 * b ≤ (24 * b + (Int32.toNatClampNeg z97)); first | omega | ((try (have i_t101 := Imp.go t101 (by omega))); (try (have i_t6 := Imp.go t6 (by omega))); (try (have i_tx := Imp.go tx (by omega))); (try (have i_cd := Imp.go cd (by omega))); (try (have i_cd := Imp.go cd (by omega))); (try (have i_tx := Imp.go tx (by omega))); (try (have i_t6 := Imp.go t6 (by omega))); (try (have i_t101 := Imp.go t101 (by omega))); omega)), (by show (24 * b + (Int32.toNatClampNeg z97)) < 24 * b + 24; first | omega | ((try (have i_t101 := Imp.go t101 (by omega))); (try (have i_t6 := Imp.go t6 (by omega))); (try (have i_tx := Imp.go tx (by omega))); (try (have i_cd := Imp.go cd (by omega))); (try (have i_cd := Imp.go cd (by omega))); (try (have i_tx := Imp.go tx (by omega))); (try (have i_t6 := Imp.go t6 (by omega))); (try (have i_t101 := Imp.go t101 (by omega))); omega))⟩)
              refine lv_iconst (v := 1) hx hb dX1_readType_119 (by decide) ?_
              have px122 : px V V92 b := px.tr (px.rf : px V V b) (px.ag (show agr [(1, 3), (1, 6), (1, 7), (6, 8), (6, 9), (6, 10)] [] V V92 from (agr.tr (agr.tr (agr.tr (agr.up (agr.tr (agr.tr agr.rf ajV12 (by decide) (by decide)) ajV18 (by decide) (by decide)) hV23 rfl) ajV78 (by decide) (by decide)) ajV84 (by decide) (by decide)) ajV92 (by decide) (by decide))) (fun _ => rfl) (fun _ => rfl) (fun _ => rfl))
              have px123 : px V V103 b := px.tr px122 ⟨p0x.ag ajV103 (fun _ => rfl) (fun _ => rfl), t102 _ (by omega)⟩
              have px124 : px V V120 b := px.tr px123 (px.ag (show agr [] [45] V103 V120 from (agr.up agr.rf hV120 rfl)) (fun _ => rfl) (fun _ => rfl) (fun _ => rfl))
              have tx125 : TX V120 b := TX.ag tx (show agr [(1, 3), (1, 6), (1, 7), (6, 8), (6, 9), (6, 10)] [43, 44, 45] V V120 from (agr.up (agr.tr (agr.tr (agr.tr (agr.tr (agr.up (agr.tr (agr.tr agr.rf ajV12 (by decide) (by decide)) ajV18 (by decide) (by decide)) hV23 rfl) ajV78 (by decide) (by decide)) ajV84 (by decide) (by decide)) ajV92 (by decide) (by decide)) ajV103 (by decide) (by decide)) hV120 rfl)) px124 (fun _ => rfl) (fun _ => rfl) (fun _ => rfl) (fun _ => rfl) (fun _ => rfl) (fun _ => rfl)
              have cd126 : CD V120 b := ⟨CB.ag cd.1 (show agr [(1, 3), (1, 6), (1, 7), (6, 8), (6, 9), (6, 10)] [43, 44, 45] V V120 from (agr.up (agr.tr (agr.tr (agr.tr (agr.tr (agr.up (agr.tr (agr.tr agr.rf ajV12 (by decide) (by decide)) ajV18 (by decide) (by decide)) hV23 rfl) ajV78 (by decide) (by decide)) ajV84 (by decide) (by decide)) ajV92 (by decide) (by decide)) ajV103 (by decide) (by decide)) hV120 rfl)) (fun _ => rfl) (fun _ => rfl), CO.ag cd.2 (show agr [(1, 3), (1, 6), (1, 7), (6, 8), (6, 9), (6, 10)] [43, 44, 45] V V120 from (agr.up (agr.tr (agr.tr (agr.tr (agr.tr (agr.up (agr.tr (agr.tr agr.rf ajV12 (by decide) (by decide)) ajV18 (by decide) (by decide)) hV23 rfl) ajV78 (by decide) (by decide)) ajV84 (by decide) (by decide)) ajV92 (by decide) (by decide)) ajV103 (by decide) (by decide)) hV120 rfl)) (fun _ => rfl) (fun _ => rfl)⟩
              have px127 : px V V92 b := px.tr (px.rf : px V V b) (px.ag (show agr [(1, 3), (1, 6), (1, 7), (6, 8), (6, 9), (6, 10)] [] V V92 from (agr.tr (agr.tr (agr.tr (agr.up (agr.tr (agr.tr agr.rf ajV12 (by decide) (by decide)) ajV18 (by decide) (by decide)) hV23 rfl) ajV78 (by decide) (by decide)) ajV84 (by decide) (by decide)) ajV92 (by decide) (by decide))) (fun _ => rfl) (fun _ => rfl) (fun _ => rfl))
              have px128 : px V V103 b := px.tr px127 ⟨p0x.ag ajV103 (fun _ => rfl) (fun _ => rfl), t102 _ (by omega)⟩
              have px129 : px V V120 b := px.tr px128 (px.ag (show agr [] [45] V103 V120 from (agr.up agr.rf hV120 rfl)) (fun _ => rfl) (fun _ => rfl) (fun _ => rfl))
              exact W.zret (v := 1) hx hb hr rfl (fun t ht hW => ⟨⟨1, (V120, L104), rfl, ⟨hMV120, agV120, alL104, fwV120, (by decide), tx125, cd126, px129⟩, by rw [ht]; exact hP, va_K.moved hW.alike hK, hD⟩, hS.F ht⟩) hS.2.2 dX1_readType_120
          · skip
            have f130 : z89.toInt = 0 := b_eq rfl (by decide) c94
            refine lv_iconst (v := 0) hx hb dX1_readType_83 (by decide) ?_
            have px131 : px V V92 b := px.tr (px.rf : px V V b) (px.ag (show agr [(1, 3), (1, 6), (1, 7), (6, 8), (6, 9), (6, 10)] [] V V92 from (agr.tr (agr.tr (agr.tr (agr.up (agr.tr (agr.tr agr.rf ajV12 (by decide) (by decide)) ajV18 (by decide) (by decide)) hV23 rfl) ajV78 (by decide) (by decide)) ajV84 (by decide) (by decide)) ajV92 (by decide) (by decide))) (fun _ => rfl) (fun _ => rfl) (fun _ => rfl))
            have tx132 : TX V92 b := TX.ag tx (show agr [(1, 3), (1, 6), (1, 7), (6, 8), (6, 9), (6, 10)] [] V V92 from (agr.tr (agr.tr (agr.tr (agr.up (agr.tr (agr.tr agr.rf ajV12 (by decide) (by decide)) ajV18 (by decide) (by decide)) hV23 rfl) ajV78 (by decide) (by decide)) ajV84 (by decide) (by decide)) ajV92 (by decide) (by decide))) px131 (fun _ => rfl) (fun _ => rfl) (fun _ => rfl) (fun _ => rfl) (fun _ => rfl) (fun _ => rfl)
            have cd133 : CD V92 b := ⟨CB.ag cd.1 (show agr [(1, 3), (1, 6), (1, 7), (6, 8), (6, 9), (6, 10)] [] V V92 from (agr.tr (agr.tr (agr.tr (agr.up (agr.tr (agr.tr agr.rf ajV12 (by decide) (by decide)) ajV18 (by decide) (by decide)) hV23 rfl) ajV78 (by decide) (by decide)) ajV84 (by decide) (by decide)) ajV92 (by decide) (by decide))) (fun _ => rfl) (fun _ => rfl), CO.ag cd.2 (show agr [(1, 3), (1, 6), (1, 7), (6, 8), (6, 9), (6, 10)] [] V V92 from (agr.tr (agr.tr (agr.tr (agr.up (agr.tr (agr.tr agr.rf ajV12 (by decide) (by decide)) ajV18 (by decide) (by decide)) hV23 rfl) ajV78 (by decide) (by decide)) ajV84 (by decide) (by decide)) ajV92 (by decide) (by decide))) (fun _ => rfl) (fun _ => rfl)⟩
            have px134 : px V V92 b := px.tr (px.rf : px V V b) (px.ag (show agr [(1, 3), (1, 6), (1, 7), (6, 8), (6, 9), (6, 10)] [] V V92 from (agr.tr (agr.tr (agr.tr (agr.up (agr.tr (agr.tr agr.rf ajV12 (by decide) (by decide)) ajV18 (by decide) (by decide)) hV23 rfl) ajV78 (by decide) (by decide)) ajV84 (by decide) (by decide)) ajV92 (by decide) (by decide))) (fun _ => rfl) (fun _ => rfl) (fun _ => rfl))
            exact W.zret (v := 0) hx hb hr rfl (fun t ht hW => ⟨⟨0, (V92, L93), rfl, ⟨hMV92, agV92, alL93, fwV92, (by decide), tx132, cd133, px134⟩, by rw [ht]; exact hP, va_K.moved hW.alike hK, hD⟩, hS.F ht⟩) hS.2.2 dX1_readType_84
        · skip
          have f135 : z81.toInt = 0 := b_eq rfl (by decide) c86
          refine lv_iconst (v := 0) hx hb dX1_readType_72 (by decide) ?_
          have px136 : px V V84 b := px.tr (px.rf : px V V b) (px.ag (show agr [(1, 3), (1, 6), (1, 7), (6, 8), (6, 9), (6, 10)] [] V V84 from (agr.tr (agr.tr (agr.up (agr.tr (agr.tr agr.rf ajV12 (by decide) (by decide)) ajV18 (by decide) (by decide)) hV23 rfl) ajV78 (by decide) (by decide)) ajV84 (by decide) (by decide))) (fun _ => rfl) (fun _ => rfl) (fun _ => rfl))
          have tx137 : TX V84 b := TX.ag tx (show agr [(1, 3), (1, 6), (1, 7), (6, 8), (6, 9), (6, 10)] [] V V84 from (agr.tr (agr.tr (agr.up (agr.tr (agr.tr agr.rf ajV12 (by decide) (by decide)) ajV18 (by decide) (by decide)) hV23 rfl) ajV78 (by decide) (by decide)) ajV84 (by decide) (by decide))) px136 (fun _ => rfl) (fun _ => rfl) (fun _ => rfl) (fun _ => rfl) (fun _ => rfl) (fun _ => rfl)
          have cd138 : CD V84 b := ⟨CB.ag cd.1 (show agr [(1, 3), (1, 6), (1, 7), (6, 8), (6, 9), (6, 10)] [] V V84 from (agr.tr (agr.tr (agr.up (agr.tr (agr.tr agr.rf ajV12 (by decide) (by decide)) ajV18 (by decide) (by decide)) hV23 rfl) ajV78 (by decide) (by decide)) ajV84 (by decide) (by decide))) (fun _ => rfl) (fun _ => rfl), CO.ag cd.2 (show agr [(1, 3), (1, 6), (1, 7), (6, 8), (6, 9), (6, 10)] [] V V84 from (agr.tr (agr.tr (agr.up (agr.tr (agr.tr agr.rf ajV12 (by decide) (by decide)) ajV18 (by decide) (by decide)) hV23 rfl) ajV78 (by decide) (by decide)) ajV84 (by decide) (by decide))) (fun _ => rfl) (fun _ => rfl)⟩
          have px139 : px V V84 b := px.tr (px.rf : px V V b) (px.ag (show agr [(1, 3), (1, 6), (1, 7), (6, 8), (6, 9), (6, 10)] [] V V84 from (agr.tr (agr.tr (agr.up (agr.tr (agr.tr agr.rf ajV12 (by decide) (by decide)) ajV18 (by decide) (by decide)) hV23 rfl) ajV78 (by decide) (by decide)) ajV84 (by decide) (by decide))) (fun _ => rfl) (fun _ => rfl) (fun _ => rfl))
          exact W.zret (v := 0) hx hb hr rfl (fun t ht hW => ⟨⟨0, (V84, L85), rfl, ⟨hMV84, agV84, alL85, fwV84, (by decide), tx137, cd138, px139⟩, by rw [ht]; exact hP, va_K.moved hW.alike hK, hD⟩, hS.F ht⟩) hS.2.2 dX1_readType_73
    · skip
      have f140 : z15.toInt = 0 := b_eq rfl (by decide) c20
      refine lv_iconst (v := 0) hx hb dX1_readType_33 (by decide) ?_
      have px141 : px V V18 b := px.tr (px.rf : px V V b) (px.ag (show agr [(1, 3), (6, 8), (6, 9), (6, 10)] [] V V18 from (agr.tr (agr.tr agr.rf ajV12 (by decide) (by decide)) ajV18 (by decide) (by decide))) (fun _ => rfl) (fun _ => rfl) (fun _ => rfl))
      have tx142 : TX V18 b := TX.ag tx (show agr [(1, 3), (6, 8), (6, 9), (6, 10)] [] V V18 from (agr.tr (agr.tr agr.rf ajV12 (by decide) (by decide)) ajV18 (by decide) (by decide))) px141 (fun _ => rfl) (fun _ => rfl) (fun _ => rfl) (fun _ => rfl) (fun _ => rfl) (fun _ => rfl)
      have cd143 : CD V18 b := ⟨CB.ag cd.1 (show agr [(1, 3), (6, 8), (6, 9), (6, 10)] [] V V18 from (agr.tr (agr.tr agr.rf ajV12 (by decide) (by decide)) ajV18 (by decide) (by decide))) (fun _ => rfl) (fun _ => rfl), CO.ag cd.2 (show agr [(1, 3), (6, 8), (6, 9), (6, 10)] [] V V18 from (agr.tr (agr.tr agr.rf ajV12 (by decide) (by decide)) ajV18 (by decide) (by decide))) (fun _ => rfl) (fun _ => rfl)⟩
      have px144 : px V V18 b := px.tr (px.rf : px V V b) (px.ag (show agr [(1, 3), (6, 8), (6, 9), (6, 10)] [] V V18 from (agr.tr (agr.tr agr.rf ajV12 (by decide) (by decide)) ajV18 (by decide) (by decide))) (fun _ => rfl) (fun _ => rfl) (fun _ => rfl))
      exact W.zret (v := 0) hx hb hr rfl (fun t ht hW => ⟨⟨0, (V18, L19), rfl, ⟨hMV18, agV18, alL19, fwV18, (by decide), tx142, cd143, px144⟩, by rw [ht]; exact hP, va_K.moved hW.alike hK, hD⟩, hS.F ht⟩) hS.2.2 dX1_readType_34
  · skip
    have f145 : z3.toInt ≠ 0 := b_neq rfl (by decide) c7
    refine lv_aload_n hx hb dX1_readType_13 rfl (lv_at hl 0 rfl) ?_
    refine lv_iconst (v := 5) hx hb dX1_readType_14 (by decide) ?_
    have r146 : Int32.toInt 5 = 5 := by decide
    refine gA_int (gA_runV (As := [.int 5]) (rest := []) (ci := 1) (q0 := 1) hx hb hml hown hg hP hD hK hS hA hnw hgk (x_wrong l D ks H.size ad kk V L Z 5 hMV ) w867 w869 w6 w162 w870 rfl xgReader hdV_yX1_wrong ⟨Nat.le_of_ble_eq_true rfl, Nat.le_of_ble_eq_true rfl⟩ rfl hl.1 rfl (Nat.le_of_ble_eq_true rfl) dX1_readType_15 ⟨Nat.le_of_ble_eq_true rfl, Nat.le_of_ble_eq_true rfl⟩) hP hD hK hS hA (fun z147 u148 H locs w149 hP hD hK hS => ?_)
    obtain ⟨V150, L151⟩ := u148
    obtain ⟨hMV150, ajV150, axL151, rgz147⟩ := w149
    have axL151 : L = L151 := Eq.symm axL151
    subst axL151
    have hP : va_P D vwCl (xw ad kk V150 L Z) H := hP
    have hD : va_D A (xw ad kk V150 L Z) := hD
    have hMV150 : rgd bX V150 := hMV150
    have ajV150 : agr [(1, 3)] [] V V150 := ajV150
    have agV150 : agr [(1, 3), (1, 6), (1, 7), (6, 8), (6, 9), (6, 10)] [43, 44, 45] V V150 := agV.tr ajV150 (by decide) (by decide)
    have fwV150 : frX (xR b) V V150 := frX.tr fwV (frX.ag ajV150 (by decide) (by decide))
    have rgz147 : 0 ≤ z147.toInt ∧ z147.toInt ≤ 0 := rgz147
    have px152 : px V V150 b := px.tr (px.rf : px V V b) (px.ag (show agr [(1, 3)] [] V V150 from (agr.tr agr.rf ajV150 (by decide) (by decide))) (fun _ => rfl) (fun _ => rfl) (fun _ => rfl))
    have tx153 : TX V150 b := TX.ag tx (show agr [(1, 3)] [] V V150 from (agr.tr agr.rf ajV150 (by decide) (by decide))) px152 (fun _ => rfl) (fun _ => rfl) (fun _ => rfl) (fun _ => rfl) (fun _ => rfl) (fun _ => rfl)
    have cd154 : CD V150 b := ⟨CB.ag cd.1 (show agr [(1, 3)] [] V V150 from (agr.tr agr.rf ajV150 (by decide) (by decide))) (fun _ => rfl) (fun _ => rfl), CO.ag cd.2 (show agr [(1, 3)] [] V V150 from (agr.tr agr.rf ajV150 (by decide) (by decide))) (fun _ => rfl) (fun _ => rfl)⟩
    have px155 : px V V150 b := px.tr (px.rf : px V V b) (px.ag (show agr [(1, 3)] [] V V150 from (agr.tr agr.rf ajV150 (by decide) (by decide))) (fun _ => rfl) (fun _ => rfl) (fun _ => rfl))
    exact W.zret (v := z147) hx hb hr (nb_ok (by omega)) (fun t ht hW => ⟨⟨z147, (V150, L), rfl, ⟨hMV150, agV150, alL, fwV150, (show 0 ≤ z147.toInt ∧ z147.toInt ≤ 1 from by first | omega | ((try (have i_t6 := Imp.go t6 (by omega))); (try (have i_tx := Imp.go tx (by omega))); (try (have i_cd := Imp.go cd (by omega))); (try (have i_cd := Imp.go cd (by omega))); (try (have i_tx := Imp.go tx (by omega))); (try (have i_t6 := Imp.go t6 (by omega))); omega)), tx153, cd154, px155⟩, by rw [ht]; exact hP, va_K.moved hW.alike hK, hD⟩, hS.F ht⟩) hS.2.2 dX1_readType_18
