theorem w1760 : Cond.fieldLink RX12 408 "WiringHouseModel" "isReady" "Z" ∈ GW := gw_mem 1760 (by decide +kernel) rfl
theorem w1761 : Cond.fieldLink RX12 244 "WiringHouseModel" "scopes" "I" ∈ GW := gw_mem 1761 (by decide +kernel) rfl
theorem w1762 : Cond.fieldLink RX12 152 "WiringHouseModel" "isOpen" "[Z" ∈ GW := gw_mem 1762 (by decide +kernel) rfl
theorem w1763 : Cond.fieldLink RX12 155 "WiringHouseModel" "scopeKind" "[I" ∈ GW := gw_mem 1763 (by decide +kernel) rfl
theorem w1765 : Cond.fieldLink RX12 161 "WiringHouseModel" "spoilt" "[Z" ∈ GW := gw_mem 1765 (by decide +kernel) rfl
theorem w1766 : Cond.fieldLink RX12 411 "WiringHouseModel" "objects" "I" ∈ GW := gw_mem 1766 (by decide +kernel) rfl
theorem w1771 : Cond.fieldLink RX12 414 "WiringHouseModel" "makings" "I" ∈ GW := gw_mem 1771 (by decide +kernel) rfl
theorem w1779 : Cond.fieldLink RX12 417 "WiringHouseModel" "closeds" "I" ∈ GW := gw_mem 1779 (by decide +kernel) rfl
theorem w1782 : Cond.fieldLink RX12 420 "WiringHouseModel" "dids" "I" ∈ GW := gw_mem 1782 (by decide +kernel) rfl
theorem w1787 : Cond.fieldLink RX12 435 "WiringHouseModel" "faults" "I" ∈ GW := gw_mem 1787 (by decide +kernel) rfl
theorem w1717 : Cond.fieldLink RX12 286 "WiringHouseModel" "now" "I" ∈ GW := gw_mem 1717 (by decide +kernel) rfl
theorem w1731 : Cond.fieldLink RX12 80 "WiringHouseModel" "whenOf" "[I" ∈ GW := gw_mem 1731 (by decide +kernel) rfl
theorem w1732 : Cond.fieldLink RX12 83 "WiringHouseModel" "whenIs" "[I" ∈ GW := gw_mem 1732 (by decide +kernel) rfl
theorem w1728 : Cond.fieldLink RX12 71 "WiringHouseModel" "scopeOf" "[I" ∈ GW := gw_mem 1728 (by decide +kernel) rfl
theorem w1764 : Cond.fieldLink RX12 158 "WiringHouseModel" "dayOf" "[I" ∈ GW := gw_mem 1764 (by decide +kernel) rfl
theorem w1767 : Cond.fieldLink RX12 164 "WiringHouseModel" "objectOf" "[I" ∈ GW := gw_mem 1767 (by decide +kernel) rfl
theorem w1768 : Cond.fieldLink RX12 167 "WiringHouseModel" "objectIn" "[I" ∈ GW := gw_mem 1768 (by decide +kernel) rfl
theorem w1769 : Cond.fieldLink RX12 170 "WiringHouseModel" "state" "[I" ∈ GW := gw_mem 1769 (by decide +kernel) rfl
theorem w1770 : Cond.fieldLink RX12 173 "WiringHouseModel" "madeAt" "[I" ∈ GW := gw_mem 1770 (by decide +kernel) rfl
theorem w2218 : Cond.code yX12_scope cX12_scope 4 (some .int) ∈ GW := gw_mem 2218 (by decide +kernel) rfl
theorem w2215 : Cond.methodLink RX12 571 yX12_scope ∈ GW := gw_mem 2215 (by decide +kernel) rfl
theorem w2217 : Cond.instanceMethod yX12_scope ∈ GW := gw_mem 2217 (by decide +kernel) rfl
theorem w125 : Cond.selects RX12 yX12_scope yX12_scope ∈ GW := gw_mem 125 (by decide +kernel) rfl
theorem hdV_yX12_scope : yX12_scope.cls = RX12 ∧ yX12_scope.cls ≠ "java/lang/invoke/MethodHandle" ∧ yX12_scope.cls ≠ "java/lang/invoke/VarHandle" ∧ (parseMethodDescriptor yX12_scope.desc).map (fun d => d.parameters.length) = some 2 := by decide +kernel
theorem w2226 : Cond.code yX12_isScope cX12_isScope 2 (some .boolean) ∈ GW := gw_mem 2226 (by decide +kernel) rfl
theorem w2223 : Cond.methodLink RX12 574 yX12_isScope ∈ GW := gw_mem 2223 (by decide +kernel) rfl
theorem w2225 : Cond.instanceMethod yX12_isScope ∈ GW := gw_mem 2225 (by decide +kernel) rfl
theorem w126 : Cond.selects RX12 yX12_isScope yX12_isScope ∈ GW := gw_mem 126 (by decide +kernel) rfl
theorem hdV_yX12_isScope : yX12_isScope.cls = RX12 ∧ yX12_isScope.cls ≠ "java/lang/invoke/MethodHandle" ∧ yX12_isScope.cls ≠ "java/lang/invoke/VarHandle" ∧ (parseMethodDescriptor yX12_isScope.desc).map (fun d => d.parameters.length) = some 1 := by decide +kernel
theorem w1799 : Cond.fieldLink RX12 520 "WiringHouseModel" "within" "I" ∈ GW := gw_mem 1799 (by decide +kernel) rfl
theorem w1804 : Cond.fieldLink RX12 548 "WiringHouseModel" "top" "I" ∈ GW := gw_mem 1804 (by decide +kernel) rfl
theorem w1801 : Cond.fieldLink RX12 507 "WiringHouseModel" "freshMany" "I" ∈ GW := gw_mem 1801 (by decide +kernel) rfl
theorem w1788 : Cond.fieldLink RX12 201 "WiringHouseModel" "faultKind" "[I" ∈ GW := gw_mem 1788 (by decide +kernel) rfl
theorem w1789 : Cond.fieldLink RX12 204 "WiringHouseModel" "faultOf" "[I" ∈ GW := gw_mem 1789 (by decide +kernel) rfl
theorem w1790 : Cond.fieldLink RX12 207 "WiringHouseModel" "faultNeed" "[I" ∈ GW := gw_mem 1790 (by decide +kernel) rfl
theorem w1791 : Cond.fieldLink RX12 210 "WiringHouseModel" "cycles" "[I" ∈ GW := gw_mem 1791 (by decide +kernel) rfl
theorem w1781 : Cond.fieldLink RX12 186 "WiringHouseModel" "closedKind" "[I" ∈ GW := gw_mem 1781 (by decide +kernel) rfl
theorem w1780 : Cond.fieldLink RX12 183 "WiringHouseModel" "closedWhich" "[I" ∈ GW := gw_mem 1780 (by decide +kernel) rfl
theorem w1785 : Cond.fieldLink RX12 195 "WiringHouseModel" "didArg" "[I" ∈ GW := gw_mem 1785 (by decide +kernel) rfl
theorem w1784 : Cond.fieldLink RX12 192 "WiringHouseModel" "didWhich" "[I" ∈ GW := gw_mem 1784 (by decide +kernel) rfl
theorem w1783 : Cond.fieldLink RX12 189 "WiringHouseModel" "didWhat" "[I" ∈ GW := gw_mem 1783 (by decide +kernel) rfl
theorem w2246 : Cond.code yX12_placeOf cX12_placeOf 4 (some .int) ∈ GW := gw_mem 2246 (by decide +kernel) rfl
theorem w2243 : Cond.methodLink RX12 481 yX12_placeOf ∈ GW := gw_mem 2243 (by decide +kernel) rfl
theorem w2245 : Cond.instanceMethod yX12_placeOf ∈ GW := gw_mem 2245 (by decide +kernel) rfl
theorem w130 : Cond.selects RX12 yX12_placeOf yX12_placeOf ∈ GW := gw_mem 130 (by decide +kernel) rfl
theorem hdV_yX12_placeOf : yX12_placeOf.cls = RX12 ∧ yX12_placeOf.cls ≠ "java/lang/invoke/MethodHandle" ∧ yX12_placeOf.cls ≠ "java/lang/invoke/VarHandle" ∧ (parseMethodDescriptor yX12_placeOf.desc).map (fun d => d.parameters.length) = some 2 := by decide +kernel
theorem w1729 : Cond.fieldLink RX12 74 "WiringHouseModel" "calledOf" "[I" ∈ GW := gw_mem 1729 (by decide +kernel) rfl
theorem w1733 : Cond.fieldLink RX12 86 "WiringHouseModel" "needs" "[I" ∈ GW := gw_mem 1733 (by decide +kernel) rfl
theorem w2167 : Cond.code yX12_isThere cX12_isThere 3 (some .boolean) ∈ GW := gw_mem 2167 (by decide +kernel) rfl
theorem w2164 : Cond.methodLink RX12 438 yX12_isThere ∈ GW := gw_mem 2164 (by decide +kernel) rfl
theorem w2166 : Cond.instanceMethod yX12_isThere ∈ GW := gw_mem 2166 (by decide +kernel) rfl
theorem w117 : Cond.selects RX12 yX12_isThere yX12_isThere ∈ GW := gw_mem 117 (by decide +kernel) rfl
theorem hdV_yX12_isThere : yX12_isThere.cls = RX12 ∧ yX12_isThere.cls ≠ "java/lang/invoke/MethodHandle" ∧ yX12_isThere.cls ≠ "java/lang/invoke/VarHandle" ∧ (parseMethodDescriptor yX12_isThere.desc).map (fun d => d.parameters.length) = some 1 := by decide +kernel
theorem w1730 : Cond.fieldLink RX12 77 "WiringHouseModel" "rankOf" "[I" ∈ GW := gw_mem 1730 (by decide +kernel) rfl
theorem w1741 : Cond.fieldLink RX12 110 "WiringHouseModel" "methods" "[I" ∈ GW := gw_mem 1741 (by decide +kernel) rfl
theorem w1745 : Cond.fieldLink RX12 122 "WiringHouseModel" "wraps" "[I" ∈ GW := gw_mem 1745 (by decide +kernel) rfl
theorem w1708 : Cond.fieldLink RX12 11 "WiringHouseModel" "taped" "I" ∈ GW := gw_mem 1708 (by decide +kernel) rfl
theorem dX12_forget_0 : decode cX12_forget 0 = .ok (.aload_n 0, 1) := by decide +kernel
theorem dX12_forget_1 : decode cX12_forget 1 = .ok (.iconst 0, 1) := by decide +kernel
theorem dX12_forget_2 : decode cX12_forget 2 = .ok (.putfield 408, 3) := by decide +kernel
theorem dX12_forget_5 : decode cX12_forget 5 = .ok (.aload_n 0, 1) := by decide +kernel
theorem dX12_forget_6 : decode cX12_forget 6 = .ok (.iconst 1, 1) := by decide +kernel
theorem dX12_forget_7 : decode cX12_forget 7 = .ok (.putfield 244, 3) := by decide +kernel
theorem dX12_forget_10 : decode cX12_forget 10 = .ok (.aload_n 0, 1) := by decide +kernel
theorem dX12_forget_11 : decode cX12_forget 11 = .ok (.getfield 152, 3) := by decide +kernel
theorem dX12_forget_14 : decode cX12_forget 14 = .ok (.iconst 0, 1) := by decide +kernel
theorem dX12_forget_15 : decode cX12_forget 15 = .ok (.iconst 1, 1) := by decide +kernel
theorem dX12_forget_16 : decode cX12_forget 16 = .ok (.bastore, 1) := by decide +kernel
theorem dX12_forget_17 : decode cX12_forget 17 = .ok (.aload_n 0, 1) := by decide +kernel
theorem dX12_forget_18 : decode cX12_forget 18 = .ok (.getfield 155, 3) := by decide +kernel
theorem dX12_forget_21 : decode cX12_forget 21 = .ok (.iconst 0, 1) := by decide +kernel
theorem dX12_forget_22 : decode cX12_forget 22 = .ok (.iconst 0, 1) := by decide +kernel
theorem dX12_forget_23 : decode cX12_forget 23 = .ok (.iastore, 1) := by decide +kernel
theorem dX12_forget_24 : decode cX12_forget 24 = .ok (.iconst 0, 1) := by decide +kernel
theorem dX12_forget_25 : decode cX12_forget 25 = .ok (.istore_n 1, 1) := by decide +kernel
theorem dX12_forget_26 : decode cX12_forget 26 = .ok (.iload_n 1, 1) := by decide +kernel
theorem dX12_forget_27 : decode cX12_forget 27 = .ok (.sipush 960, 3) := by decide +kernel
theorem dX12_forget_30 : decode cX12_forget 30 = .ok (.if_icmp .ge 16, 3) := by decide +kernel
theorem dX12_forget_33 : decode cX12_forget 33 = .ok (.aload_n 0, 1) := by decide +kernel
theorem dX12_forget_34 : decode cX12_forget 34 = .ok (.getfield 161, 3) := by decide +kernel
theorem dX12_forget_37 : decode cX12_forget 37 = .ok (.iload_n 1, 1) := by decide +kernel
theorem dX12_forget_38 : decode cX12_forget 38 = .ok (.iconst 0, 1) := by decide +kernel
theorem dX12_forget_39 : decode cX12_forget 39 = .ok (.bastore, 1) := by decide +kernel
theorem dX12_forget_40 : decode cX12_forget 40 = .ok (.iinc 1 1, 3) := by decide +kernel
theorem dX12_forget_43 : decode cX12_forget 43 = .ok (.goto (-17), 3) := by decide +kernel
theorem dX12_forget_46 : decode cX12_forget 46 = .ok (.aload_n 0, 1) := by decide +kernel
theorem dX12_forget_47 : decode cX12_forget 47 = .ok (.iconst 0, 1) := by decide +kernel
theorem dX12_forget_48 : decode cX12_forget 48 = .ok (.putfield 411, 3) := by decide +kernel
theorem dX12_forget_51 : decode cX12_forget 51 = .ok (.aload_n 0, 1) := by decide +kernel
theorem dX12_forget_52 : decode cX12_forget 52 = .ok (.iconst 0, 1) := by decide +kernel
theorem dX12_forget_53 : decode cX12_forget 53 = .ok (.putfield 414, 3) := by decide +kernel
theorem dX12_forget_56 : decode cX12_forget 56 = .ok (.aload_n 0, 1) := by decide +kernel
theorem dX12_forget_57 : decode cX12_forget 57 = .ok (.iconst 0, 1) := by decide +kernel
theorem dX12_forget_58 : decode cX12_forget 58 = .ok (.putfield 417, 3) := by decide +kernel
theorem dX12_forget_61 : decode cX12_forget 61 = .ok (.aload_n 0, 1) := by decide +kernel
theorem dX12_forget_62 : decode cX12_forget 62 = .ok (.iconst 0, 1) := by decide +kernel
theorem dX12_forget_63 : decode cX12_forget 63 = .ok (.putfield 420, 3) := by decide +kernel
theorem dX12_forget_66 : decode cX12_forget 66 = .ok (.aload_n 0, 1) := by decide +kernel
theorem dX12_forget_67 : decode cX12_forget 67 = .ok (.iconst 0, 1) := by decide +kernel
theorem dX12_forget_68 : decode cX12_forget 68 = .ok (.putfield 423, 3) := by decide +kernel
theorem dX12_forget_71 : decode cX12_forget 71 = .ok (.aload_n 0, 1) := by decide +kernel
theorem dX12_forget_72 : decode cX12_forget 72 = .ok (.iconst 0, 1) := by decide +kernel
theorem dX12_forget_73 : decode cX12_forget 73 = .ok (.putfield 426, 3) := by decide +kernel
theorem dX12_forget_76 : decode cX12_forget 76 = .ok (.aload_n 0, 1) := by decide +kernel
theorem dX12_forget_77 : decode cX12_forget 77 = .ok (.iconst 0, 1) := by decide +kernel
theorem dX12_forget_78 : decode cX12_forget 78 = .ok (.putfield 429, 3) := by decide +kernel
theorem dX12_forget_81 : decode cX12_forget 81 = .ok (.aload_n 0, 1) := by decide +kernel
theorem dX12_forget_82 : decode cX12_forget 82 = .ok (.iconst 0, 1) := by decide +kernel
theorem dX12_forget_83 : decode cX12_forget 83 = .ok (.putfield 432, 3) := by decide +kernel
theorem dX12_forget_86 : decode cX12_forget 86 = .ok (.aload_n 0, 1) := by decide +kernel
theorem dX12_forget_87 : decode cX12_forget 87 = .ok (.iconst 0, 1) := by decide +kernel
theorem dX12_forget_88 : decode cX12_forget 88 = .ok (.putfield 435, 3) := by decide +kernel
theorem dX12_forget_91 : decode cX12_forget 91 = .ok (.return_, 1) := by decide +kernel
theorem dX12_isThere_0 : decode cX12_isThere 0 = .ok (.bipush 24, 2) := by decide +kernel
theorem dX12_isThere_2 : decode cX12_isThere 2 = .ok (.aload_n 0, 1) := by decide +kernel
theorem dX12_isThere_3 : decode cX12_isThere 3 = .ok (.getfield 286, 3) := by decide +kernel
theorem dX12_isThere_6 : decode cX12_isThere 6 = .ok (.imul, 1) := by decide +kernel
theorem dX12_isThere_7 : decode cX12_isThere 7 = .ok (.iload_n 1, 1) := by decide +kernel
theorem dX12_isThere_8 : decode cX12_isThere 8 = .ok (.iadd, 1) := by decide +kernel
theorem dX12_isThere_9 : decode cX12_isThere 9 = .ok (.istore_n 2, 1) := by decide +kernel
theorem dX12_isThere_10 : decode cX12_isThere 10 = .ok (.iload_n 1, 1) := by decide +kernel
theorem dX12_isThere_11 : decode cX12_isThere 11 = .ok (.ifCond .lt 57, 3) := by decide +kernel
theorem dX12_isThere_68 : decode cX12_isThere 68 = .ok (.iconst 0, 1) := by decide +kernel
theorem dX12_isThere_69 : decode cX12_isThere 69 = .ok (.ireturn, 1) := by decide +kernel
theorem dX12_isThere_14 : decode cX12_isThere 14 = .ok (.iload_n 1, 1) := by decide +kernel
theorem dX12_isThere_15 : decode cX12_isThere 15 = .ok (.aload_n 0, 1) := by decide +kernel
theorem dX12_isThere_16 : decode cX12_isThere 16 = .ok (.getfield 62, 3) := by decide +kernel
theorem dX12_isThere_19 : decode cX12_isThere 19 = .ok (.aload_n 0, 1) := by decide +kernel
theorem dX12_isThere_20 : decode cX12_isThere 20 = .ok (.getfield 286, 3) := by decide +kernel
theorem dX12_isThere_23 : decode cX12_isThere 23 = .ok (.iaload, 1) := by decide +kernel
theorem dX12_isThere_24 : decode cX12_isThere 24 = .ok (.if_icmp .ge 44, 3) := by decide +kernel
theorem dX12_isThere_27 : decode cX12_isThere 27 = .ok (.aload_n 0, 1) := by decide +kernel
theorem dX12_isThere_28 : decode cX12_isThere 28 = .ok (.getfield 80, 3) := by decide +kernel
theorem dX12_isThere_31 : decode cX12_isThere 31 = .ok (.iload_n 2, 1) := by decide +kernel
theorem dX12_isThere_32 : decode cX12_isThere 32 = .ok (.iaload, 1) := by decide +kernel
theorem dX12_isThere_33 : decode cX12_isThere 33 = .ok (.ifCond .lt 31, 3) := by decide +kernel
theorem dX12_isThere_64 : decode cX12_isThere 64 = .ok (.iconst 1, 1) := by decide +kernel
theorem dX12_isThere_65 : decode cX12_isThere 65 = .ok (.goto 4, 3) := by decide +kernel
theorem dX12_isThere_36 : decode cX12_isThere 36 = .ok (.aload_n 0, 1) := by decide +kernel
theorem dX12_isThere_37 : decode cX12_isThere 37 = .ok (.getfield 59, 3) := by decide +kernel
theorem dX12_isThere_40 : decode cX12_isThere 40 = .ok (.bipush 12, 2) := by decide +kernel
theorem dX12_isThere_42 : decode cX12_isThere 42 = .ok (.aload_n 0, 1) := by decide +kernel
theorem dX12_isThere_43 : decode cX12_isThere 43 = .ok (.getfield 286, 3) := by decide +kernel
theorem dX12_isThere_46 : decode cX12_isThere 46 = .ok (.imul, 1) := by decide +kernel
theorem dX12_isThere_47 : decode cX12_isThere 47 = .ok (.aload_n 0, 1) := by decide +kernel
theorem dX12_isThere_48 : decode cX12_isThere 48 = .ok (.getfield 80, 3) := by decide +kernel
theorem dX12_isThere_51 : decode cX12_isThere 51 = .ok (.iload_n 2, 1) := by decide +kernel
theorem dX12_isThere_52 : decode cX12_isThere 52 = .ok (.iaload, 1) := by decide +kernel
theorem dX12_isThere_53 : decode cX12_isThere 53 = .ok (.iadd, 1) := by decide +kernel
theorem dX12_isThere_54 : decode cX12_isThere 54 = .ok (.iaload, 1) := by decide +kernel
theorem dX12_isThere_55 : decode cX12_isThere 55 = .ok (.aload_n 0, 1) := by decide +kernel
theorem dX12_isThere_56 : decode cX12_isThere 56 = .ok (.getfield 83, 3) := by decide +kernel
theorem dX12_isThere_59 : decode cX12_isThere 59 = .ok (.iload_n 2, 1) := by decide +kernel
theorem dX12_isThere_60 : decode cX12_isThere 60 = .ok (.iaload, 1) := by decide +kernel
theorem dX12_isThere_61 : decode cX12_isThere 61 = .ok (.if_icmp .ne 7, 3) := by decide +kernel
theorem dX12_placeOf_0 : decode cX12_placeOf 0 = .ok (.aload_n 0, 1) := by decide +kernel
theorem dX12_placeOf_1 : decode cX12_placeOf 1 = .ok (.getfield 71, 3) := by decide +kernel
theorem dX12_placeOf_4 : decode cX12_placeOf 4 = .ok (.bipush 24, 2) := by decide +kernel
theorem dX12_placeOf_6 : decode cX12_placeOf 6 = .ok (.aload_n 0, 1) := by decide +kernel
theorem dX12_placeOf_7 : decode cX12_placeOf 7 = .ok (.getfield 286, 3) := by decide +kernel
theorem dX12_placeOf_10 : decode cX12_placeOf 10 = .ok (.imul, 1) := by decide +kernel
theorem dX12_placeOf_11 : decode cX12_placeOf 11 = .ok (.iload_n 1, 1) := by decide +kernel
theorem dX12_placeOf_12 : decode cX12_placeOf 12 = .ok (.iadd, 1) := by decide +kernel
theorem dX12_placeOf_13 : decode cX12_placeOf 13 = .ok (.iaload, 1) := by decide +kernel
theorem dX12_placeOf_14 : decode cX12_placeOf 14 = .ok (.istore_n 3, 1) := by decide +kernel
theorem dX12_placeOf_15 : decode cX12_placeOf 15 = .ok (.iload_n 3, 1) := by decide +kernel
theorem dX12_placeOf_16 : decode cX12_placeOf 16 = .ok (.ifCond .ne 5, 3) := by decide +kernel
theorem dX12_placeOf_21 : decode cX12_placeOf 21 = .ok (.iload_n 3, 1) := by decide +kernel
theorem dX12_placeOf_22 : decode cX12_placeOf 22 = .ok (.iconst 3, 1) := by decide +kernel
theorem dX12_placeOf_23 : decode cX12_placeOf 23 = .ok (.if_icmp .ne 5, 3) := by decide +kernel
theorem dX12_placeOf_28 : decode cX12_placeOf 28 = .ok (.iload_n 3, 1) := by decide +kernel
theorem dX12_placeOf_29 : decode cX12_placeOf 29 = .ok (.iconst 2, 1) := by decide +kernel
theorem dX12_placeOf_30 : decode cX12_placeOf 30 = .ok (.if_icmp .ne 19, 3) := by decide +kernel
theorem dX12_placeOf_49 : decode cX12_placeOf 49 = .ok (.aload_n 0, 1) := by decide +kernel
theorem dX12_placeOf_50 : decode cX12_placeOf 50 = .ok (.getfield 155, 3) := by decide +kernel
theorem dX12_placeOf_53 : decode cX12_placeOf 53 = .ok (.iload_n 2, 1) := by decide +kernel
theorem dX12_placeOf_54 : decode cX12_placeOf 54 = .ok (.iaload, 1) := by decide +kernel
theorem dX12_placeOf_55 : decode cX12_placeOf 55 = .ok (.iconst 1, 1) := by decide +kernel
theorem dX12_placeOf_56 : decode cX12_placeOf 56 = .ok (.if_icmp .ne 7, 3) := by decide +kernel
theorem dX12_placeOf_63 : decode cX12_placeOf 63 = .ok (.aload_n 0, 1) := by decide +kernel
theorem dX12_placeOf_64 : decode cX12_placeOf 64 = .ok (.getfield 155, 3) := by decide +kernel
theorem dX12_placeOf_67 : decode cX12_placeOf 67 = .ok (.iload_n 2, 1) := by decide +kernel
theorem dX12_placeOf_68 : decode cX12_placeOf 68 = .ok (.iaload, 1) := by decide +kernel
theorem dX12_placeOf_69 : decode cX12_placeOf 69 = .ok (.iconst 2, 1) := by decide +kernel
theorem dX12_placeOf_70 : decode cX12_placeOf 70 = .ok (.if_icmp .ne 12, 3) := by decide +kernel
theorem dX12_placeOf_82 : decode cX12_placeOf 82 = .ok (.iconst (-1), 1) := by decide +kernel
theorem dX12_placeOf_83 : decode cX12_placeOf 83 = .ok (.ireturn, 1) := by decide +kernel
theorem dX12_placeOf_73 : decode cX12_placeOf 73 = .ok (.aload_n 0, 1) := by decide +kernel
theorem dX12_placeOf_74 : decode cX12_placeOf 74 = .ok (.getfield 158, 3) := by decide +kernel
theorem dX12_placeOf_77 : decode cX12_placeOf 77 = .ok (.iload_n 2, 1) := by decide +kernel
theorem dX12_placeOf_78 : decode cX12_placeOf 78 = .ok (.iaload, 1) := by decide +kernel
theorem dX12_placeOf_79 : decode cX12_placeOf 79 = .ok (.goto 4, 3) := by decide +kernel
theorem dX12_placeOf_59 : decode cX12_placeOf 59 = .ok (.iload_n 2, 1) := by decide +kernel
theorem dX12_placeOf_60 : decode cX12_placeOf 60 = .ok (.goto 23, 3) := by decide +kernel
theorem dX12_placeOf_33 : decode cX12_placeOf 33 = .ok (.aload_n 0, 1) := by decide +kernel
theorem dX12_placeOf_34 : decode cX12_placeOf 34 = .ok (.getfield 155, 3) := by decide +kernel
theorem dX12_placeOf_37 : decode cX12_placeOf 37 = .ok (.iload_n 2, 1) := by decide +kernel
theorem dX12_placeOf_38 : decode cX12_placeOf 38 = .ok (.iaload, 1) := by decide +kernel
theorem dX12_placeOf_39 : decode cX12_placeOf 39 = .ok (.iconst 2, 1) := by decide +kernel
theorem dX12_placeOf_40 : decode cX12_placeOf 40 = .ok (.if_icmp .ne 7, 3) := by decide +kernel
theorem dX12_placeOf_47 : decode cX12_placeOf 47 = .ok (.iconst (-1), 1) := by decide +kernel
theorem dX12_placeOf_48 : decode cX12_placeOf 48 = .ok (.ireturn, 1) := by decide +kernel
theorem dX12_placeOf_43 : decode cX12_placeOf 43 = .ok (.iload_n 2, 1) := by decide +kernel
theorem dX12_placeOf_44 : decode cX12_placeOf 44 = .ok (.goto 4, 3) := by decide +kernel
theorem dX12_placeOf_26 : decode cX12_placeOf 26 = .ok (.iload_n 2, 1) := by decide +kernel
theorem dX12_placeOf_27 : decode cX12_placeOf 27 = .ok (.ireturn, 1) := by decide +kernel
theorem dX12_placeOf_19 : decode cX12_placeOf 19 = .ok (.iconst 0, 1) := by decide +kernel
theorem dX12_placeOf_20 : decode cX12_placeOf 20 = .ok (.ireturn, 1) := by decide +kernel
theorem dX12_objectAt_0 : decode cX12_objectAt 0 = .ok (.iconst (-1), 1) := by decide +kernel
theorem dX12_objectAt_1 : decode cX12_objectAt 1 = .ok (.istore_n 3, 1) := by decide +kernel
theorem dX12_objectAt_2 : decode cX12_objectAt 2 = .ok (.iconst 0, 1) := by decide +kernel
theorem dX12_objectAt_3 : decode cX12_objectAt 3 = .ok (.istore 4, 2) := by decide +kernel
theorem dX12_objectAt_5 : decode cX12_objectAt 5 = .ok (.iload 4, 2) := by decide +kernel
theorem dX12_objectAt_7 : decode cX12_objectAt 7 = .ok (.aload_n 0, 1) := by decide +kernel
theorem dX12_objectAt_8 : decode cX12_objectAt 8 = .ok (.getfield 411, 3) := by decide +kernel
theorem dX12_objectAt_11 : decode cX12_objectAt 11 = .ok (.if_icmp .ge 49, 3) := by decide +kernel
theorem dX12_objectAt_60 : decode cX12_objectAt 60 = .ok (.iload_n 3, 1) := by decide +kernel
theorem dX12_objectAt_61 : decode cX12_objectAt 61 = .ok (.ireturn, 1) := by decide +kernel
theorem dX12_objectAt_14 : decode cX12_objectAt 14 = .ok (.aload_n 0, 1) := by decide +kernel
theorem dX12_objectAt_15 : decode cX12_objectAt 15 = .ok (.getfield 164, 3) := by decide +kernel
theorem dX12_objectAt_18 : decode cX12_objectAt 18 = .ok (.iload 4, 2) := by decide +kernel
theorem dX12_objectAt_20 : decode cX12_objectAt 20 = .ok (.iaload, 1) := by decide +kernel
theorem dX12_objectAt_21 : decode cX12_objectAt 21 = .ok (.iload_n 1, 1) := by decide +kernel
theorem dX12_objectAt_22 : decode cX12_objectAt 22 = .ok (.if_icmp .ne 30, 3) := by decide +kernel
theorem dX12_objectAt_52 : decode cX12_objectAt 52 = .ok (.iload_n 3, 1) := by decide +kernel
theorem dX12_objectAt_53 : decode cX12_objectAt 53 = .ok (.istore_n 3, 1) := by decide +kernel
theorem dX12_objectAt_54 : decode cX12_objectAt 54 = .ok (.iinc 4 1, 3) := by decide +kernel
theorem dX12_objectAt_57 : decode cX12_objectAt 57 = .ok (.goto (-52), 3) := by decide +kernel
theorem dX12_objectAt_25 : decode cX12_objectAt 25 = .ok (.aload_n 0, 1) := by decide +kernel
theorem dX12_objectAt_26 : decode cX12_objectAt 26 = .ok (.getfield 167, 3) := by decide +kernel
theorem dX12_objectAt_29 : decode cX12_objectAt 29 = .ok (.iload 4, 2) := by decide +kernel
theorem dX12_objectAt_31 : decode cX12_objectAt 31 = .ok (.iaload, 1) := by decide +kernel
theorem dX12_objectAt_32 : decode cX12_objectAt 32 = .ok (.iload_n 2, 1) := by decide +kernel
theorem dX12_objectAt_33 : decode cX12_objectAt 33 = .ok (.if_icmp .ne 19, 3) := by decide +kernel
theorem dX12_objectAt_36 : decode cX12_objectAt 36 = .ok (.aload_n 0, 1) := by decide +kernel
theorem dX12_objectAt_37 : decode cX12_objectAt 37 = .ok (.getfield 170, 3) := by decide +kernel
theorem dX12_objectAt_40 : decode cX12_objectAt 40 = .ok (.iload 4, 2) := by decide +kernel
theorem dX12_objectAt_42 : decode cX12_objectAt 42 = .ok (.iaload, 1) := by decide +kernel
theorem dX12_objectAt_43 : decode cX12_objectAt 43 = .ok (.iconst 2, 1) := by decide +kernel
theorem dX12_objectAt_44 : decode cX12_objectAt 44 = .ok (.if_icmp .ge 8, 3) := by decide +kernel
theorem dX12_objectAt_47 : decode cX12_objectAt 47 = .ok (.iload 4, 2) := by decide +kernel
theorem dX12_objectAt_49 : decode cX12_objectAt 49 = .ok (.goto 4, 3) := by decide +kernel
theorem dX12_latestIn_0 : decode cX12_latestIn 0 = .ok (.iconst (-1), 1) := by decide +kernel
theorem dX12_latestIn_1 : decode cX12_latestIn 1 = .ok (.istore_n 2, 1) := by decide +kernel
theorem dX12_latestIn_2 : decode cX12_latestIn 2 = .ok (.iconst 0, 1) := by decide +kernel
theorem dX12_latestIn_3 : decode cX12_latestIn 3 = .ok (.istore_n 3, 1) := by decide +kernel
theorem dX12_latestIn_4 : decode cX12_latestIn 4 = .ok (.iload_n 3, 1) := by decide +kernel
theorem dX12_latestIn_5 : decode cX12_latestIn 5 = .ok (.aload_n 0, 1) := by decide +kernel
theorem dX12_latestIn_6 : decode cX12_latestIn 6 = .ok (.getfield 411, 3) := by decide +kernel
theorem dX12_latestIn_9 : decode cX12_latestIn 9 = .ok (.if_icmp .ge 54, 3) := by decide +kernel
theorem dX12_latestIn_63 : decode cX12_latestIn 63 = .ok (.iload_n 2, 1) := by decide +kernel
theorem dX12_latestIn_64 : decode cX12_latestIn 64 = .ok (.ireturn, 1) := by decide +kernel
theorem dX12_latestIn_12 : decode cX12_latestIn 12 = .ok (.aload_n 0, 1) := by decide +kernel
theorem dX12_latestIn_13 : decode cX12_latestIn 13 = .ok (.getfield 170, 3) := by decide +kernel
theorem dX12_latestIn_16 : decode cX12_latestIn 16 = .ok (.iload_n 3, 1) := by decide +kernel
theorem dX12_latestIn_17 : decode cX12_latestIn 17 = .ok (.iaload, 1) := by decide +kernel
theorem dX12_latestIn_18 : decode cX12_latestIn 18 = .ok (.iconst 1, 1) := by decide +kernel
theorem dX12_latestIn_19 : decode cX12_latestIn 19 = .ok (.if_icmp .ne 36, 3) := by decide +kernel
theorem dX12_latestIn_55 : decode cX12_latestIn 55 = .ok (.iload_n 2, 1) := by decide +kernel
theorem dX12_latestIn_56 : decode cX12_latestIn 56 = .ok (.istore_n 2, 1) := by decide +kernel
theorem dX12_latestIn_57 : decode cX12_latestIn 57 = .ok (.iinc 3 1, 3) := by decide +kernel
theorem dX12_latestIn_60 : decode cX12_latestIn 60 = .ok (.goto (-56), 3) := by decide +kernel
theorem dX12_latestIn_22 : decode cX12_latestIn 22 = .ok (.aload_n 0, 1) := by decide +kernel
theorem dX12_latestIn_23 : decode cX12_latestIn 23 = .ok (.getfield 167, 3) := by decide +kernel
theorem dX12_latestIn_26 : decode cX12_latestIn 26 = .ok (.iload_n 3, 1) := by decide +kernel
theorem dX12_latestIn_27 : decode cX12_latestIn 27 = .ok (.iaload, 1) := by decide +kernel
theorem dX12_latestIn_28 : decode cX12_latestIn 28 = .ok (.iload_n 1, 1) := by decide +kernel
theorem dX12_latestIn_29 : decode cX12_latestIn 29 = .ok (.if_icmp .ne 26, 3) := by decide +kernel
theorem dX12_latestIn_32 : decode cX12_latestIn 32 = .ok (.iload_n 2, 1) := by decide +kernel
theorem dX12_latestIn_33 : decode cX12_latestIn 33 = .ok (.ifCond .lt 18, 3) := by decide +kernel
theorem dX12_latestIn_51 : decode cX12_latestIn 51 = .ok (.iload_n 3, 1) := by decide +kernel
theorem dX12_latestIn_52 : decode cX12_latestIn 52 = .ok (.goto 4, 3) := by decide +kernel
theorem dX12_latestIn_36 : decode cX12_latestIn 36 = .ok (.aload_n 0, 1) := by decide +kernel
theorem dX12_latestIn_37 : decode cX12_latestIn 37 = .ok (.getfield 173, 3) := by decide +kernel
theorem dX12_latestIn_40 : decode cX12_latestIn 40 = .ok (.iload_n 3, 1) := by decide +kernel
theorem dX12_latestIn_41 : decode cX12_latestIn 41 = .ok (.iaload, 1) := by decide +kernel
theorem dX12_latestIn_42 : decode cX12_latestIn 42 = .ok (.aload_n 0, 1) := by decide +kernel
theorem dX12_latestIn_43 : decode cX12_latestIn 43 = .ok (.getfield 173, 3) := by decide +kernel
theorem dX12_latestIn_46 : decode cX12_latestIn 46 = .ok (.iload_n 2, 1) := by decide +kernel
theorem dX12_latestIn_47 : decode cX12_latestIn 47 = .ok (.iaload, 1) := by decide +kernel
theorem dX12_latestIn_48 : decode cX12_latestIn 48 = .ok (.if_icmp .le 7, 3) := by decide +kernel
theorem dX12_isScope_0 : decode cX12_isScope 0 = .ok (.iload_n 1, 1) := by decide +kernel
theorem dX12_isScope_1 : decode cX12_isScope 1 = .ok (.ifCond .lt 24, 3) := by decide +kernel
theorem dX12_isScope_25 : decode cX12_isScope 25 = .ok (.iconst 0, 1) := by decide +kernel
theorem dX12_isScope_26 : decode cX12_isScope 26 = .ok (.ireturn, 1) := by decide +kernel
theorem dX12_isScope_4 : decode cX12_isScope 4 = .ok (.iload_n 1, 1) := by decide +kernel
theorem dX12_isScope_5 : decode cX12_isScope 5 = .ok (.aload_n 0, 1) := by decide +kernel
theorem dX12_isScope_6 : decode cX12_isScope 6 = .ok (.getfield 244, 3) := by decide +kernel
theorem dX12_isScope_9 : decode cX12_isScope 9 = .ok (.if_icmp .ge 16, 3) := by decide +kernel
theorem dX12_isScope_12 : decode cX12_isScope 12 = .ok (.aload_n 0, 1) := by decide +kernel
theorem dX12_isScope_13 : decode cX12_isScope 13 = .ok (.getfield 152, 3) := by decide +kernel
theorem dX12_isScope_16 : decode cX12_isScope 16 = .ok (.iload_n 1, 1) := by decide +kernel
theorem dX12_isScope_17 : decode cX12_isScope 17 = .ok (.baload, 1) := by decide +kernel
theorem dX12_isScope_18 : decode cX12_isScope 18 = .ok (.ifCond .eq 7, 3) := by decide +kernel
theorem dX12_isScope_21 : decode cX12_isScope 21 = .ok (.iconst 1, 1) := by decide +kernel
theorem dX12_isScope_22 : decode cX12_isScope 22 = .ok (.goto 4, 3) := by decide +kernel
theorem dX12_setting_0 : decode cX12_setting 0 = .ok (.aload_n 0, 1) := by decide +kernel
theorem dX12_setting_1 : decode cX12_setting 1 = .ok (.iconst 0, 1) := by decide +kernel
theorem dX12_setting_2 : decode cX12_setting 2 = .ok (.putfield 1, 3) := by decide +kernel
theorem dX12_setting_5 : decode cX12_setting 5 = .ok (.iload_n 1, 1) := by decide +kernel
theorem dX12_setting_6 : decode cX12_setting 6 = .ok (.ifCond .lt 23, 3) := by decide +kernel
theorem dX12_setting_29 : decode cX12_setting 29 = .ok (.iconst 0, 1) := by decide +kernel
theorem dX12_setting_30 : decode cX12_setting 30 = .ok (.ireturn, 1) := by decide +kernel
theorem dX12_setting_9 : decode cX12_setting 9 = .ok (.iload_n 1, 1) := by decide +kernel
theorem dX12_setting_10 : decode cX12_setting 10 = .ok (.aload_n 0, 1) := by decide +kernel
theorem dX12_setting_11 : decode cX12_setting 11 = .ok (.getfield 53, 3) := by decide +kernel
theorem dX12_setting_14 : decode cX12_setting 14 = .ok (.aload_n 0, 1) := by decide +kernel
theorem dX12_setting_15 : decode cX12_setting 15 = .ok (.getfield 286, 3) := by decide +kernel
theorem dX12_setting_18 : decode cX12_setting 18 = .ok (.iaload, 1) := by decide +kernel
theorem dX12_setting_19 : decode cX12_setting 19 = .ok (.if_icmp .ge 10, 3) := by decide +kernel
theorem dX12_setting_22 : decode cX12_setting 22 = .ok (.aload_n 0, 1) := by decide +kernel
theorem dX12_setting_23 : decode cX12_setting 23 = .ok (.getfield 408, 3) := by decide +kernel
theorem dX12_setting_26 : decode cX12_setting 26 = .ok (.ifCond .eq 5, 3) := by decide +kernel
theorem dX12_setting_31 : decode cX12_setting 31 = .ok (.aload_n 0, 1) := by decide +kernel
theorem dX12_setting_32 : decode cX12_setting 32 = .ok (.getfield 59, 3) := by decide +kernel
theorem dX12_setting_35 : decode cX12_setting 35 = .ok (.bipush 12, 2) := by decide +kernel
theorem dX12_setting_37 : decode cX12_setting 37 = .ok (.aload_n 0, 1) := by decide +kernel
theorem dX12_setting_38 : decode cX12_setting 38 = .ok (.getfield 286, 3) := by decide +kernel
theorem dX12_setting_41 : decode cX12_setting 41 = .ok (.imul, 1) := by decide +kernel
theorem dX12_setting_42 : decode cX12_setting 42 = .ok (.iload_n 1, 1) := by decide +kernel
theorem dX12_setting_43 : decode cX12_setting 43 = .ok (.iadd, 1) := by decide +kernel
theorem dX12_setting_44 : decode cX12_setting 44 = .ok (.iload_n 2, 1) := by decide +kernel
theorem dX12_setting_45 : decode cX12_setting 45 = .ok (.iastore, 1) := by decide +kernel
theorem dX12_setting_46 : decode cX12_setting 46 = .ok (.iconst 1, 1) := by decide +kernel
theorem dX12_setting_47 : decode cX12_setting 47 = .ok (.ireturn, 1) := by decide +kernel
theorem dX12_scope_0 : decode cX12_scope 0 = .ok (.aload_n 0, 1) := by decide +kernel
theorem dX12_scope_1 : decode cX12_scope 1 = .ok (.getfield 408, 3) := by decide +kernel
theorem dX12_scope_4 : decode cX12_scope 4 = .ok (.ifCond .eq 12, 3) := by decide +kernel
theorem dX12_scope_16 : decode cX12_scope 16 = .ok (.iconst (-1), 1) := by decide +kernel
theorem dX12_scope_17 : decode cX12_scope 17 = .ok (.ireturn, 1) := by decide +kernel
theorem dX12_scope_7 : decode cX12_scope 7 = .ok (.aload_n 0, 1) := by decide +kernel
theorem dX12_scope_8 : decode cX12_scope 8 = .ok (.getfield 244, 3) := by decide +kernel
theorem dX12_scope_11 : decode cX12_scope 11 = .ok (.bipush 40, 2) := by decide +kernel
theorem dX12_scope_13 : decode cX12_scope 13 = .ok (.if_icmp .ne 5, 3) := by decide +kernel
theorem dX12_scope_18 : decode cX12_scope 18 = .ok (.aload_n 0, 1) := by decide +kernel
theorem dX12_scope_19 : decode cX12_scope 19 = .ok (.getfield 152, 3) := by decide +kernel
theorem dX12_scope_22 : decode cX12_scope 22 = .ok (.aload_n 0, 1) := by decide +kernel
theorem dX12_scope_23 : decode cX12_scope 23 = .ok (.getfield 244, 3) := by decide +kernel
theorem dX12_scope_26 : decode cX12_scope 26 = .ok (.iconst 1, 1) := by decide +kernel
theorem dX12_scope_27 : decode cX12_scope 27 = .ok (.bastore, 1) := by decide +kernel
theorem dX12_scope_28 : decode cX12_scope 28 = .ok (.aload_n 0, 1) := by decide +kernel
theorem dX12_scope_29 : decode cX12_scope 29 = .ok (.getfield 155, 3) := by decide +kernel
theorem dX12_scope_32 : decode cX12_scope 32 = .ok (.aload_n 0, 1) := by decide +kernel
theorem dX12_scope_33 : decode cX12_scope 33 = .ok (.getfield 244, 3) := by decide +kernel
theorem dX12_scope_36 : decode cX12_scope 36 = .ok (.iload_n 1, 1) := by decide +kernel
theorem dX12_scope_37 : decode cX12_scope 37 = .ok (.iastore, 1) := by decide +kernel
theorem dX12_scope_38 : decode cX12_scope 38 = .ok (.aload_n 0, 1) := by decide +kernel
theorem dX12_scope_39 : decode cX12_scope 39 = .ok (.getfield 158, 3) := by decide +kernel
theorem dX12_scope_42 : decode cX12_scope 42 = .ok (.aload_n 0, 1) := by decide +kernel
theorem dX12_scope_43 : decode cX12_scope 43 = .ok (.getfield 244, 3) := by decide +kernel
theorem dX12_scope_46 : decode cX12_scope 46 = .ok (.iload_n 2, 1) := by decide +kernel
theorem dX12_scope_47 : decode cX12_scope 47 = .ok (.iastore, 1) := by decide +kernel
theorem dX12_scope_48 : decode cX12_scope 48 = .ok (.iconst 0, 1) := by decide +kernel
theorem dX12_scope_49 : decode cX12_scope 49 = .ok (.istore_n 3, 1) := by decide +kernel
theorem dX12_scope_50 : decode cX12_scope 50 = .ok (.iload_n 3, 1) := by decide +kernel
theorem dX12_scope_51 : decode cX12_scope 51 = .ok (.bipush 24, 2) := by decide +kernel
theorem dX12_scope_53 : decode cX12_scope 53 = .ok (.if_icmp .ge 24, 3) := by decide +kernel
theorem dX12_scope_56 : decode cX12_scope 56 = .ok (.aload_n 0, 1) := by decide +kernel
theorem dX12_scope_57 : decode cX12_scope 57 = .ok (.getfield 161, 3) := by decide +kernel
theorem dX12_scope_60 : decode cX12_scope 60 = .ok (.bipush 24, 2) := by decide +kernel
theorem dX12_scope_62 : decode cX12_scope 62 = .ok (.aload_n 0, 1) := by decide +kernel
theorem dX12_scope_63 : decode cX12_scope 63 = .ok (.getfield 244, 3) := by decide +kernel
theorem dX12_scope_66 : decode cX12_scope 66 = .ok (.imul, 1) := by decide +kernel
theorem dX12_scope_67 : decode cX12_scope 67 = .ok (.iload_n 3, 1) := by decide +kernel
theorem dX12_scope_68 : decode cX12_scope 68 = .ok (.iadd, 1) := by decide +kernel
theorem dX12_scope_69 : decode cX12_scope 69 = .ok (.iconst 0, 1) := by decide +kernel
theorem dX12_scope_70 : decode cX12_scope 70 = .ok (.bastore, 1) := by decide +kernel
theorem dX12_scope_71 : decode cX12_scope 71 = .ok (.iinc 3 1, 3) := by decide +kernel
theorem dX12_scope_74 : decode cX12_scope 74 = .ok (.goto (-24), 3) := by decide +kernel
theorem dX12_scope_77 : decode cX12_scope 77 = .ok (.aload_n 0, 1) := by decide +kernel
theorem dX12_scope_78 : decode cX12_scope 78 = .ok (.dup, 1) := by decide +kernel
theorem dX12_scope_79 : decode cX12_scope 79 = .ok (.getfield 244, 3) := by decide +kernel
theorem dX12_scope_82 : decode cX12_scope 82 = .ok (.iconst 1, 1) := by decide +kernel
theorem dX12_scope_83 : decode cX12_scope 83 = .ok (.iadd, 1) := by decide +kernel
theorem dX12_scope_84 : decode cX12_scope 84 = .ok (.putfield 244, 3) := by decide +kernel
theorem dX12_scope_87 : decode cX12_scope 87 = .ok (.aload_n 0, 1) := by decide +kernel
theorem dX12_scope_88 : decode cX12_scope 88 = .ok (.getfield 244, 3) := by decide +kernel
theorem dX12_scope_91 : decode cX12_scope 91 = .ok (.iconst 1, 1) := by decide +kernel
theorem dX12_scope_92 : decode cX12_scope 92 = .ok (.isub, 1) := by decide +kernel
theorem dX12_scope_93 : decode cX12_scope 93 = .ok (.ireturn, 1) := by decide +kernel
theorem dX12_day_0 : decode cX12_day 0 = .ok (.aload_n 0, 1) := by decide +kernel
theorem dX12_day_1 : decode cX12_day 1 = .ok (.iconst 0, 1) := by decide +kernel
theorem dX12_day_2 : decode cX12_day 2 = .ok (.putfield 1, 3) := by decide +kernel
theorem dX12_day_5 : decode cX12_day 5 = .ok (.aload_n 0, 1) := by decide +kernel
theorem dX12_day_6 : decode cX12_day 6 = .ok (.iconst 1, 1) := by decide +kernel
theorem dX12_day_7 : decode cX12_day 7 = .ok (.iconst (-1), 1) := by decide +kernel
theorem dX12_day_8 : decode cX12_day 8 = .ok (.invokevirtual 571, 3) := by decide +kernel
theorem dX12_day_11 : decode cX12_day 11 = .ok (.ireturn, 1) := by decide +kernel
theorem dX12_meal_0 : decode cX12_meal 0 = .ok (.aload_n 0, 1) := by decide +kernel
theorem dX12_meal_1 : decode cX12_meal 1 = .ok (.iconst 0, 1) := by decide +kernel
theorem dX12_meal_2 : decode cX12_meal 2 = .ok (.putfield 1, 3) := by decide +kernel
theorem dX12_meal_5 : decode cX12_meal 5 = .ok (.aload_n 0, 1) := by decide +kernel
theorem dX12_meal_6 : decode cX12_meal 6 = .ok (.iload_n 1, 1) := by decide +kernel
theorem dX12_meal_7 : decode cX12_meal 7 = .ok (.invokevirtual 574, 3) := by decide +kernel
theorem dX12_meal_10 : decode cX12_meal 10 = .ok (.ifCond .eq 22, 3) := by decide +kernel
theorem dX12_meal_32 : decode cX12_meal 32 = .ok (.iconst (-1), 1) := by decide +kernel
theorem dX12_meal_33 : decode cX12_meal 33 = .ok (.ireturn, 1) := by decide +kernel
theorem dX12_meal_13 : decode cX12_meal 13 = .ok (.aload_n 0, 1) := by decide +kernel
theorem dX12_meal_14 : decode cX12_meal 14 = .ok (.getfield 155, 3) := by decide +kernel
theorem dX12_meal_17 : decode cX12_meal 17 = .ok (.iload_n 1, 1) := by decide +kernel
theorem dX12_meal_18 : decode cX12_meal 18 = .ok (.iaload, 1) := by decide +kernel
theorem dX12_meal_19 : decode cX12_meal 19 = .ok (.iconst 1, 1) := by decide +kernel
theorem dX12_meal_20 : decode cX12_meal 20 = .ok (.if_icmp .ne 12, 3) := by decide +kernel
theorem dX12_meal_23 : decode cX12_meal 23 = .ok (.aload_n 0, 1) := by decide +kernel
theorem dX12_meal_24 : decode cX12_meal 24 = .ok (.iconst 2, 1) := by decide +kernel
theorem dX12_meal_25 : decode cX12_meal 25 = .ok (.iload_n 1, 1) := by decide +kernel
theorem dX12_meal_26 : decode cX12_meal 26 = .ok (.invokevirtual 571, 3) := by decide +kernel
theorem dX12_meal_29 : decode cX12_meal 29 = .ok (.goto 4, 3) := by decide +kernel
theorem dX12_begins__0 : decode cX12_begins_ 0 = .ok (.aload_n 0, 1) := by decide +kernel
theorem dX12_begins__1 : decode cX12_begins_ 1 = .ok (.iconst 0, 1) := by decide +kernel
theorem dX12_begins__2 : decode cX12_begins_ 2 = .ok (.putfield 432, 3) := by decide +kernel
theorem dX12_begins__5 : decode cX12_begins_ 5 = .ok (.aload_n 0, 1) := by decide +kernel
theorem dX12_begins__6 : decode cX12_begins_ 6 = .ok (.iconst 0, 1) := by decide +kernel
theorem dX12_begins__7 : decode cX12_begins_ 7 = .ok (.putfield 520, 3) := by decide +kernel
theorem dX12_begins__10 : decode cX12_begins_ 10 = .ok (.aload_n 0, 1) := by decide +kernel
theorem dX12_begins__11 : decode cX12_begins_ 11 = .ok (.iconst 0, 1) := by decide +kernel
theorem dX12_begins__12 : decode cX12_begins_ 12 = .ok (.putfield 548, 3) := by decide +kernel
theorem dX12_begins__15 : decode cX12_begins_ 15 = .ok (.aload_n 0, 1) := by decide +kernel
theorem dX12_begins__16 : decode cX12_begins_ 16 = .ok (.iconst 0, 1) := by decide +kernel
theorem dX12_begins__17 : decode cX12_begins_ 17 = .ok (.putfield 507, 3) := by decide +kernel
theorem dX12_begins__20 : decode cX12_begins_ 20 = .ok (.aload_n 0, 1) := by decide +kernel
theorem dX12_begins__21 : decode cX12_begins_ 21 = .ok (.iconst 0, 1) := by decide +kernel
theorem dX12_begins__22 : decode cX12_begins_ 22 = .ok (.putfield 426, 3) := by decide +kernel
theorem dX12_begins__25 : decode cX12_begins_ 25 = .ok (.aload_n 0, 1) := by decide +kernel
theorem dX12_begins__26 : decode cX12_begins_ 26 = .ok (.iconst 0, 1) := by decide +kernel
theorem dX12_begins__27 : decode cX12_begins_ 27 = .ok (.putfield 429, 3) := by decide +kernel
theorem dX12_begins__30 : decode cX12_begins_ 30 = .ok (.return_, 1) := by decide +kernel
theorem dX12_ends_0 : decode cX12_ends 0 = .ok (.aload_n 0, 1) := by decide +kernel
theorem dX12_ends_1 : decode cX12_ends 1 = .ok (.iload_n 1, 1) := by decide +kernel
theorem dX12_ends_2 : decode cX12_ends 2 = .ok (.ifCond .ne 7, 3) := by decide +kernel
theorem dX12_ends_5 : decode cX12_ends 5 = .ok (.iconst 0, 1) := by decide +kernel
theorem dX12_ends_6 : decode cX12_ends 6 = .ok (.goto 14, 3) := by decide +kernel
theorem dX12_ends_9 : decode cX12_ends 9 = .ok (.iload_n 1, 1) := by decide +kernel
theorem dX12_ends_10 : decode cX12_ends 10 = .ok (.iconst 1, 1) := by decide +kernel
theorem dX12_ends_11 : decode cX12_ends 11 = .ok (.if_icmp .ne 7, 3) := by decide +kernel
theorem dX12_ends_18 : decode cX12_ends 18 = .ok (.bipush 6, 2) := by decide +kernel
theorem dX12_ends_14 : decode cX12_ends 14 = .ok (.iconst 1, 1) := by decide +kernel
theorem dX12_ends_15 : decode cX12_ends 15 = .ok (.goto 5, 3) := by decide +kernel
theorem dX12_ends_20 : decode cX12_ends 20 = .ok (.putfield 423, 3) := by decide +kernel
theorem dX12_ends_23 : decode cX12_ends 23 = .ok (.aload_n 0, 1) := by decide +kernel
theorem dX12_ends_24 : decode cX12_ends 24 = .ok (.iload_n 1, 1) := by decide +kernel
theorem dX12_ends_25 : decode cX12_ends 25 = .ok (.iconst 1, 1) := by decide +kernel
theorem dX12_ends_26 : decode cX12_ends 26 = .ok (.if_icmp .ne 10, 3) := by decide +kernel
theorem dX12_ends_29 : decode cX12_ends 29 = .ok (.aload_n 0, 1) := by decide +kernel
theorem dX12_ends_30 : decode cX12_ends 30 = .ok (.getfield 471, 3) := by decide +kernel
theorem dX12_ends_33 : decode cX12_ends 33 = .ok (.goto 4, 3) := by decide +kernel
theorem dX12_ends_36 : decode cX12_ends 36 = .ok (.iconst 0, 1) := by decide +kernel
theorem dX12_ends_37 : decode cX12_ends 37 = .ok (.putfield 426, 3) := by decide +kernel
theorem dX12_ends_40 : decode cX12_ends 40 = .ok (.aload_n 0, 1) := by decide +kernel
theorem dX12_ends_41 : decode cX12_ends 41 = .ok (.iload_n 1, 1) := by decide +kernel
theorem dX12_ends_42 : decode cX12_ends 42 = .ok (.iconst 1, 1) := by decide +kernel
theorem dX12_ends_43 : decode cX12_ends 43 = .ok (.if_icmp .ne 10, 3) := by decide +kernel
theorem dX12_ends_46 : decode cX12_ends 46 = .ok (.aload_n 0, 1) := by decide +kernel
theorem dX12_ends_47 : decode cX12_ends 47 = .ok (.getfield 474, 3) := by decide +kernel
theorem dX12_ends_50 : decode cX12_ends 50 = .ok (.goto 4, 3) := by decide +kernel
theorem dX12_ends_53 : decode cX12_ends 53 = .ok (.iconst 0, 1) := by decide +kernel
theorem dX12_ends_54 : decode cX12_ends 54 = .ok (.putfield 429, 3) := by decide +kernel
theorem dX12_ends_57 : decode cX12_ends 57 = .ok (.iload_n 1, 1) := by decide +kernel
theorem dX12_ends_58 : decode cX12_ends 58 = .ok (.ifCond .ne 7, 3) := by decide +kernel
theorem dX12_ends_65 : decode cX12_ends 65 = .ok (.iconst 0, 1) := by decide +kernel
theorem dX12_ends_66 : decode cX12_ends 66 = .ok (.ireturn, 1) := by decide +kernel
theorem dX12_ends_61 : decode cX12_ends 61 = .ok (.iconst 1, 1) := by decide +kernel
theorem dX12_ends_62 : decode cX12_ends 62 = .ok (.goto 4, 3) := by decide +kernel
theorem dX12_addFault_0 : decode cX12_addFault 0 = .ok (.aload_n 0, 1) := by decide +kernel
theorem dX12_addFault_1 : decode cX12_addFault 1 = .ok (.getfield 435, 3) := by decide +kernel
theorem dX12_addFault_4 : decode cX12_addFault 4 = .ok (.bipush 100, 2) := by decide +kernel
theorem dX12_addFault_6 : decode cX12_addFault 6 = .ok (.if_icmp .ge 33, 3) := by decide +kernel
theorem dX12_addFault_9 : decode cX12_addFault 9 = .ok (.aload_n 0, 1) := by decide +kernel
theorem dX12_addFault_10 : decode cX12_addFault 10 = .ok (.getfield 201, 3) := by decide +kernel
theorem dX12_addFault_13 : decode cX12_addFault 13 = .ok (.aload_n 0, 1) := by decide +kernel
theorem dX12_addFault_14 : decode cX12_addFault 14 = .ok (.getfield 435, 3) := by decide +kernel
theorem dX12_addFault_17 : decode cX12_addFault 17 = .ok (.iload_n 1, 1) := by decide +kernel
theorem dX12_addFault_18 : decode cX12_addFault 18 = .ok (.iastore, 1) := by decide +kernel
theorem dX12_addFault_19 : decode cX12_addFault 19 = .ok (.aload_n 0, 1) := by decide +kernel
theorem dX12_addFault_20 : decode cX12_addFault 20 = .ok (.getfield 204, 3) := by decide +kernel
theorem dX12_addFault_23 : decode cX12_addFault 23 = .ok (.aload_n 0, 1) := by decide +kernel
theorem dX12_addFault_24 : decode cX12_addFault 24 = .ok (.getfield 435, 3) := by decide +kernel
theorem dX12_addFault_27 : decode cX12_addFault 27 = .ok (.iload_n 2, 1) := by decide +kernel
theorem dX12_addFault_28 : decode cX12_addFault 28 = .ok (.iastore, 1) := by decide +kernel
theorem dX12_addFault_29 : decode cX12_addFault 29 = .ok (.aload_n 0, 1) := by decide +kernel
theorem dX12_addFault_30 : decode cX12_addFault 30 = .ok (.getfield 207, 3) := by decide +kernel
theorem dX12_addFault_33 : decode cX12_addFault 33 = .ok (.aload_n 0, 1) := by decide +kernel
theorem dX12_addFault_34 : decode cX12_addFault 34 = .ok (.getfield 435, 3) := by decide +kernel
theorem dX12_addFault_37 : decode cX12_addFault 37 = .ok (.iload_n 3, 1) := by decide +kernel
theorem dX12_addFault_38 : decode cX12_addFault 38 = .ok (.iastore, 1) := by decide +kernel
theorem dX12_addFault_39 : decode cX12_addFault 39 = .ok (.aload_n 0, 1) := by decide +kernel
theorem dX12_addFault_40 : decode cX12_addFault 40 = .ok (.dup, 1) := by decide +kernel
theorem dX12_addFault_41 : decode cX12_addFault 41 = .ok (.getfield 435, 3) := by decide +kernel
theorem dX12_addFault_44 : decode cX12_addFault 44 = .ok (.iconst 1, 1) := by decide +kernel
theorem dX12_addFault_45 : decode cX12_addFault 45 = .ok (.iadd, 1) := by decide +kernel
theorem dX12_addFault_46 : decode cX12_addFault 46 = .ok (.putfield 435, 3) := by decide +kernel
theorem dX12_addFault_49 : decode cX12_addFault 49 = .ok (.return_, 1) := by decide +kernel
theorem dX12_fault_0 : decode cX12_fault 0 = .ok (.aload_n 0, 1) := by decide +kernel
theorem dX12_fault_1 : decode cX12_fault 1 = .ok (.iconst 0, 1) := by decide +kernel
theorem dX12_fault_2 : decode cX12_fault 2 = .ok (.putfield 1, 3) := by decide +kernel
theorem dX12_fault_5 : decode cX12_fault 5 = .ok (.iload_n 1, 1) := by decide +kernel
theorem dX12_fault_6 : decode cX12_fault 6 = .ok (.ifCond .lt 17, 3) := by decide +kernel
theorem dX12_fault_23 : decode cX12_fault 23 = .ok (.iconst (-1), 1) := by decide +kernel
theorem dX12_fault_24 : decode cX12_fault 24 = .ok (.ireturn, 1) := by decide +kernel
theorem dX12_fault_9 : decode cX12_fault 9 = .ok (.iload_n 1, 1) := by decide +kernel
theorem dX12_fault_10 : decode cX12_fault 10 = .ok (.aload_n 0, 1) := by decide +kernel
theorem dX12_fault_11 : decode cX12_fault 11 = .ok (.getfield 435, 3) := by decide +kernel
theorem dX12_fault_14 : decode cX12_fault 14 = .ok (.if_icmp .ge 9, 3) := by decide +kernel
theorem dX12_fault_17 : decode cX12_fault 17 = .ok (.iload_n 1, 1) := by decide +kernel
theorem dX12_fault_18 : decode cX12_fault 18 = .ok (.bipush 100, 2) := by decide +kernel
theorem dX12_fault_20 : decode cX12_fault 20 = .ok (.if_icmp .lt 5, 3) := by decide +kernel
theorem dX12_fault_25 : decode cX12_fault 25 = .ok (.iload_n 2, 1) := by decide +kernel
theorem dX12_fault_26 : decode cX12_fault 26 = .ok (.ifCond .ne 12, 3) := by decide +kernel
theorem dX12_fault_38 : decode cX12_fault 38 = .ok (.iload_n 2, 1) := by decide +kernel
theorem dX12_fault_39 : decode cX12_fault 39 = .ok (.iconst 1, 1) := by decide +kernel
theorem dX12_fault_40 : decode cX12_fault 40 = .ok (.if_icmp .ne 12, 3) := by decide +kernel
theorem dX12_fault_52 : decode cX12_fault 52 = .ok (.iload_n 2, 1) := by decide +kernel
theorem dX12_fault_53 : decode cX12_fault 53 = .ok (.iconst 2, 1) := by decide +kernel
theorem dX12_fault_54 : decode cX12_fault 54 = .ok (.if_icmp .ne 12, 3) := by decide +kernel
theorem dX12_fault_66 : decode cX12_fault 66 = .ok (.iconst (-1), 1) := by decide +kernel
theorem dX12_fault_67 : decode cX12_fault 67 = .ok (.ireturn, 1) := by decide +kernel
theorem dX12_fault_57 : decode cX12_fault 57 = .ok (.aload_n 0, 1) := by decide +kernel
theorem dX12_fault_58 : decode cX12_fault 58 = .ok (.getfield 207, 3) := by decide +kernel
theorem dX12_fault_61 : decode cX12_fault 61 = .ok (.iload_n 1, 1) := by decide +kernel
theorem dX12_fault_62 : decode cX12_fault 62 = .ok (.iaload, 1) := by decide +kernel
theorem dX12_fault_63 : decode cX12_fault 63 = .ok (.goto 4, 3) := by decide +kernel
theorem dX12_fault_43 : decode cX12_fault 43 = .ok (.aload_n 0, 1) := by decide +kernel
theorem dX12_fault_44 : decode cX12_fault 44 = .ok (.getfield 204, 3) := by decide +kernel
theorem dX12_fault_47 : decode cX12_fault 47 = .ok (.iload_n 1, 1) := by decide +kernel
theorem dX12_fault_48 : decode cX12_fault 48 = .ok (.iaload, 1) := by decide +kernel
theorem dX12_fault_49 : decode cX12_fault 49 = .ok (.goto 18, 3) := by decide +kernel
theorem dX12_fault_29 : decode cX12_fault 29 = .ok (.aload_n 0, 1) := by decide +kernel
theorem dX12_fault_30 : decode cX12_fault 30 = .ok (.getfield 201, 3) := by decide +kernel
theorem dX12_fault_33 : decode cX12_fault 33 = .ok (.iload_n 1, 1) := by decide +kernel
theorem dX12_fault_34 : decode cX12_fault 34 = .ok (.iaload, 1) := by decide +kernel
theorem dX12_fault_35 : decode cX12_fault 35 = .ok (.goto 32, 3) := by decide +kernel
theorem dX12_cycle_0 : decode cX12_cycle 0 = .ok (.aload_n 0, 1) := by decide +kernel
theorem dX12_cycle_1 : decode cX12_cycle 1 = .ok (.iconst 0, 1) := by decide +kernel
theorem dX12_cycle_2 : decode cX12_cycle 2 = .ok (.putfield 1, 3) := by decide +kernel
theorem dX12_cycle_5 : decode cX12_cycle 5 = .ok (.iload_n 1, 1) := by decide +kernel
theorem dX12_cycle_6 : decode cX12_cycle 6 = .ok (.ifCond .lt 41, 3) := by decide +kernel
theorem dX12_cycle_47 : decode cX12_cycle 47 = .ok (.iconst (-1), 1) := by decide +kernel
theorem dX12_cycle_48 : decode cX12_cycle 48 = .ok (.ireturn, 1) := by decide +kernel
theorem dX12_cycle_9 : decode cX12_cycle 9 = .ok (.iload_n 1, 1) := by decide +kernel
theorem dX12_cycle_10 : decode cX12_cycle 10 = .ok (.aload_n 0, 1) := by decide +kernel
theorem dX12_cycle_11 : decode cX12_cycle 11 = .ok (.getfield 435, 3) := by decide +kernel
theorem dX12_cycle_14 : decode cX12_cycle 14 = .ok (.if_icmp .ge 33, 3) := by decide +kernel
theorem dX12_cycle_17 : decode cX12_cycle 17 = .ok (.iload_n 1, 1) := by decide +kernel
theorem dX12_cycle_18 : decode cX12_cycle 18 = .ok (.bipush 100, 2) := by decide +kernel
theorem dX12_cycle_20 : decode cX12_cycle 20 = .ok (.if_icmp .ge 27, 3) := by decide +kernel
theorem dX12_cycle_23 : decode cX12_cycle 23 = .ok (.aload_n 0, 1) := by decide +kernel
theorem dX12_cycle_24 : decode cX12_cycle 24 = .ok (.getfield 201, 3) := by decide +kernel
theorem dX12_cycle_27 : decode cX12_cycle 27 = .ok (.iload_n 1, 1) := by decide +kernel
theorem dX12_cycle_28 : decode cX12_cycle 28 = .ok (.iaload, 1) := by decide +kernel
theorem dX12_cycle_29 : decode cX12_cycle 29 = .ok (.iconst 3, 1) := by decide +kernel
theorem dX12_cycle_30 : decode cX12_cycle 30 = .ok (.if_icmp .ne 17, 3) := by decide +kernel
theorem dX12_cycle_33 : decode cX12_cycle 33 = .ok (.iload_n 2, 1) := by decide +kernel
theorem dX12_cycle_34 : decode cX12_cycle 34 = .ok (.ifCond .lt 13, 3) := by decide +kernel
theorem dX12_cycle_37 : decode cX12_cycle 37 = .ok (.iload_n 2, 1) := by decide +kernel
theorem dX12_cycle_38 : decode cX12_cycle 38 = .ok (.aload_n 0, 1) := by decide +kernel
theorem dX12_cycle_39 : decode cX12_cycle 39 = .ok (.getfield 207, 3) := by decide +kernel
theorem dX12_cycle_42 : decode cX12_cycle 42 = .ok (.iload_n 1, 1) := by decide +kernel
theorem dX12_cycle_43 : decode cX12_cycle 43 = .ok (.iaload, 1) := by decide +kernel
theorem dX12_cycle_44 : decode cX12_cycle 44 = .ok (.if_icmp .lt 5, 3) := by decide +kernel
theorem dX12_cycle_49 : decode cX12_cycle 49 = .ok (.aload_n 0, 1) := by decide +kernel
theorem dX12_cycle_50 : decode cX12_cycle 50 = .ok (.getfield 210, 3) := by decide +kernel
theorem dX12_cycle_53 : decode cX12_cycle 53 = .ok (.bipush 24, 2) := by decide +kernel
theorem dX12_cycle_55 : decode cX12_cycle 55 = .ok (.iload_n 1, 1) := by decide +kernel
theorem dX12_cycle_56 : decode cX12_cycle 56 = .ok (.imul, 1) := by decide +kernel
theorem dX12_cycle_57 : decode cX12_cycle 57 = .ok (.iload_n 2, 1) := by decide +kernel
theorem dX12_cycle_58 : decode cX12_cycle 58 = .ok (.iadd, 1) := by decide +kernel
theorem dX12_cycle_59 : decode cX12_cycle 59 = .ok (.iaload, 1) := by decide +kernel
theorem dX12_cycle_60 : decode cX12_cycle 60 = .ok (.ireturn, 1) := by decide +kernel
theorem dX12_closed_0 : decode cX12_closed 0 = .ok (.aload_n 0, 1) := by decide +kernel
theorem dX12_closed_1 : decode cX12_closed 1 = .ok (.iconst 0, 1) := by decide +kernel
theorem dX12_closed_2 : decode cX12_closed 2 = .ok (.putfield 1, 3) := by decide +kernel
theorem dX12_closed_5 : decode cX12_closed 5 = .ok (.iload_n 1, 1) := by decide +kernel
theorem dX12_closed_6 : decode cX12_closed 6 = .ok (.ifCond .lt 18, 3) := by decide +kernel
theorem dX12_closed_24 : decode cX12_closed 24 = .ok (.iconst (-1), 1) := by decide +kernel
theorem dX12_closed_25 : decode cX12_closed 25 = .ok (.ireturn, 1) := by decide +kernel
theorem dX12_closed_9 : decode cX12_closed 9 = .ok (.iload_n 1, 1) := by decide +kernel
theorem dX12_closed_10 : decode cX12_closed 10 = .ok (.aload_n 0, 1) := by decide +kernel
theorem dX12_closed_11 : decode cX12_closed 11 = .ok (.getfield 417, 3) := by decide +kernel
theorem dX12_closed_14 : decode cX12_closed 14 = .ok (.if_icmp .ge 10, 3) := by decide +kernel
theorem dX12_closed_17 : decode cX12_closed 17 = .ok (.iload_n 1, 1) := by decide +kernel
theorem dX12_closed_18 : decode cX12_closed 18 = .ok (.sipush 300, 3) := by decide +kernel
theorem dX12_closed_21 : decode cX12_closed 21 = .ok (.if_icmp .lt 5, 3) := by decide +kernel
theorem dX12_closed_26 : decode cX12_closed 26 = .ok (.iload_n 2, 1) := by decide +kernel
theorem dX12_closed_27 : decode cX12_closed 27 = .ok (.ifCond .ne 12, 3) := by decide +kernel
theorem dX12_closed_39 : decode cX12_closed 39 = .ok (.iload_n 2, 1) := by decide +kernel
theorem dX12_closed_40 : decode cX12_closed 40 = .ok (.iconst 1, 1) := by decide +kernel
theorem dX12_closed_41 : decode cX12_closed 41 = .ok (.if_icmp .ne 12, 3) := by decide +kernel
theorem dX12_closed_53 : decode cX12_closed 53 = .ok (.iconst (-1), 1) := by decide +kernel
theorem dX12_closed_54 : decode cX12_closed 54 = .ok (.ireturn, 1) := by decide +kernel
theorem dX12_closed_44 : decode cX12_closed 44 = .ok (.aload_n 0, 1) := by decide +kernel
theorem dX12_closed_45 : decode cX12_closed 45 = .ok (.getfield 186, 3) := by decide +kernel
theorem dX12_closed_48 : decode cX12_closed 48 = .ok (.iload_n 1, 1) := by decide +kernel
theorem dX12_closed_49 : decode cX12_closed 49 = .ok (.iaload, 1) := by decide +kernel
theorem dX12_closed_50 : decode cX12_closed 50 = .ok (.goto 4, 3) := by decide +kernel
theorem dX12_closed_30 : decode cX12_closed 30 = .ok (.aload_n 0, 1) := by decide +kernel
theorem dX12_closed_31 : decode cX12_closed 31 = .ok (.getfield 183, 3) := by decide +kernel
theorem dX12_closed_34 : decode cX12_closed 34 = .ok (.iload_n 1, 1) := by decide +kernel
theorem dX12_closed_35 : decode cX12_closed 35 = .ok (.iaload, 1) := by decide +kernel
theorem dX12_closed_36 : decode cX12_closed 36 = .ok (.goto 18, 3) := by decide +kernel
theorem dX12_did_0 : decode cX12_did 0 = .ok (.aload_n 0, 1) := by decide +kernel
theorem dX12_did_1 : decode cX12_did 1 = .ok (.iconst 0, 1) := by decide +kernel
theorem dX12_did_2 : decode cX12_did 2 = .ok (.putfield 1, 3) := by decide +kernel
theorem dX12_did_5 : decode cX12_did 5 = .ok (.iload_n 1, 1) := by decide +kernel
theorem dX12_did_6 : decode cX12_did 6 = .ok (.ifCond .lt 17, 3) := by decide +kernel
theorem dX12_did_23 : decode cX12_did 23 = .ok (.iconst (-1), 1) := by decide +kernel
theorem dX12_did_24 : decode cX12_did 24 = .ok (.ireturn, 1) := by decide +kernel
theorem dX12_did_9 : decode cX12_did 9 = .ok (.iload_n 1, 1) := by decide +kernel
theorem dX12_did_10 : decode cX12_did 10 = .ok (.aload_n 0, 1) := by decide +kernel
theorem dX12_did_11 : decode cX12_did 11 = .ok (.getfield 420, 3) := by decide +kernel
theorem dX12_did_14 : decode cX12_did 14 = .ok (.if_icmp .ge 9, 3) := by decide +kernel
theorem dX12_did_17 : decode cX12_did 17 = .ok (.iload_n 1, 1) := by decide +kernel
theorem dX12_did_18 : decode cX12_did 18 = .ok (.bipush 100, 2) := by decide +kernel
theorem dX12_did_20 : decode cX12_did 20 = .ok (.if_icmp .lt 5, 3) := by decide +kernel
theorem dX12_did_25 : decode cX12_did 25 = .ok (.iload_n 2, 1) := by decide +kernel
theorem dX12_did_26 : decode cX12_did 26 = .ok (.ifCond .ne 12, 3) := by decide +kernel
theorem dX12_did_38 : decode cX12_did 38 = .ok (.iload_n 2, 1) := by decide +kernel
theorem dX12_did_39 : decode cX12_did 39 = .ok (.iconst 1, 1) := by decide +kernel
theorem dX12_did_40 : decode cX12_did 40 = .ok (.if_icmp .ne 12, 3) := by decide +kernel
theorem dX12_did_52 : decode cX12_did 52 = .ok (.iload_n 2, 1) := by decide +kernel
theorem dX12_did_53 : decode cX12_did 53 = .ok (.iconst 2, 1) := by decide +kernel
theorem dX12_did_54 : decode cX12_did 54 = .ok (.if_icmp .ne 12, 3) := by decide +kernel
theorem dX12_did_66 : decode cX12_did 66 = .ok (.iconst (-1), 1) := by decide +kernel
theorem dX12_did_67 : decode cX12_did 67 = .ok (.ireturn, 1) := by decide +kernel
theorem dX12_did_57 : decode cX12_did 57 = .ok (.aload_n 0, 1) := by decide +kernel
theorem dX12_did_58 : decode cX12_did 58 = .ok (.getfield 195, 3) := by decide +kernel
theorem dX12_did_61 : decode cX12_did 61 = .ok (.iload_n 1, 1) := by decide +kernel
theorem dX12_did_62 : decode cX12_did 62 = .ok (.iaload, 1) := by decide +kernel
theorem dX12_did_63 : decode cX12_did 63 = .ok (.goto 4, 3) := by decide +kernel
theorem dX12_did_43 : decode cX12_did 43 = .ok (.aload_n 0, 1) := by decide +kernel
theorem dX12_did_44 : decode cX12_did 44 = .ok (.getfield 192, 3) := by decide +kernel
theorem dX12_did_47 : decode cX12_did 47 = .ok (.iload_n 1, 1) := by decide +kernel
theorem dX12_did_48 : decode cX12_did 48 = .ok (.iaload, 1) := by decide +kernel
theorem dX12_did_49 : decode cX12_did 49 = .ok (.goto 18, 3) := by decide +kernel
theorem dX12_did_29 : decode cX12_did 29 = .ok (.aload_n 0, 1) := by decide +kernel
theorem dX12_did_30 : decode cX12_did 30 = .ok (.getfield 189, 3) := by decide +kernel
theorem dX12_did_33 : decode cX12_did 33 = .ok (.iload_n 1, 1) := by decide +kernel
theorem dX12_did_34 : decode cX12_did 34 = .ok (.iaload, 1) := by decide +kernel
theorem dX12_did_35 : decode cX12_did 35 = .ok (.goto 32, 3) := by decide +kernel
theorem dX12_object_0 : decode cX12_object 0 = .ok (.aload_n 0, 1) := by decide +kernel
theorem dX12_object_1 : decode cX12_object 1 = .ok (.iload_n 1, 1) := by decide +kernel
theorem dX12_object_2 : decode cX12_object 2 = .ok (.ifCond .lt 24, 3) := by decide +kernel
theorem dX12_object_26 : decode cX12_object 26 = .ok (.iconst 1, 1) := by decide +kernel
theorem dX12_object_27 : decode cX12_object 27 = .ok (.putfield 1, 3) := by decide +kernel
theorem dX12_object_30 : decode cX12_object 30 = .ok (.aload_n 0, 1) := by decide +kernel
theorem dX12_object_31 : decode cX12_object 31 = .ok (.getfield 1, 3) := by decide +kernel
theorem dX12_object_34 : decode cX12_object 34 = .ok (.ifCond .le 7, 3) := by decide +kernel
theorem dX12_object_37 : decode cX12_object 37 = .ok (.iconst 0, 1) := by decide +kernel
theorem dX12_object_38 : decode cX12_object 38 = .ok (.goto 36, 3) := by decide +kernel
theorem dX12_object_74 : decode cX12_object 74 = .ok (.ireturn, 1) := by decide +kernel
theorem dX12_object_5 : decode cX12_object 5 = .ok (.iload_n 1, 1) := by decide +kernel
theorem dX12_object_6 : decode cX12_object 6 = .ok (.aload_n 0, 1) := by decide +kernel
theorem dX12_object_7 : decode cX12_object 7 = .ok (.getfield 411, 3) := by decide +kernel
theorem dX12_object_10 : decode cX12_object 10 = .ok (.if_icmp .ge 16, 3) := by decide +kernel
theorem dX12_object_13 : decode cX12_object 13 = .ok (.iload_n 2, 1) := by decide +kernel
theorem dX12_object_14 : decode cX12_object 14 = .ok (.ifCond .lt 12, 3) := by decide +kernel
theorem dX12_object_17 : decode cX12_object 17 = .ok (.iload_n 2, 1) := by decide +kernel
theorem dX12_object_18 : decode cX12_object 18 = .ok (.iconst 2, 1) := by decide +kernel
theorem dX12_object_19 : decode cX12_object 19 = .ok (.if_icmp .gt 7, 3) := by decide +kernel
theorem dX12_object_22 : decode cX12_object 22 = .ok (.iconst 0, 1) := by decide +kernel
theorem dX12_object_23 : decode cX12_object 23 = .ok (.goto 4, 3) := by decide +kernel
theorem dX12_object_41 : decode cX12_object 41 = .ok (.iload_n 2, 1) := by decide +kernel
theorem dX12_object_42 : decode cX12_object 42 = .ok (.ifCond .ne 12, 3) := by decide +kernel
theorem dX12_object_54 : decode cX12_object 54 = .ok (.iload_n 2, 1) := by decide +kernel
theorem dX12_object_55 : decode cX12_object 55 = .ok (.iconst 1, 1) := by decide +kernel
theorem dX12_object_56 : decode cX12_object 56 = .ok (.if_icmp .ne 12, 3) := by decide +kernel
theorem dX12_object_68 : decode cX12_object 68 = .ok (.aload_n 0, 1) := by decide +kernel
theorem dX12_object_69 : decode cX12_object 69 = .ok (.getfield 170, 3) := by decide +kernel
theorem dX12_object_72 : decode cX12_object 72 = .ok (.iload_n 1, 1) := by decide +kernel
theorem dX12_object_73 : decode cX12_object 73 = .ok (.iaload, 1) := by decide +kernel
theorem dX12_object_59 : decode cX12_object 59 = .ok (.aload_n 0, 1) := by decide +kernel
theorem dX12_object_60 : decode cX12_object 60 = .ok (.getfield 167, 3) := by decide +kernel
theorem dX12_object_63 : decode cX12_object 63 = .ok (.iload_n 1, 1) := by decide +kernel
theorem dX12_object_64 : decode cX12_object 64 = .ok (.iaload, 1) := by decide +kernel
theorem dX12_object_65 : decode cX12_object 65 = .ok (.goto 9, 3) := by decide +kernel
theorem dX12_object_45 : decode cX12_object 45 = .ok (.aload_n 0, 1) := by decide +kernel
theorem dX12_object_46 : decode cX12_object 46 = .ok (.getfield 164, 3) := by decide +kernel
theorem dX12_object_49 : decode cX12_object 49 = .ok (.iload_n 1, 1) := by decide +kernel
theorem dX12_object_50 : decode cX12_object 50 = .ok (.iaload, 1) := by decide +kernel
theorem dX12_object_51 : decode cX12_object 51 = .ok (.goto 23, 3) := by decide +kernel
theorem dX12_spoiled_0 : decode cX12_spoiled 0 = .ok (.aload_n 0, 1) := by decide +kernel
theorem dX12_spoiled_1 : decode cX12_spoiled 1 = .ok (.iconst 0, 1) := by decide +kernel
theorem dX12_spoiled_2 : decode cX12_spoiled 2 = .ok (.putfield 1, 3) := by decide +kernel
theorem dX12_spoiled_5 : decode cX12_spoiled 5 = .ok (.aload_n 0, 1) := by decide +kernel
theorem dX12_spoiled_6 : decode cX12_spoiled 6 = .ok (.iload_n 1, 1) := by decide +kernel
theorem dX12_spoiled_7 : decode cX12_spoiled 7 = .ok (.invokevirtual 574, 3) := by decide +kernel
theorem dX12_spoiled_10 : decode cX12_spoiled 10 = .ok (.ifCond .eq 20, 3) := by decide +kernel
theorem dX12_spoiled_30 : decode cX12_spoiled 30 = .ok (.iconst (-1), 1) := by decide +kernel
theorem dX12_spoiled_31 : decode cX12_spoiled 31 = .ok (.ireturn, 1) := by decide +kernel
theorem dX12_spoiled_13 : decode cX12_spoiled 13 = .ok (.iload_n 2, 1) := by decide +kernel
theorem dX12_spoiled_14 : decode cX12_spoiled 14 = .ok (.ifCond .lt 16, 3) := by decide +kernel
theorem dX12_spoiled_17 : decode cX12_spoiled 17 = .ok (.iload_n 2, 1) := by decide +kernel
theorem dX12_spoiled_18 : decode cX12_spoiled 18 = .ok (.aload_n 0, 1) := by decide +kernel
theorem dX12_spoiled_19 : decode cX12_spoiled 19 = .ok (.getfield 62, 3) := by decide +kernel
theorem dX12_spoiled_22 : decode cX12_spoiled 22 = .ok (.aload_n 0, 1) := by decide +kernel
theorem dX12_spoiled_23 : decode cX12_spoiled 23 = .ok (.getfield 286, 3) := by decide +kernel
theorem dX12_spoiled_26 : decode cX12_spoiled 26 = .ok (.iaload, 1) := by decide +kernel
theorem dX12_spoiled_27 : decode cX12_spoiled 27 = .ok (.if_icmp .lt 5, 3) := by decide +kernel
theorem dX12_spoiled_32 : decode cX12_spoiled 32 = .ok (.aload_n 0, 1) := by decide +kernel
theorem dX12_spoiled_33 : decode cX12_spoiled 33 = .ok (.iload_n 2, 1) := by decide +kernel
theorem dX12_spoiled_34 : decode cX12_spoiled 34 = .ok (.iload_n 1, 1) := by decide +kernel
theorem dX12_spoiled_35 : decode cX12_spoiled 35 = .ok (.invokevirtual 481, 3) := by decide +kernel
theorem dX12_spoiled_38 : decode cX12_spoiled 38 = .ok (.istore_n 3, 1) := by decide +kernel
theorem dX12_spoiled_39 : decode cX12_spoiled 39 = .ok (.iload_n 3, 1) := by decide +kernel
theorem dX12_spoiled_40 : decode cX12_spoiled 40 = .ok (.ifCond .lt 21, 3) := by decide +kernel
theorem dX12_spoiled_61 : decode cX12_spoiled 61 = .ok (.iconst 0, 1) := by decide +kernel
theorem dX12_spoiled_62 : decode cX12_spoiled 62 = .ok (.ireturn, 1) := by decide +kernel
theorem dX12_spoiled_43 : decode cX12_spoiled 43 = .ok (.aload_n 0, 1) := by decide +kernel
theorem dX12_spoiled_44 : decode cX12_spoiled 44 = .ok (.getfield 161, 3) := by decide +kernel
theorem dX12_spoiled_47 : decode cX12_spoiled 47 = .ok (.bipush 24, 2) := by decide +kernel
theorem dX12_spoiled_49 : decode cX12_spoiled 49 = .ok (.iload_n 3, 1) := by decide +kernel
theorem dX12_spoiled_50 : decode cX12_spoiled 50 = .ok (.imul, 1) := by decide +kernel
theorem dX12_spoiled_51 : decode cX12_spoiled 51 = .ok (.iload_n 2, 1) := by decide +kernel
theorem dX12_spoiled_52 : decode cX12_spoiled 52 = .ok (.iadd, 1) := by decide +kernel
theorem dX12_spoiled_53 : decode cX12_spoiled 53 = .ok (.baload, 1) := by decide +kernel
theorem dX12_spoiled_54 : decode cX12_spoiled 54 = .ok (.ifCond .eq 7, 3) := by decide +kernel
theorem dX12_spoiled_57 : decode cX12_spoiled 57 = .ok (.iconst 1, 1) := by decide +kernel
theorem dX12_spoiled_58 : decode cX12_spoiled 58 = .ok (.goto 4, 3) := by decide +kernel
theorem dX12_component_0 : decode cX12_component 0 = .ok (.aload_n 0, 1) := by decide +kernel
theorem dX12_component_1 : decode cX12_component 1 = .ok (.iload_n 1, 1) := by decide +kernel
theorem dX12_component_2 : decode cX12_component 2 = .ok (.ifCond .lt 29, 3) := by decide +kernel
theorem dX12_component_31 : decode cX12_component 31 = .ok (.iconst 1, 1) := by decide +kernel
theorem dX12_component_32 : decode cX12_component 32 = .ok (.putfield 1, 3) := by decide +kernel
theorem dX12_component_35 : decode cX12_component 35 = .ok (.aload_n 0, 1) := by decide +kernel
theorem dX12_component_36 : decode cX12_component 36 = .ok (.getfield 1, 3) := by decide +kernel
theorem dX12_component_39 : decode cX12_component 39 = .ok (.ifCond .le 5, 3) := by decide +kernel
theorem dX12_component_42 : decode cX12_component 42 = .ok (.iconst 0, 1) := by decide +kernel
theorem dX12_component_43 : decode cX12_component 43 = .ok (.ireturn, 1) := by decide +kernel
theorem dX12_component_5 : decode cX12_component 5 = .ok (.iload_n 1, 1) := by decide +kernel
theorem dX12_component_6 : decode cX12_component 6 = .ok (.aload_n 0, 1) := by decide +kernel
theorem dX12_component_7 : decode cX12_component 7 = .ok (.getfield 62, 3) := by decide +kernel
theorem dX12_component_10 : decode cX12_component 10 = .ok (.aload_n 0, 1) := by decide +kernel
theorem dX12_component_11 : decode cX12_component 11 = .ok (.getfield 286, 3) := by decide +kernel
theorem dX12_component_14 : decode cX12_component 14 = .ok (.iaload, 1) := by decide +kernel
theorem dX12_component_15 : decode cX12_component 15 = .ok (.if_icmp .ge 16, 3) := by decide +kernel
theorem dX12_component_18 : decode cX12_component 18 = .ok (.iload_n 2, 1) := by decide +kernel
theorem dX12_component_19 : decode cX12_component 19 = .ok (.ifCond .lt 12, 3) := by decide +kernel
theorem dX12_component_22 : decode cX12_component 22 = .ok (.iload_n 2, 1) := by decide +kernel
theorem dX12_component_23 : decode cX12_component 23 = .ok (.iconst 4, 1) := by decide +kernel
theorem dX12_component_24 : decode cX12_component 24 = .ok (.if_icmp .gt 7, 3) := by decide +kernel
theorem dX12_component_27 : decode cX12_component 27 = .ok (.iconst 0, 1) := by decide +kernel
theorem dX12_component_28 : decode cX12_component 28 = .ok (.goto 4, 3) := by decide +kernel
theorem dX12_component_44 : decode cX12_component 44 = .ok (.bipush 24, 2) := by decide +kernel
theorem dX12_component_46 : decode cX12_component 46 = .ok (.aload_n 0, 1) := by decide +kernel
theorem dX12_component_47 : decode cX12_component 47 = .ok (.getfield 286, 3) := by decide +kernel
theorem dX12_component_50 : decode cX12_component 50 = .ok (.imul, 1) := by decide +kernel
theorem dX12_component_51 : decode cX12_component 51 = .ok (.iload_n 1, 1) := by decide +kernel
theorem dX12_component_52 : decode cX12_component 52 = .ok (.iadd, 1) := by decide +kernel
theorem dX12_component_53 : decode cX12_component 53 = .ok (.istore_n 3, 1) := by decide +kernel
theorem dX12_component_54 : decode cX12_component 54 = .ok (.iload_n 2, 1) := by decide +kernel
theorem dX12_component_55 : decode cX12_component 55 = .ok (.ifCond .ne 12, 3) := by decide +kernel
theorem dX12_component_67 : decode cX12_component 67 = .ok (.iload_n 2, 1) := by decide +kernel
theorem dX12_component_68 : decode cX12_component 68 = .ok (.iconst 1, 1) := by decide +kernel
theorem dX12_component_69 : decode cX12_component 69 = .ok (.if_icmp .ne 12, 3) := by decide +kernel
theorem dX12_component_81 : decode cX12_component 81 = .ok (.iload_n 2, 1) := by decide +kernel
theorem dX12_component_82 : decode cX12_component 82 = .ok (.iconst 2, 1) := by decide +kernel
theorem dX12_component_83 : decode cX12_component 83 = .ok (.if_icmp .ne 19, 3) := by decide +kernel
theorem dX12_component_102 : decode cX12_component 102 = .ok (.iload_n 2, 1) := by decide +kernel
theorem dX12_component_103 : decode cX12_component 103 = .ok (.iconst 3, 1) := by decide +kernel
theorem dX12_component_104 : decode cX12_component 104 = .ok (.if_icmp .ne 12, 3) := by decide +kernel
theorem dX12_component_116 : decode cX12_component 116 = .ok (.aload_n 0, 1) := by decide +kernel
theorem dX12_component_117 : decode cX12_component 117 = .ok (.getfield 74, 3) := by decide +kernel
theorem dX12_component_120 : decode cX12_component 120 = .ok (.iload_n 3, 1) := by decide +kernel
theorem dX12_component_121 : decode cX12_component 121 = .ok (.iaload, 1) := by decide +kernel
theorem dX12_component_122 : decode cX12_component 122 = .ok (.ireturn, 1) := by decide +kernel
theorem dX12_component_107 : decode cX12_component 107 = .ok (.aload_n 0, 1) := by decide +kernel
theorem dX12_component_108 : decode cX12_component 108 = .ok (.getfield 86, 3) := by decide +kernel
theorem dX12_component_111 : decode cX12_component 111 = .ok (.iload_n 3, 1) := by decide +kernel
theorem dX12_component_112 : decode cX12_component 112 = .ok (.iaload, 1) := by decide +kernel
theorem dX12_component_113 : decode cX12_component 113 = .ok (.goto 9, 3) := by decide +kernel
theorem dX12_component_86 : decode cX12_component 86 = .ok (.aload_n 0, 1) := by decide +kernel
theorem dX12_component_87 : decode cX12_component 87 = .ok (.iload_n 1, 1) := by decide +kernel
theorem dX12_component_88 : decode cX12_component 88 = .ok (.invokevirtual 438, 3) := by decide +kernel
theorem dX12_component_91 : decode cX12_component 91 = .ok (.ifCond .eq 7, 3) := by decide +kernel
theorem dX12_component_98 : decode cX12_component 98 = .ok (.iconst 0, 1) := by decide +kernel
theorem dX12_component_99 : decode cX12_component 99 = .ok (.goto 23, 3) := by decide +kernel
theorem dX12_component_94 : decode cX12_component 94 = .ok (.iconst 1, 1) := by decide +kernel
theorem dX12_component_95 : decode cX12_component 95 = .ok (.goto 27, 3) := by decide +kernel
theorem dX12_component_72 : decode cX12_component 72 = .ok (.aload_n 0, 1) := by decide +kernel
theorem dX12_component_73 : decode cX12_component 73 = .ok (.getfield 77, 3) := by decide +kernel
theorem dX12_component_76 : decode cX12_component 76 = .ok (.iload_n 3, 1) := by decide +kernel
theorem dX12_component_77 : decode cX12_component 77 = .ok (.iaload, 1) := by decide +kernel
theorem dX12_component_78 : decode cX12_component 78 = .ok (.goto 44, 3) := by decide +kernel
theorem dX12_component_58 : decode cX12_component 58 = .ok (.aload_n 0, 1) := by decide +kernel
theorem dX12_component_59 : decode cX12_component 59 = .ok (.getfield 71, 3) := by decide +kernel
theorem dX12_component_62 : decode cX12_component 62 = .ok (.iload_n 3, 1) := by decide +kernel
theorem dX12_component_63 : decode cX12_component 63 = .ok (.iaload, 1) := by decide +kernel
theorem dX12_component_64 : decode cX12_component 64 = .ok (.goto 58, 3) := by decide +kernel
theorem dX12_count_0 : decode cX12_count 0 = .ok (.aload_n 0, 1) := by decide +kernel
theorem dX12_count_1 : decode cX12_count 1 = .ok (.iconst 0, 1) := by decide +kernel
theorem dX12_count_2 : decode cX12_count 2 = .ok (.putfield 1, 3) := by decide +kernel
theorem dX12_count_5 : decode cX12_count 5 = .ok (.iconst 0, 1) := by decide +kernel
theorem dX12_count_6 : decode cX12_count 6 = .ok (.istore_n 2, 1) := by decide +kernel
theorem dX12_count_7 : decode cX12_count 7 = .ok (.iconst 0, 1) := by decide +kernel
theorem dX12_count_8 : decode cX12_count 8 = .ok (.istore_n 3, 1) := by decide +kernel
theorem dX12_count_9 : decode cX12_count 9 = .ok (.iconst 0, 1) := by decide +kernel
theorem dX12_count_10 : decode cX12_count 10 = .ok (.istore 4, 2) := by decide +kernel
theorem dX12_count_12 : decode cX12_count 12 = .ok (.iload 4, 2) := by decide +kernel
theorem dX12_count_14 : decode cX12_count 14 = .ok (.aload_n 0, 1) := by decide +kernel
theorem dX12_count_15 : decode cX12_count 15 = .ok (.getfield 244, 3) := by decide +kernel
theorem dX12_count_18 : decode cX12_count 18 = .ok (.if_icmp .ge 27, 3) := by decide +kernel
theorem dX12_count_21 : decode cX12_count 21 = .ok (.iload_n 2, 1) := by decide +kernel
theorem dX12_count_22 : decode cX12_count 22 = .ok (.aload_n 0, 1) := by decide +kernel
theorem dX12_count_23 : decode cX12_count 23 = .ok (.getfield 152, 3) := by decide +kernel
theorem dX12_count_26 : decode cX12_count 26 = .ok (.iload 4, 2) := by decide +kernel
theorem dX12_count_28 : decode cX12_count 28 = .ok (.baload, 1) := by decide +kernel
theorem dX12_count_29 : decode cX12_count 29 = .ok (.ifCond .eq 7, 3) := by decide +kernel
theorem dX12_count_36 : decode cX12_count 36 = .ok (.iconst 0, 1) := by decide +kernel
theorem dX12_count_37 : decode cX12_count 37 = .ok (.iadd, 1) := by decide +kernel
theorem dX12_count_38 : decode cX12_count 38 = .ok (.istore_n 2, 1) := by decide +kernel
theorem dX12_count_39 : decode cX12_count 39 = .ok (.iinc 4 1, 3) := by decide +kernel
theorem dX12_count_42 : decode cX12_count 42 = .ok (.goto (-30), 3) := by decide +kernel
theorem dX12_count_32 : decode cX12_count 32 = .ok (.iconst 1, 1) := by decide +kernel
theorem dX12_count_33 : decode cX12_count 33 = .ok (.goto 4, 3) := by decide +kernel
theorem dX12_count_45 : decode cX12_count 45 = .ok (.iconst 0, 1) := by decide +kernel
theorem dX12_count_46 : decode cX12_count 46 = .ok (.istore 4, 2) := by decide +kernel
theorem dX12_count_48 : decode cX12_count 48 = .ok (.iload 4, 2) := by decide +kernel
theorem dX12_count_50 : decode cX12_count 50 = .ok (.aload_n 0, 1) := by decide +kernel
theorem dX12_count_51 : decode cX12_count 51 = .ok (.getfield 411, 3) := by decide +kernel
theorem dX12_count_54 : decode cX12_count 54 = .ok (.if_icmp .ge 28, 3) := by decide +kernel
theorem dX12_count_57 : decode cX12_count 57 = .ok (.iload_n 3, 1) := by decide +kernel
theorem dX12_count_58 : decode cX12_count 58 = .ok (.aload_n 0, 1) := by decide +kernel
theorem dX12_count_59 : decode cX12_count 59 = .ok (.getfield 170, 3) := by decide +kernel
theorem dX12_count_62 : decode cX12_count 62 = .ok (.iload 4, 2) := by decide +kernel
theorem dX12_count_64 : decode cX12_count 64 = .ok (.iaload, 1) := by decide +kernel
theorem dX12_count_65 : decode cX12_count 65 = .ok (.iconst 1, 1) := by decide +kernel
theorem dX12_count_66 : decode cX12_count 66 = .ok (.if_icmp .ne 7, 3) := by decide +kernel
theorem dX12_count_73 : decode cX12_count 73 = .ok (.iconst 0, 1) := by decide +kernel
theorem dX12_count_74 : decode cX12_count 74 = .ok (.iadd, 1) := by decide +kernel
theorem dX12_count_75 : decode cX12_count 75 = .ok (.istore_n 3, 1) := by decide +kernel
theorem dX12_count_76 : decode cX12_count 76 = .ok (.iinc 4 1, 3) := by decide +kernel
theorem dX12_count_79 : decode cX12_count 79 = .ok (.goto (-31), 3) := by decide +kernel
theorem dX12_count_69 : decode cX12_count 69 = .ok (.iconst 1, 1) := by decide +kernel
theorem dX12_count_70 : decode cX12_count 70 = .ok (.goto 4, 3) := by decide +kernel
theorem dX12_count_82 : decode cX12_count 82 = .ok (.iload_n 1, 1) := by decide +kernel
theorem dX12_count_83 : decode cX12_count 83 = .ok (.tableswitch 157 0 12 #[65, 75, 85, 95, 105, 115, 117, 122, 124, 137, 142, 147, 152], 65) := by decide +kernel
theorem dX12_count_148 : decode cX12_count 148 = .ok (.aload_n 0, 1) := by decide +kernel
theorem dX12_count_149 : decode cX12_count 149 = .ok (.getfield 43, 3) := by decide +kernel
theorem dX12_count_152 : decode cX12_count 152 = .ok (.aload_n 0, 1) := by decide +kernel
theorem dX12_count_153 : decode cX12_count 153 = .ok (.getfield 286, 3) := by decide +kernel
theorem dX12_count_156 : decode cX12_count 156 = .ok (.iaload, 1) := by decide +kernel
theorem dX12_count_157 : decode cX12_count 157 = .ok (.ireturn, 1) := by decide +kernel
theorem dX12_count_158 : decode cX12_count 158 = .ok (.aload_n 0, 1) := by decide +kernel
theorem dX12_count_159 : decode cX12_count 159 = .ok (.getfield 53, 3) := by decide +kernel
theorem dX12_count_162 : decode cX12_count 162 = .ok (.aload_n 0, 1) := by decide +kernel
theorem dX12_count_163 : decode cX12_count 163 = .ok (.getfield 286, 3) := by decide +kernel
theorem dX12_count_166 : decode cX12_count 166 = .ok (.iaload, 1) := by decide +kernel
theorem dX12_count_167 : decode cX12_count 167 = .ok (.ireturn, 1) := by decide +kernel
theorem dX12_count_168 : decode cX12_count 168 = .ok (.aload_n 0, 1) := by decide +kernel
theorem dX12_count_169 : decode cX12_count 169 = .ok (.getfield 62, 3) := by decide +kernel
theorem dX12_count_172 : decode cX12_count 172 = .ok (.aload_n 0, 1) := by decide +kernel
theorem dX12_count_173 : decode cX12_count 173 = .ok (.getfield 286, 3) := by decide +kernel
theorem dX12_count_176 : decode cX12_count 176 = .ok (.iaload, 1) := by decide +kernel
theorem dX12_count_177 : decode cX12_count 177 = .ok (.ireturn, 1) := by decide +kernel
theorem dX12_count_178 : decode cX12_count 178 = .ok (.aload_n 0, 1) := by decide +kernel
theorem dX12_count_179 : decode cX12_count 179 = .ok (.getfield 110, 3) := by decide +kernel
theorem dX12_count_182 : decode cX12_count 182 = .ok (.aload_n 0, 1) := by decide +kernel
theorem dX12_count_183 : decode cX12_count 183 = .ok (.getfield 286, 3) := by decide +kernel
theorem dX12_count_186 : decode cX12_count 186 = .ok (.iaload, 1) := by decide +kernel
theorem dX12_count_187 : decode cX12_count 187 = .ok (.ireturn, 1) := by decide +kernel
theorem dX12_count_188 : decode cX12_count 188 = .ok (.aload_n 0, 1) := by decide +kernel
theorem dX12_count_189 : decode cX12_count 189 = .ok (.getfield 122, 3) := by decide +kernel
theorem dX12_count_192 : decode cX12_count 192 = .ok (.aload_n 0, 1) := by decide +kernel
theorem dX12_count_193 : decode cX12_count 193 = .ok (.getfield 286, 3) := by decide +kernel
theorem dX12_count_196 : decode cX12_count 196 = .ok (.iaload, 1) := by decide +kernel
theorem dX12_count_197 : decode cX12_count 197 = .ok (.ireturn, 1) := by decide +kernel
theorem dX12_count_198 : decode cX12_count 198 = .ok (.iload_n 2, 1) := by decide +kernel
theorem dX12_count_199 : decode cX12_count 199 = .ok (.ireturn, 1) := by decide +kernel
theorem dX12_count_200 : decode cX12_count 200 = .ok (.aload_n 0, 1) := by decide +kernel
theorem dX12_count_201 : decode cX12_count 201 = .ok (.getfield 411, 3) := by decide +kernel
theorem dX12_count_204 : decode cX12_count 204 = .ok (.ireturn, 1) := by decide +kernel
theorem dX12_count_205 : decode cX12_count 205 = .ok (.iload_n 3, 1) := by decide +kernel
theorem dX12_count_206 : decode cX12_count 206 = .ok (.ireturn, 1) := by decide +kernel
theorem dX12_count_207 : decode cX12_count 207 = .ok (.aload_n 0, 1) := by decide +kernel
theorem dX12_count_208 : decode cX12_count 208 = .ok (.getfield 408, 3) := by decide +kernel
theorem dX12_count_211 : decode cX12_count 211 = .ok (.ifCond .eq 7, 3) := by decide +kernel
theorem dX12_count_218 : decode cX12_count 218 = .ok (.iconst 0, 1) := by decide +kernel
theorem dX12_count_219 : decode cX12_count 219 = .ok (.ireturn, 1) := by decide +kernel
theorem dX12_count_214 : decode cX12_count 214 = .ok (.iconst 1, 1) := by decide +kernel
theorem dX12_count_215 : decode cX12_count 215 = .ok (.goto 4, 3) := by decide +kernel
theorem dX12_count_220 : decode cX12_count 220 = .ok (.aload_n 0, 1) := by decide +kernel
theorem dX12_count_221 : decode cX12_count 221 = .ok (.getfield 477, 3) := by decide +kernel
theorem dX12_count_224 : decode cX12_count 224 = .ok (.ireturn, 1) := by decide +kernel
theorem dX12_count_225 : decode cX12_count 225 = .ok (.aload_n 0, 1) := by decide +kernel
theorem dX12_count_226 : decode cX12_count 226 = .ok (.getfield 432, 3) := by decide +kernel
theorem dX12_count_229 : decode cX12_count 229 = .ok (.ireturn, 1) := by decide +kernel
theorem dX12_count_230 : decode cX12_count 230 = .ok (.aload_n 0, 1) := by decide +kernel
theorem dX12_count_231 : decode cX12_count 231 = .ok (.getfield 435, 3) := by decide +kernel
theorem dX12_count_234 : decode cX12_count 234 = .ok (.ireturn, 1) := by decide +kernel
theorem dX12_count_235 : decode cX12_count 235 = .ok (.aload_n 0, 1) := by decide +kernel
theorem dX12_count_236 : decode cX12_count 236 = .ok (.getfield 11, 3) := by decide +kernel
theorem dX12_count_239 : decode cX12_count 239 = .ok (.ireturn, 1) := by decide +kernel
theorem dX12_count_240 : decode cX12_count 240 = .ok (.iconst (-1), 1) := by decide +kernel
theorem dX12_count_241 : decode cX12_count 241 = .ok (.ireturn, 1) := by decide +kernel
theorem dX12_notes_0 : decode cX12_notes 0 = .ok (.aload_n 0, 1) := by decide +kernel
theorem dX12_notes_1 : decode cX12_notes 1 = .ok (.getfield 420, 3) := by decide +kernel
theorem dX12_notes_4 : decode cX12_notes 4 = .ok (.bipush 100, 2) := by decide +kernel
theorem dX12_notes_6 : decode cX12_notes 6 = .ok (.if_icmp .ge 33, 3) := by decide +kernel
theorem dX12_notes_9 : decode cX12_notes 9 = .ok (.aload_n 0, 1) := by decide +kernel
theorem dX12_notes_10 : decode cX12_notes 10 = .ok (.getfield 189, 3) := by decide +kernel
theorem dX12_notes_13 : decode cX12_notes 13 = .ok (.aload_n 0, 1) := by decide +kernel
theorem dX12_notes_14 : decode cX12_notes 14 = .ok (.getfield 420, 3) := by decide +kernel
theorem dX12_notes_17 : decode cX12_notes 17 = .ok (.iload_n 1, 1) := by decide +kernel
theorem dX12_notes_18 : decode cX12_notes 18 = .ok (.iastore, 1) := by decide +kernel
theorem dX12_notes_19 : decode cX12_notes 19 = .ok (.aload_n 0, 1) := by decide +kernel
theorem dX12_notes_20 : decode cX12_notes 20 = .ok (.getfield 192, 3) := by decide +kernel
theorem dX12_notes_23 : decode cX12_notes 23 = .ok (.aload_n 0, 1) := by decide +kernel
theorem dX12_notes_24 : decode cX12_notes 24 = .ok (.getfield 420, 3) := by decide +kernel
theorem dX12_notes_27 : decode cX12_notes 27 = .ok (.iload_n 2, 1) := by decide +kernel
theorem dX12_notes_28 : decode cX12_notes 28 = .ok (.iastore, 1) := by decide +kernel
theorem dX12_notes_29 : decode cX12_notes 29 = .ok (.aload_n 0, 1) := by decide +kernel
theorem dX12_notes_30 : decode cX12_notes 30 = .ok (.getfield 195, 3) := by decide +kernel
theorem dX12_notes_33 : decode cX12_notes 33 = .ok (.aload_n 0, 1) := by decide +kernel
theorem dX12_notes_34 : decode cX12_notes 34 = .ok (.getfield 420, 3) := by decide +kernel
theorem dX12_notes_37 : decode cX12_notes 37 = .ok (.iload_n 3, 1) := by decide +kernel
theorem dX12_notes_38 : decode cX12_notes 38 = .ok (.iastore, 1) := by decide +kernel
theorem dX12_notes_39 : decode cX12_notes 39 = .ok (.aload_n 0, 1) := by decide +kernel
theorem dX12_notes_40 : decode cX12_notes 40 = .ok (.dup, 1) := by decide +kernel
theorem dX12_notes_41 : decode cX12_notes 41 = .ok (.getfield 420, 3) := by decide +kernel
theorem dX12_notes_44 : decode cX12_notes 44 = .ok (.iconst 1, 1) := by decide +kernel
theorem dX12_notes_45 : decode cX12_notes 45 = .ok (.iadd, 1) := by decide +kernel
theorem dX12_notes_46 : decode cX12_notes 46 = .ok (.putfield 420, 3) := by decide +kernel
theorem dX12_notes_49 : decode cX12_notes 49 = .ok (.return_, 1) := by decide +kernel
abbrev r_s_forget : Room := { frames := 0, cells := 0, slots := 0, locals := 0 }
abbrev q_s_forget (D : va_G) (ks : KS) (ad : Nat → Nat) (kk : Nat → ClassId) (V : Vf) (L : Lf) (A : Nat → Prop) : Array Value → State → Outcome → State → Prop := va_Qv (fun (u : Vf × Lf) => rgd bM u.1 ∧ agr [(0, 54), (0, 55), (0, 60), (0, 65), (0, 69), (0, 70), (0, 71), (0, 72), (0, 73), (0, 76), (0, 81)] [56, 57, 59] V u.1 ∧ u.2 = L) (fun u t => gq D A (mw ad kk ks.1 u.1 u.2) (mty kk) t) A
abbrev r_s_isThere : Room := { frames := 0, cells := 0, slots := 0, locals := 0 }
abbrev q_s_isThere (D : va_G) (ks : KS) (ad : Nat → Nat) (kk : Nat → ClassId) (V : Vf) (L : Lf) (p0 : Int32) (A : Nat → Prop) : Array Value → State → Outcome → State → Prop := va_Qi (fun (r : Int32) (_ : Unit) => (0 ≤ r.toInt ∧ r.toInt ≤ 1) ∧ (Imp (r.toInt = 1) (0 ≤ p0.toInt ∧ p0.toInt ≤ 23))) (fun _ t => gq D A (mw ad kk ks.1 V L) (mty kk) t) A
set_option maxHeartbeats 4000000 in
set_option maxRecDepth 100000 in
theorem s_isThere (l : Launch) (D : va_G) (ks : KS) (sz : Nat) (ad : Nat → Nat) (kk : Nat → ClassId) (V : Vf) (L : Lf) (p0 : Int32) (hMV : rgd bM V)  : Met l yX12_isThere (Cond.code yX12_isThere cX12_isThere 3 (some .boolean) :: GW) r_s_isThere (va_Pc [.ref (ad 0), .int p0] (gp D ks (mw ad kk ks.1 V L) (mty kk) sz)) (q_s_isThere D ks ad kk V L p0 (va_A (mw ad kk ks.1 V L) sz)) 0 0 (va_A (mw ad kk ks.1 V L) sz) := by
  refine g_met (q_s_isThere D ks ad kk V L p0) (by decide) (Nat.le_of_ble_eq_true rfl) ?_
  intro p e s m below meth c A ls H locs hx hb hr hml hown hg hlocks hin hnw hgk hP hK hD hS hA hl
  replace hown : s.vm.findClass RX12 = some m.cls := hown
  replace hl : lv_has ls 3 [(0, .ref (ad 0)), (1, .int p0)] := hl
  replace hP : va_P D vwCl (mw ad kk ks.1 V L) H := hP
  replace hD : va_D A (mw ad kk ks.1 V L) := hD
  replace hK : va_K D vwCl (mty kk) s := hK
  refine lv_bipush (v := 24) hx hb dX12_isThere_0 (by decide) ?_
  refine lv_aload_n hx hb dX12_isThere_2 rfl (lv_at hl 0 rfl) ?_
  refine va_get (D := D) (ci := 12) (v := .int (V 0 11)) (C := RX12) (T := TX12) (N := 100) hx hb hg inX12 hown hK hP 0 rfl rfl 11 (by decide) (hg _ w1717) (fun _ h9 => h9) rfl dX12_isThere_3 ?_
  have r1 : 0 ≤ ((V 0 11)).toInt ∧ ((V 0 11)).toInt ≤ 1 := hMV 0 11
  refine lv_imul hx hb dX12_isThere_6 ?_
  refine lv_topi (fun z2 ez2 => ?_)
  have hz2 : z2.toInt = 24 * ((V 0 11)).toInt := i_mul ez2 (by decide) rfl (by omega)
  refine lv_iload_n hx hb dX12_isThere_7 rfl (lv_at hl 1 rfl) ?_
  refine lv_iadd hx hb dX12_isThere_8 ?_
  have r3 := i_full p0
  refine lv_topi (fun z4 ez4 => ?_)
  have hz4 : Imp (-2147483648 ≤ z2.toInt + p0.toInt ∧ z2.toInt + p0.toInt ≤ 2147483647) (z4.toInt = z2.toInt + p0.toInt) := Imp.mk (fun hp => i_add ez4 rfl rfl hp)
  refine lv_istore_n (lv' := [(2, .int z4), (0, .ref (ad 0)), (1, .int p0)]) hx hb dX12_isThere_9 rfl hl (by decide) rfl (fun ls hl => ?_)
  refine lv_iload_n hx hb dX12_isThere_10 rfl (lv_at hl 2 rfl) ?_
  refine lv_if_lt (tgt := 68) hx hb dX12_isThere_11 (by decide) (fun c5 => ?_) (fun c5 => ?_)
  · skip
    have f6 : p0.toInt < 0 := b_lt rfl (by decide) c5
    refine lv_iconst (v := 0) hx hb dX12_isThere_68 (by decide) ?_
    exact W.zret (v := 0) hx hb hr rfl (fun t ht hW => ⟨⟨0, (), rfl, ⟨(by decide), (Imp.mk (fun hp => absurd hp (by decide)))⟩, by rw [ht]; exact hP, va_K.moved hW.alike hK, hD⟩, hS.F ht⟩) hS.2.2 dX12_isThere_69
  · skip
    have f7 : 0 ≤ p0.toInt := b_nlt rfl (by decide) c5
    refine lv_iload_n hx hb dX12_isThere_14 rfl (lv_at hl 2 rfl) ?_
    refine lv_aload_n hx hb dX12_isThere_15 rfl (lv_at hl 1 rfl) ?_
    refine va_get (D := D) (ci := 12) (v := .ref (ad 19)) (C := RX12) (T := TX12) (N := 100) hx hb hg inX12 hown hK hP 0 rfl rfl 19 (by decide) (hg _ w1725) (fun _ h9 => h9) rfl dX12_isThere_16 ?_
    refine lv_aload_n hx hb dX12_isThere_19 rfl (lv_at hl 1 rfl) ?_
    refine va_get (D := D) (ci := 12) (v := .int (V 0 11)) (C := RX12) (T := TX12) (N := 100) hx hb hg inX12 hown hK hP 0 rfl rfl 11 (by decide) (hg _ w1717) (fun _ h9 => h9) rfl dX12_isThere_20 ?_
    refine va_iald (D := D) (i := (V 0 11)) hx hb hK hP 12 11 rfl rfl (i_in (a := ((V 0 11)).toInt) rfl (by first | omega | ((try (have i_hz4 := Imp.go hz4 (by omega))); omega))) dX12_isThere_23 ?_
    have r8 : 0 ≤ ((V 19 (Int32.toNatClampNeg (V 0 11)))).toInt ∧ ((V 19 (Int32.toNatClampNeg (V 0 11)))).toInt ≤ 24 := hMV 19 (Int32.toNatClampNeg (V 0 11))
    refine lv_icmp_ge (tgt := 68) hx hb dX12_isThere_24 (by decide) (fun c9 => ?_) (fun c9 => ?_)
    · skip
      have f10 : ((V 19 (Int32.toNatClampNeg (V 0 11)))).toInt ≤ p0.toInt := b_le rfl rfl c9
      refine lv_iconst (v := 0) hx hb dX12_isThere_68 (by decide) ?_
      exact W.zret (v := 0) hx hb hr rfl (fun t ht hW => ⟨⟨0, (), rfl, ⟨(by decide), (Imp.mk (fun hp => absurd hp (by decide)))⟩, by rw [ht]; exact hP, va_K.moved hW.alike hK, hD⟩, hS.F ht⟩) hS.2.2 dX12_isThere_69
    · skip
      have f11 : p0.toInt < ((V 19 (Int32.toNatClampNeg (V 0 11)))).toInt := b_nle rfl rfl c9
      refine lv_aload_n hx hb dX12_isThere_27 rfl (lv_at hl 1 rfl) ?_
      refine va_get (D := D) (ci := 12) (v := .ref (ad 25)) (C := RX12) (T := TX12) (N := 100) hx hb hg inX12 hown hK hP 0 rfl rfl 25 (by decide) (hg _ w1731) (fun _ h9 => h9) rfl dX12_isThere_28 ?_
      refine lv_iload_n hx hb dX12_isThere_31 rfl (lv_at hl 0 rfl) ?_
      refine va_iald (D := D) (i := z4) hx hb hK hP 18 17 rfl rfl (i_in (a := z4.toInt) rfl (by first | omega | ((try (have i_hz4 := Imp.go hz4 (by omega))); omega))) dX12_isThere_32 ?_
      have r12 : (-1) ≤ ((V 25 (Int32.toNatClampNeg z4))).toInt ∧ ((V 25 (Int32.toNatClampNeg z4))).toInt ≤ 11 := hMV 25 (Int32.toNatClampNeg z4)
      refine lv_if_lt (tgt := 64) hx hb dX12_isThere_33 (by decide) (fun c13 => ?_) (fun c13 => ?_)
      · skip
        have f14 : ((V 25 (Int32.toNatClampNeg z4))).toInt < 0 := b_lt rfl (by decide) c13
        refine lv_iconst (v := 1) hx hb dX12_isThere_64 (by decide) ?_
        refine lv_goto (tgt := 69) hx hb dX12_isThere_65 (by decide) ?_
        exact W.zret (v := 1) hx hb hr rfl (fun t ht hW => ⟨⟨1, (), rfl, ⟨(by decide), (Imp.mk (fun _ => (show 0 ≤ p0.toInt ∧ p0.toInt ≤ 23 from by first | omega | ((try (have i_hz4 := Imp.go hz4 (by omega))); omega))))⟩, by rw [ht]; exact hP, va_K.moved hW.alike hK, hD⟩, hS.F ht⟩) hS.2.2 dX12_isThere_69
      · skip
        have f15 : 0 ≤ ((V 25 (Int32.toNatClampNeg z4))).toInt := b_nlt rfl (by decide) c13
        refine lv_aload_n hx hb dX12_isThere_36 rfl (lv_at hl 1 rfl) ?_
        refine va_get (D := D) (ci := 12) (v := .ref (ad 18)) (C := RX12) (T := TX12) (N := 100) hx hb hg inX12 hown hK hP 0 rfl rfl 18 (by decide) (hg _ w1724) (fun _ h9 => h9) rfl dX12_isThere_37 ?_
        refine lv_bipush (v := 12) hx hb dX12_isThere_40 (by decide) ?_
        refine lv_aload_n hx hb dX12_isThere_42 rfl (lv_at hl 1 rfl) ?_
        refine va_get (D := D) (ci := 12) (v := .int (V 0 11)) (C := RX12) (T := TX12) (N := 100) hx hb hg inX12 hown hK hP 0 rfl rfl 11 (by decide) (hg _ w1717) (fun _ h9 => h9) rfl dX12_isThere_43 ?_
        refine lv_imul hx hb dX12_isThere_46 ?_
        refine lv_topi (fun z16 ez16 => ?_)
        have hz16 : z16.toInt = 12 * ((V 0 11)).toInt := i_mul ez16 (by decide) rfl (by omega)
        refine lv_aload_n hx hb dX12_isThere_47 rfl (lv_at hl 1 rfl) ?_
        refine va_get (D := D) (ci := 12) (v := .ref (ad 25)) (C := RX12) (T := TX12) (N := 100) hx hb hg inX12 hown hK hP 0 rfl rfl 25 (by decide) (hg _ w1731) (fun _ h9 => h9) rfl dX12_isThere_48 ?_
        refine lv_iload_n hx hb dX12_isThere_51 rfl (lv_at hl 0 rfl) ?_
        refine va_iald (D := D) (i := z4) hx hb hK hP 18 17 rfl rfl (i_in (a := z4.toInt) rfl (by first | omega | ((try (have i_hz4 := Imp.go hz4 (by omega))); omega))) dX12_isThere_52 ?_
        refine lv_iadd hx hb dX12_isThere_53 ?_
        refine lv_topi (fun z17 ez17 => ?_)
        have hz17 : z17.toInt = z16.toInt + ((V 25 (Int32.toNatClampNeg z4))).toInt := i_add ez17 rfl rfl (by omega)
        refine va_iald (D := D) (i := z17) hx hb hK hP 11 10 rfl rfl (i_in (a := z17.toInt) rfl (by first | omega | ((try (have i_hz4 := Imp.go hz4 (by omega))); omega))) dX12_isThere_54 ?_
        refine lv_aload_n hx hb dX12_isThere_55 rfl (lv_at hl 1 rfl) ?_
        refine va_get (D := D) (ci := 12) (v := .ref (ad 26)) (C := RX12) (T := TX12) (N := 100) hx hb hg inX12 hown hK hP 0 rfl rfl 26 (by decide) (hg _ w1732) (fun _ h9 => h9) rfl dX12_isThere_56 ?_
        refine lv_iload_n hx hb dX12_isThere_59 rfl (lv_at hl 0 rfl) ?_
        refine va_iald (D := D) (i := z4) hx hb hK hP 19 18 rfl rfl (i_in (a := z4.toInt) rfl (by first | omega | ((try (have i_hz4 := Imp.go hz4 (by omega))); omega))) dX12_isThere_60 ?_
        refine lv_icmp_ne (tgt := 68) hx hb dX12_isThere_61 (by decide) (fun c18 => ?_) (fun c18 => ?_)
        · skip
          have f19 : ((V 18 (Int32.toNatClampNeg z17))).toInt ≠ ((V 26 (Int32.toNatClampNeg z4))).toInt := b_neq rfl rfl c18
          refine lv_iconst (v := 0) hx hb dX12_isThere_68 (by decide) ?_
          exact W.zret (v := 0) hx hb hr rfl (fun t ht hW => ⟨⟨0, (), rfl, ⟨(by decide), (Imp.mk (fun hp => absurd hp (by decide)))⟩, by rw [ht]; exact hP, va_K.moved hW.alike hK, hD⟩, hS.F ht⟩) hS.2.2 dX12_isThere_69
        · skip
          have f20 : ((V 18 (Int32.toNatClampNeg z17))).toInt = ((V 26 (Int32.toNatClampNeg z4))).toInt := b_eq rfl rfl c18
          refine lv_iconst (v := 1) hx hb dX12_isThere_64 (by decide) ?_
          refine lv_goto (tgt := 69) hx hb dX12_isThere_65 (by decide) ?_
          exact W.zret (v := 1) hx hb hr rfl (fun t ht hW => ⟨⟨1, (), rfl, ⟨(by decide), (Imp.mk (fun _ => (show 0 ≤ p0.toInt ∧ p0.toInt ≤ 23 from by first | omega | ((try (have i_hz4 := Imp.go hz4 (by omega))); omega))))⟩, by rw [ht]; exact hP, va_K.moved hW.alike hK, hD⟩, hS.F ht⟩) hS.2.2 dX12_isThere_69
abbrev r_s_placeOf : Room := { frames := 0, cells := 0, slots := 0, locals := 0 }
abbrev q_s_placeOf (D : va_G) (ks : KS) (ad : Nat → Nat) (kk : Nat → ClassId) (V : Vf) (L : Lf) (p0 : Int32) (p1 : Int32) (A : Nat → Prop) : Array Value → State → Outcome → State → Prop := va_Qi (fun (r : Int32) (_ : Unit) => ((-1) ≤ r.toInt ∧ r.toInt ≤ 39)) (fun _ t => gq D A (mw ad kk ks.1 V L) (mty kk) t) A
abbrev r_s_objectAt : Room := { frames := 0, cells := 0, slots := 0, locals := 0 }
abbrev q_s_objectAt (D : va_G) (ks : KS) (ad : Nat → Nat) (kk : Nat → ClassId) (V : Vf) (L : Lf) (p0 : Int32) (p1 : Int32) (A : Nat → Prop) : Array Value → State → Outcome → State → Prop := va_Qi (fun (r : Int32) (_ : Unit) => ((-1) ≤ r.toInt ∧ r.toInt ≤ 299) ∧ (r.toInt < (V 0 60).toInt)) (fun _ t => gq D A (mw ad kk ks.1 V L) (mty kk) t) A
abbrev r_s_latestIn : Room := { frames := 0, cells := 0, slots := 0, locals := 0 }
abbrev q_s_latestIn (D : va_G) (ks : KS) (ad : Nat → Nat) (kk : Nat → ClassId) (V : Vf) (L : Lf) (p0 : Int32) (A : Nat → Prop) : Array Value → State → Outcome → State → Prop := va_Qi (fun (r : Int32) (_ : Unit) => ((-1) ≤ r.toInt ∧ r.toInt ≤ 299) ∧ (r.toInt < (V 0 60).toInt)) (fun _ t => gq D A (mw ad kk ks.1 V L) (mty kk) t) A
abbrev r_s_isScope : Room := { frames := 0, cells := 0, slots := 0, locals := 0 }
abbrev q_s_isScope (D : va_G) (ks : KS) (ad : Nat → Nat) (kk : Nat → ClassId) (V : Vf) (L : Lf) (p0 : Int32) (A : Nat → Prop) : Array Value → State → Outcome → State → Prop := va_Qi (fun (r : Int32) (_ : Unit) => (0 ≤ r.toInt ∧ r.toInt ≤ 1) ∧ (Imp (r.toInt = 1) (0 ≤ p0.toInt ∧ p0.toInt < (V 0 55).toInt))) (fun _ t => gq D A (mw ad kk ks.1 V L) (mty kk) t) A
abbrev r_s_setting : Room := { frames := 0, cells := 0, slots := 0, locals := 0 }
abbrev q_s_setting (D : va_G) (ks : KS) (ad : Nat → Nat) (kk : Nat → ClassId) (V : Vf) (L : Lf) (p0 : Int32) (p1 : Int32) (A : Nat → Prop) : Array Value → State → Outcome → State → Prop := va_Qi (fun (r : Int32) (u : Vf × Lf) => rgd bM u.1 ∧ agr [(0, 0)] [18] V u.1 ∧ u.2 = L ∧ (0 ≤ r.toInt ∧ r.toInt ≤ 1)) (fun u t => gq D A (mw ad kk ks.1 u.1 u.2) (mty kk) t) A
abbrev r_s_scope : Room := { frames := 0, cells := 0, slots := 0, locals := 0 }
abbrev q_s_scope (D : va_G) (ks : KS) (ad : Nat → Nat) (kk : Nat → ClassId) (V : Vf) (L : Lf) (p0 : Int32) (p1 : Int32) (A : Nat → Prop) : Array Value → State → Outcome → State → Prop := va_Qi (fun (r : Int32) (u : Vf × Lf) => rgd bM u.1 ∧ agr [(0, 55)] [56, 57, 58, 59] V u.1 ∧ u.2 = L ∧ ((-1) ≤ r.toInt ∧ r.toInt ≤ 39)) (fun u t => gq D A (mw ad kk ks.1 u.1 u.2) (mty kk) t) A
abbrev r_s_day : Room := { frames := 1, cells := 0, slots := 0, locals := 23 }
abbrev q_s_day (D : va_G) (ks : KS) (ad : Nat → Nat) (kk : Nat → ClassId) (V : Vf) (L : Lf) (A : Nat → Prop) : Array Value → State → Outcome → State → Prop := va_Qi (fun (r : Int32) (u : Vf × Lf) => rgd bM u.1 ∧ agr [(0, 0), (0, 55)] [56, 57, 58, 59] V u.1 ∧ u.2 = L) (fun u t => gq D A (mw ad kk ks.1 u.1 u.2) (mty kk) t) A
abbrev r_s_meal : Room := { frames := 1, cells := 0, slots := 0, locals := 23 }
abbrev q_s_meal (D : va_G) (ks : KS) (ad : Nat → Nat) (kk : Nat → ClassId) (V : Vf) (L : Lf) (p0 : Int32) (A : Nat → Prop) : Array Value → State → Outcome → State → Prop := va_Qi (fun (r : Int32) (u : Vf × Lf) => rgd bM u.1 ∧ agr [(0, 0), (0, 55)] [56, 57, 58, 59] V u.1 ∧ u.2 = L) (fun u t => gq D A (mw ad kk ks.1 u.1 u.2) (mty kk) t) A
abbrev r_s_begins0 : Room := { frames := 0, cells := 0, slots := 0, locals := 0 }
abbrev q_s_begins0 (D : va_G) (ks : KS) (ad : Nat → Nat) (kk : Nat → ClassId) (V : Vf) (L : Lf) (A : Nat → Prop) : Array Value → State → Outcome → State → Prop := va_Qv (fun (u : Vf × Lf) => rgd bM u.1 ∧ agr [(0, 69), (0, 71), (0, 72), (0, 93), (0, 95), (0, 98)] [] V u.1 ∧ u.2 = L) (fun u t => gq D A (mw ad kk ks.1 u.1 u.2) (mty kk) t) A
abbrev r_s_ends : Room := { frames := 0, cells := 0, slots := 0, locals := 0 }
abbrev q_s_ends (D : va_G) (ks : KS) (ad : Nat → Nat) (kk : Nat → ClassId) (V : Vf) (L : Lf) (p0 : Int32) (A : Nat → Prop) : Array Value → State → Outcome → State → Prop := va_Qi (fun (r : Int32) (u : Vf × Lf) => rgd bM u.1 ∧ agr [(0, 70), (0, 71), (0, 72)] [] V u.1 ∧ u.2 = L ∧ (0 ≤ r.toInt ∧ r.toInt ≤ 1)) (fun u t => gq D A (mw ad kk ks.1 u.1 u.2) (mty kk) t) A
abbrev r_s_addFault : Room := { frames := 0, cells := 0, slots := 0, locals := 0 }
abbrev q_s_addFault (D : va_G) (ks : KS) (ad : Nat → Nat) (kk : Nat → ClassId) (V : Vf) (L : Lf) (p0 : Int32) (p1 : Int32) (p2 : Int32) (A : Nat → Prop) : Array Value → State → Outcome → State → Prop := va_Qv (fun (u : Vf × Lf) => rgd bM u.1 ∧ agr [(0, 81)] [82, 83, 84] V u.1 ∧ u.2 = L ∧ ((u.1 0 81).toInt = (V 0 81).toInt + 1)) (fun u t => gq D A (mw ad kk ks.1 u.1 u.2) (mty kk) t) A
set_option maxHeartbeats 4000000 in
set_option maxRecDepth 100000 in
theorem s_addFault (l : Launch) (D : va_G) (ks : KS) (sz : Nat) (ad : Nat → Nat) (kk : Nat → ClassId) (V : Vf) (L : Lf) (p0 : Int32) (p1 : Int32) (p2 : Int32) (hMV : rgd bM V) (rg_p2 : 0 ≤ p2.toInt ∧ p2.toInt ≤ 24) (y1 : (V 0 81).toInt ≤ 999999)  : Met l yX12_addFault (Cond.code yX12_addFault cX12_addFault 4 none :: GW) r_s_addFault (va_Pc [.ref (ad 0), .int p0, .int p1, .int p2] (gp D ks (mw ad kk ks.1 V L) (mty kk) sz)) (q_s_addFault D ks ad kk V L p0 p1 p2 (va_A (mw ad kk ks.1 V L) sz)) 0 0 (va_A (mw ad kk ks.1 V L) sz) := by
  refine g_met (q_s_addFault D ks ad kk V L p0 p1 p2) (by decide) (Nat.le_of_ble_eq_true rfl) ?_
  intro p e s m below meth c A ls H locs hx hb hr hml hown hg hlocks hin hnw hgk hP hK hD hS hA hl
  replace hown : s.vm.findClass RX12 = some m.cls := hown
  replace hl : lv_has ls 4 [(0, .ref (ad 0)), (1, .int p0), (2, .int p1), (3, .int p2)] := hl
  replace hP : va_P D vwCl (mw ad kk ks.1 V L) H := hP
  replace hD : va_D A (mw ad kk ks.1 V L) := hD
  replace hK : va_K D vwCl (mty kk) s := hK
  have agV : agr [(0, 81)] [82, 83, 84] V V := agr.rf
  have r1 : 0 ≤ ((V 0 81)).toInt ∧ ((V 0 81)).toInt ≤ 1000000 := hMV 0 81
  refine lv_aload_n hx hb dX12_addFault_0 rfl (lv_at hl 0 rfl) ?_
  refine va_get (D := D) (ci := 12) (v := .int (V 0 81)) (C := RX12) (T := TX12) (N := 100) hx hb hg inX12 hown hK hP 0 rfl rfl 81 (by decide) (hg _ w1787) (fun _ h9 => h9) rfl dX12_addFault_1 ?_
  refine lv_bipush (v := 100) hx hb dX12_addFault_4 (by decide) ?_
  have J2 : ∀ (V3 : Vf) (H : Heap) (locs : List Loc) (ls : Array Slot), agr [] [82, 83, 84] V V3 → rgd bM V3 → va_P D vwCl (mw ad kk ks.1 V3 L) H → va_D A (mw ad kk ks.1 V3 L) → va_S A s.heap H locs → lv_has ls 4 [(0, .ref (ad 0)), (1, .int p0), (2, .int p1), (3, .int p2)] → W p l e r_s_addFault s m ([.ref (ad 0), .int p0, .int p1, .int p2] : List Value).toArray below meth c H locs 0 0 (MQ below (q_s_addFault D ks ad kk V L p0 p1 p2 A) ([.ref (ad 0), .int p0, .int p1, .int p2] : List Value).toArray s 0 0 A) (F0 m 39 ls []) := by
    intro V3 H locs ls ajV3 hMV3 hP hD hS hl
    have agV3 : agr [(0, 81)] [82, 83, 84] V V3 := agV.tr ajV3 (by decide) (by decide)
    refine lv_aload_n hx hb dX12_addFault_39 rfl (lv_at hl 0 rfl) ?_
    refine lv_dup hx hb dX12_addFault_40 rfl ?_
    refine va_get (D := D) (ci := 12) (v := .int (V3 0 81)) (C := RX12) (T := TX12) (N := 100) hx hb hg inX12 hown hK hP 0 rfl rfl 81 (by decide) (hg _ w1787) (fun _ h9 => h9) rfl dX12_addFault_41 ?_
    refine g_top (v := (V 0 81)) (ajV3 0 81 rfl) ?_
    refine lv_iconst (v := 1) hx hb dX12_addFault_44 (by decide) ?_
    refine lv_iadd hx hb dX12_addFault_45 ?_
    refine lv_topi (fun z4 ez4 => ?_)
    have hz4 : z4.toInt = ((V 0 81)).toInt + 1 := i_add ez4 rfl (by decide) (by omega)
    refine va_put (D := D) (ci := 12) (v := .int z4) (ty := tyX12 81) (C := RX12) (T := TX12) (N := 100) hx hb hg inX12 tyX12 tyX12_ok nmX12 hown hK hP hD hS 0 rfl rfl 81 (by decide) (hg _ w1787) (fun _ h9 => h9) rfl (tyX12_ok 81 (by decide)) rfl rfl (Nat.le_of_ble_eq_true rfl) dX12_addFault_46 (fun H locs hP hD hS => ?_)
    obtain ⟨V5, hV5⟩ : ∃ z, z = up2 V3 0 81 z4 := ⟨_, rfl⟩
    have hP : va_P D vwCl (mw ad kk ks.1 V5 L) H := by rw [hV5]; exact hP
    have hD : va_D A (mw ad kk ks.1 V5 L) := by rw [hV5]; exact hD
    have hMV5 : rgd bM V5 := hMV3.put hV5 (show 0 ≤ z4.toInt ∧ z4.toInt ≤ 1000000 from by omega)
    have agV5 : agr [(0, 81)] [82, 83, 84] V V5 := agV3.up hV5 rfl
    have pq6 : (V5 0 81).toInt = z4.toInt := congrArg Int32.toInt (up2_s hV5)
    exact W.vret hx hb hr (fun t ht hW => ⟨⟨(V5, L), rfl, ⟨hMV5, agV5, rfl, (show (V5 0 81).toInt = (V 0 81).toInt + 1 from by omega)⟩, by rw [ht]; exact hP, va_K.moved hW.alike hK, hD⟩, hS.F ht⟩) hS.2.2 dX12_addFault_49
  refine lv_icmp_ge (tgt := 39) hx hb dX12_addFault_6 (by decide) (fun c7 => ?_) (fun c7 => ?_)
  · skip
    have f8 : 100 ≤ ((V 0 81)).toInt := b_le (by decide) rfl c7
    exact J2 V H locs ls agr.rf hMV hP hD hS (lv_sub hl [0, 1, 2, 3] rfl)
  · skip
    have f9 : ((V 0 81)).toInt < 100 := b_nle (by decide) rfl c7
    refine lv_aload_n hx hb dX12_addFault_9 rfl (lv_at hl 0 rfl) ?_
    refine va_get (D := D) (ci := 12) (v := .ref (ad 82)) (C := RX12) (T := TX12) (N := 100) hx hb hg inX12 hown hK hP 0 rfl rfl 82 (by decide) (hg _ w1788) (fun _ h9 => h9) rfl dX12_addFault_10 ?_
    refine lv_aload_n hx hb dX12_addFault_13 rfl (lv_at hl 0 rfl) ?_
    refine va_get (D := D) (ci := 12) (v := .int (V 0 81)) (C := RX12) (T := TX12) (N := 100) hx hb hg inX12 hown hK hP 0 rfl rfl 81 (by decide) (hg _ w1787) (fun _ h9 => h9) rfl dX12_addFault_14 ?_
    refine lv_iload_n hx hb dX12_addFault_17 rfl (lv_at hl 1 rfl) ?_
    refine va_iast (D := D) (i := (V 0 81)) (x := p0) hx hb hK hP hD hS 58 57 rfl rfl (i_in (a := ((V 0 81)).toInt) rfl (by omega)) dX12_addFault_18 (fun H locs hP hD hS => ?_)
    obtain ⟨V10, hV10⟩ : ∃ z, z = up2 V 82 (Int32.toNatClampNeg (V 0 81)) p0 := ⟨_, rfl⟩
    have hP : va_P D vwCl (mw ad kk ks.1 V10 L) H := by rw [hV10]; exact hP
    have hD : va_D A (mw ad kk ks.1 V10 L) := by rw [hV10]; exact hD
    have hMV10 : rgd bM V10 := hMV.put hV10 (i_full _)
    have agV10 : agr [(0, 81)] [82, 83, 84] V V10 := agV.up hV10 rfl
    refine lv_aload_n hx hb dX12_addFault_19 rfl (lv_at hl 0 rfl) ?_
    refine va_get (D := D) (ci := 12) (v := .ref (ad 83)) (C := RX12) (T := TX12) (N := 100) hx hb hg inX12 hown hK hP 0 rfl rfl 83 (by decide) (hg _ w1789) (fun _ h9 => h9) rfl dX12_addFault_20 ?_
    refine lv_aload_n hx hb dX12_addFault_23 rfl (lv_at hl 0 rfl) ?_
    refine va_get (D := D) (ci := 12) (v := .int (V10 0 81)) (C := RX12) (T := TX12) (N := 100) hx hb hg inX12 hown hK hP 0 rfl rfl 81 (by decide) (hg _ w1787) (fun _ h9 => h9) rfl dX12_addFault_24 ?_
    refine g_top (v := (V 0 81)) (up2_o hV10 (by decide)) ?_
    refine lv_iload_n hx hb dX12_addFault_27 rfl (lv_at hl 2 rfl) ?_
    refine va_iast (D := D) (i := (V 0 81)) (x := p1) hx hb hK hP hD hS 59 58 rfl rfl (i_in (a := ((V 0 81)).toInt) rfl (by omega)) dX12_addFault_28 (fun H locs hP hD hS => ?_)
    obtain ⟨V11, hV11⟩ : ∃ z, z = up2 V10 83 (Int32.toNatClampNeg (V 0 81)) p1 := ⟨_, rfl⟩
    have hP : va_P D vwCl (mw ad kk ks.1 V11 L) H := by rw [hV11]; exact hP
    have hD : va_D A (mw ad kk ks.1 V11 L) := by rw [hV11]; exact hD
    have hMV11 : rgd bM V11 := hMV10.put hV11 (i_full _)
    have agV11 : agr [(0, 81)] [82, 83, 84] V V11 := agV10.up hV11 rfl
    refine lv_aload_n hx hb dX12_addFault_29 rfl (lv_at hl 0 rfl) ?_
    refine va_get (D := D) (ci := 12) (v := .ref (ad 84)) (C := RX12) (T := TX12) (N := 100) hx hb hg inX12 hown hK hP 0 rfl rfl 84 (by decide) (hg _ w1790) (fun _ h9 => h9) rfl dX12_addFault_30 ?_
    refine lv_aload_n hx hb dX12_addFault_33 rfl (lv_at hl 0 rfl) ?_
    refine va_get (D := D) (ci := 12) (v := .int (V11 0 81)) (C := RX12) (T := TX12) (N := 100) hx hb hg inX12 hown hK hP 0 rfl rfl 81 (by decide) (hg _ w1787) (fun _ h9 => h9) rfl dX12_addFault_34 ?_
    refine g_top (v := (V 0 81)) ((up2_o hV11 (by decide)).trans (up2_o hV10 (by decide))) ?_
    refine lv_iload_n hx hb dX12_addFault_37 rfl (lv_at hl 3 rfl) ?_
    refine va_iast (D := D) (i := (V 0 81)) (x := p2) hx hb hK hP hD hS 60 59 rfl rfl (i_in (a := ((V 0 81)).toInt) rfl (by omega)) dX12_addFault_38 (fun H locs hP hD hS => ?_)
    obtain ⟨V12, hV12⟩ : ∃ z, z = up2 V11 84 (Int32.toNatClampNeg (V 0 81)) p2 := ⟨_, rfl⟩
    have hP : va_P D vwCl (mw ad kk ks.1 V12 L) H := by rw [hV12]; exact hP
    have hD : va_D A (mw ad kk ks.1 V12 L) := by rw [hV12]; exact hD
    have hMV12 : rgd bM V12 := hMV11.put hV12 (show (-1) ≤ p2.toInt ∧ p2.toInt ≤ 24 from by omega)
    have agV12 : agr [(0, 81)] [82, 83, 84] V V12 := agV11.up hV12 rfl
    exact J2 V12 H locs ls (agr.up (agr.up (agr.up agr.rf hV10 rfl) hV11 rfl) hV12 rfl) hMV12 hP hD hS (lv_sub hl [0, 1, 2, 3] rfl)
abbrev r_s_fault : Room := { frames := 0, cells := 0, slots := 0, locals := 0 }
abbrev q_s_fault (D : va_G) (ks : KS) (ad : Nat → Nat) (kk : Nat → ClassId) (V : Vf) (L : Lf) (p0 : Int32) (p1 : Int32) (A : Nat → Prop) : Array Value → State → Outcome → State → Prop := va_Qi (fun (r : Int32) (u : Vf × Lf) => rgd bM u.1 ∧ agr [(0, 0)] [] V u.1 ∧ u.2 = L) (fun u t => gq D A (mw ad kk ks.1 u.1 u.2) (mty kk) t) A
abbrev r_s_cycle : Room := { frames := 0, cells := 0, slots := 0, locals := 0 }
abbrev q_s_cycle (D : va_G) (ks : KS) (ad : Nat → Nat) (kk : Nat → ClassId) (V : Vf) (L : Lf) (p0 : Int32) (p1 : Int32) (A : Nat → Prop) : Array Value → State → Outcome → State → Prop := va_Qi (fun (r : Int32) (u : Vf × Lf) => rgd bM u.1 ∧ agr [(0, 0)] [] V u.1 ∧ u.2 = L) (fun u t => gq D A (mw ad kk ks.1 u.1 u.2) (mty kk) t) A
abbrev r_s_closed : Room := { frames := 0, cells := 0, slots := 0, locals := 0 }
abbrev q_s_closed (D : va_G) (ks : KS) (ad : Nat → Nat) (kk : Nat → ClassId) (V : Vf) (L : Lf) (p0 : Int32) (p1 : Int32) (A : Nat → Prop) : Array Value → State → Outcome → State → Prop := va_Qi (fun (r : Int32) (u : Vf × Lf) => rgd bM u.1 ∧ agr [(0, 0)] [] V u.1 ∧ u.2 = L) (fun u t => gq D A (mw ad kk ks.1 u.1 u.2) (mty kk) t) A
abbrev r_s_did : Room := { frames := 0, cells := 0, slots := 0, locals := 0 }
abbrev q_s_did (D : va_G) (ks : KS) (ad : Nat → Nat) (kk : Nat → ClassId) (V : Vf) (L : Lf) (p0 : Int32) (p1 : Int32) (A : Nat → Prop) : Array Value → State → Outcome → State → Prop := va_Qi (fun (r : Int32) (u : Vf × Lf) => rgd bM u.1 ∧ agr [(0, 0)] [] V u.1 ∧ u.2 = L) (fun u t => gq D A (mw ad kk ks.1 u.1 u.2) (mty kk) t) A
set_option maxHeartbeats 4000000 in
set_option maxRecDepth 100000 in
theorem s_did (l : Launch) (D : va_G) (ks : KS) (sz : Nat) (ad : Nat → Nat) (kk : Nat → ClassId) (V : Vf) (L : Lf) (p0 : Int32) (p1 : Int32) (hMV : rgd bM V)  : Met l yX12_did (Cond.code yX12_did cX12_did 3 (some .int) :: GW) r_s_did (va_Pc [.ref (ad 0), .int p0, .int p1] (gp D ks (mw ad kk ks.1 V L) (mty kk) sz)) (q_s_did D ks ad kk V L p0 p1 (va_A (mw ad kk ks.1 V L) sz)) 0 0 (va_A (mw ad kk ks.1 V L) sz) := by
  refine g_met (q_s_did D ks ad kk V L p0 p1) (by decide) (Nat.le_of_ble_eq_true rfl) ?_
  intro p e s m below meth c A ls H locs hx hb hr hml hown hg hlocks hin hnw hgk hP hK hD hS hA hl
  replace hown : s.vm.findClass RX12 = some m.cls := hown
  replace hl : lv_has ls 3 [(0, .ref (ad 0)), (1, .int p0), (2, .int p1)] := hl
  replace hP : va_P D vwCl (mw ad kk ks.1 V L) H := hP
  replace hD : va_D A (mw ad kk ks.1 V L) := hD
  replace hK : va_K D vwCl (mty kk) s := hK
  have agV : agr [(0, 0)] [] V V := agr.rf
  refine lv_aload_n hx hb dX12_did_0 rfl (lv_at hl 0 rfl) ?_
  refine lv_iconst (v := 0) hx hb dX12_did_1 (by decide) ?_
  refine va_put (D := D) (ci := 12) (v := .int 0) (ty := tyX12 0) (C := RX12) (T := TX12) (N := 100) hx hb hg inX12 tyX12 tyX12_ok nmX12 hown hK hP hD hS 0 rfl rfl 0 (by decide) (hg _ w1706) (fun _ h9 => h9) rfl (tyX12_ok 0 (by decide)) rfl rfl (Nat.le_of_ble_eq_true rfl) dX12_did_2 (fun H locs hP hD hS => ?_)
  obtain ⟨V1, hV1⟩ : ∃ z, z = up2 V 0 0 0 := ⟨_, rfl⟩
  have hP : va_P D vwCl (mw ad kk ks.1 V1 L) H := by rw [hV1]; exact hP
  have hD : va_D A (mw ad kk ks.1 V1 L) := by rw [hV1]; exact hD
  have hMV1 : rgd bM V1 := hMV.put hV1 (i_full _)
  have agV1 : agr [(0, 0)] [] V V1 := agV.up hV1 rfl
  refine lv_iload_n hx hb dX12_did_5 rfl (lv_at hl 1 rfl) ?_
  refine lv_if_lt (tgt := 23) hx hb dX12_did_6 (by decide) (fun c2 => ?_) (fun c2 => ?_)
  · skip
    have f3 : p0.toInt < 0 := b_lt rfl (by decide) c2
    refine lv_iconst (v := (-1)) hx hb dX12_did_23 (by decide) ?_
    exact W.iret (v := (-1)) hx hb hr (fun t ht hW => ⟨⟨(-1), (V1, L), rfl, ⟨hMV1, agV1, rfl⟩, by rw [ht]; exact hP, va_K.moved hW.alike hK, hD⟩, hS.F ht⟩) hS.2.2 dX12_did_24
  · skip
    have f4 : 0 ≤ p0.toInt := b_nlt rfl (by decide) c2
    refine lv_iload_n hx hb dX12_did_9 rfl (lv_at hl 1 rfl) ?_
    refine lv_aload_n hx hb dX12_did_10 rfl (lv_at hl 0 rfl) ?_
    refine va_get (D := D) (ci := 12) (v := .int (V1 0 76)) (C := RX12) (T := TX12) (N := 100) hx hb hg inX12 hown hK hP 0 rfl rfl 76 (by decide) (hg _ w1782) (fun _ h9 => h9) rfl dX12_did_11 ?_
    refine g_top (v := (V 0 76)) (up2_k hV1 (by decide)) ?_
    have r5 : 0 ≤ ((V 0 76)).toInt ∧ ((V 0 76)).toInt ≤ 2000000000 := hMV 0 76
    refine lv_icmp_ge (tgt := 23) hx hb dX12_did_14 (by decide) (fun c6 => ?_) (fun c6 => ?_)
    · skip
      have f7 : ((V 0 76)).toInt ≤ p0.toInt := b_le rfl rfl c6
      refine lv_iconst (v := (-1)) hx hb dX12_did_23 (by decide) ?_
      exact W.iret (v := (-1)) hx hb hr (fun t ht hW => ⟨⟨(-1), (V1, L), rfl, ⟨hMV1, agV1, rfl⟩, by rw [ht]; exact hP, va_K.moved hW.alike hK, hD⟩, hS.F ht⟩) hS.2.2 dX12_did_24
    · skip
      have f8 : p0.toInt < ((V 0 76)).toInt := b_nle rfl rfl c6
      refine lv_iload_n hx hb dX12_did_17 rfl (lv_at hl 1 rfl) ?_
      refine lv_bipush (v := 100) hx hb dX12_did_18 (by decide) ?_
      refine lv_icmp_lt (tgt := 25) hx hb dX12_did_20 (by decide) (fun c9 => ?_) (fun c9 => ?_)
      · skip
        have f10 : p0.toInt < 100 := b_lt rfl (by decide) c9
        refine lv_iload_n hx hb dX12_did_25 rfl (lv_at hl 2 rfl) ?_
        refine lv_if_ne (tgt := 38) hx hb dX12_did_26 (by decide) (fun c11 => ?_) (fun c11 => ?_)
        · skip
          have f12 : p1.toInt ≠ 0 := b_neq rfl (by decide) c11
          refine lv_iload_n hx hb dX12_did_38 rfl (lv_at hl 2 rfl) ?_
          refine lv_iconst (v := 1) hx hb dX12_did_39 (by decide) ?_
          refine lv_icmp_ne (tgt := 52) hx hb dX12_did_40 (by decide) (fun c13 => ?_) (fun c13 => ?_)
          · skip
            have f14 : p1.toInt ≠ 1 := b_neq rfl (by decide) c13
            refine lv_iload_n hx hb dX12_did_52 rfl (lv_at hl 2 rfl) ?_
            refine lv_iconst (v := 2) hx hb dX12_did_53 (by decide) ?_
            refine lv_icmp_ne (tgt := 66) hx hb dX12_did_54 (by decide) (fun c15 => ?_) (fun c15 => ?_)
            · skip
              have f16 : p1.toInt ≠ 2 := b_neq rfl (by decide) c15
              refine lv_iconst (v := (-1)) hx hb dX12_did_66 (by decide) ?_
              exact W.iret (v := (-1)) hx hb hr (fun t ht hW => ⟨⟨(-1), (V1, L), rfl, ⟨hMV1, agV1, rfl⟩, by rw [ht]; exact hP, va_K.moved hW.alike hK, hD⟩, hS.F ht⟩) hS.2.2 dX12_did_67
            · skip
              have f17 : p1.toInt = 2 := b_eq rfl (by decide) c15
              refine lv_aload_n hx hb dX12_did_57 rfl (lv_at hl 0 rfl) ?_
              refine va_get (D := D) (ci := 12) (v := .ref (ad 79)) (C := RX12) (T := TX12) (N := 100) hx hb hg inX12 hown hK hP 0 rfl rfl 79 (by decide) (hg _ w1785) (fun _ h9 => h9) rfl dX12_did_58 ?_
              refine lv_iload_n hx hb dX12_did_61 rfl (lv_at hl 1 rfl) ?_
              refine va_iald (D := D) (i := p0) hx hb hK hP 56 55 rfl rfl (i_in (a := p0.toInt) rfl (by omega)) dX12_did_62 ?_
              refine g_top (v := (V 79 (Int32.toNatClampNeg p0))) (up2_o hV1 (by decide)) ?_
              refine lv_goto (tgt := 67) hx hb dX12_did_63 (by decide) ?_
              exact W.iret (v := (V 79 (Int32.toNatClampNeg p0))) hx hb hr (fun t ht hW => ⟨⟨(V 79 (Int32.toNatClampNeg p0)), (V1, L), rfl, ⟨hMV1, agV1, rfl⟩, by rw [ht]; exact hP, va_K.moved hW.alike hK, hD⟩, hS.F ht⟩) hS.2.2 dX12_did_67
          · skip
            have f18 : p1.toInt = 1 := b_eq rfl (by decide) c13
            refine lv_aload_n hx hb dX12_did_43 rfl (lv_at hl 0 rfl) ?_
            refine va_get (D := D) (ci := 12) (v := .ref (ad 78)) (C := RX12) (T := TX12) (N := 100) hx hb hg inX12 hown hK hP 0 rfl rfl 78 (by decide) (hg _ w1784) (fun _ h9 => h9) rfl dX12_did_44 ?_
            refine lv_iload_n hx hb dX12_did_47 rfl (lv_at hl 1 rfl) ?_
            refine va_iald (D := D) (i := p0) hx hb hK hP 55 54 rfl rfl (i_in (a := p0.toInt) rfl (by omega)) dX12_did_48 ?_
            refine g_top (v := (V 78 (Int32.toNatClampNeg p0))) (up2_o hV1 (by decide)) ?_
            refine lv_goto (tgt := 67) hx hb dX12_did_49 (by decide) ?_
            exact W.iret (v := (V 78 (Int32.toNatClampNeg p0))) hx hb hr (fun t ht hW => ⟨⟨(V 78 (Int32.toNatClampNeg p0)), (V1, L), rfl, ⟨hMV1, agV1, rfl⟩, by rw [ht]; exact hP, va_K.moved hW.alike hK, hD⟩, hS.F ht⟩) hS.2.2 dX12_did_67
        · skip
          have f19 : p1.toInt = 0 := b_eq rfl (by decide) c11
          refine lv_aload_n hx hb dX12_did_29 rfl (lv_at hl 0 rfl) ?_
          refine va_get (D := D) (ci := 12) (v := .ref (ad 77)) (C := RX12) (T := TX12) (N := 100) hx hb hg inX12 hown hK hP 0 rfl rfl 77 (by decide) (hg _ w1783) (fun _ h9 => h9) rfl dX12_did_30 ?_
          refine lv_iload_n hx hb dX12_did_33 rfl (lv_at hl 1 rfl) ?_
          refine va_iald (D := D) (i := p0) hx hb hK hP 54 53 rfl rfl (i_in (a := p0.toInt) rfl (by omega)) dX12_did_34 ?_
          refine g_top (v := (V 77 (Int32.toNatClampNeg p0))) (up2_o hV1 (by decide)) ?_
          refine lv_goto (tgt := 67) hx hb dX12_did_35 (by decide) ?_
          exact W.iret (v := (V 77 (Int32.toNatClampNeg p0))) hx hb hr (fun t ht hW => ⟨⟨(V 77 (Int32.toNatClampNeg p0)), (V1, L), rfl, ⟨hMV1, agV1, rfl⟩, by rw [ht]; exact hP, va_K.moved hW.alike hK, hD⟩, hS.F ht⟩) hS.2.2 dX12_did_67
      · skip
        have f20 : 100 ≤ p0.toInt := b_nlt rfl (by decide) c9
        refine lv_iconst (v := (-1)) hx hb dX12_did_23 (by decide) ?_
        exact W.iret (v := (-1)) hx hb hr (fun t ht hW => ⟨⟨(-1), (V1, L), rfl, ⟨hMV1, agV1, rfl⟩, by rw [ht]; exact hP, va_K.moved hW.alike hK, hD⟩, hS.F ht⟩) hS.2.2 dX12_did_24
abbrev r_s_object : Room := { frames := 0, cells := 0, slots := 0, locals := 0 }
abbrev q_s_object (D : va_G) (ks : KS) (ad : Nat → Nat) (kk : Nat → ClassId) (V : Vf) (L : Lf) (p0 : Int32) (p1 : Int32) (A : Nat → Prop) : Array Value → State → Outcome → State → Prop := va_Qi (fun (r : Int32) (u : Vf × Lf) => rgd bM u.1 ∧ agr [(0, 0)] [] V u.1 ∧ u.2 = L) (fun u t => gq D A (mw ad kk ks.1 u.1 u.2) (mty kk) t) A
set_option maxHeartbeats 4000000 in
set_option maxRecDepth 100000 in
theorem s_object (l : Launch) (D : va_G) (ks : KS) (sz : Nat) (ad : Nat → Nat) (kk : Nat → ClassId) (V : Vf) (L : Lf) (p0 : Int32) (p1 : Int32) (hMV : rgd bM V)  : Met l yX12_object (Cond.code yX12_object cX12_object 3 (some .int) :: GW) r_s_object (va_Pc [.ref (ad 0), .int p0, .int p1] (gp D ks (mw ad kk ks.1 V L) (mty kk) sz)) (q_s_object D ks ad kk V L p0 p1 (va_A (mw ad kk ks.1 V L) sz)) 0 0 (va_A (mw ad kk ks.1 V L) sz) := by
  refine g_met (q_s_object D ks ad kk V L p0 p1) (by decide) (Nat.le_of_ble_eq_true rfl) ?_
  intro p e s m below meth c A ls H locs hx hb hr hml hown hg hlocks hin hnw hgk hP hK hD hS hA hl
  replace hown : s.vm.findClass RX12 = some m.cls := hown
  replace hl : lv_has ls 3 [(0, .ref (ad 0)), (1, .int p0), (2, .int p1)] := hl
  replace hP : va_P D vwCl (mw ad kk ks.1 V L) H := hP
  replace hD : va_D A (mw ad kk ks.1 V L) := hD
  replace hK : va_K D vwCl (mty kk) s := hK
  have agV : agr [(0, 0)] [] V V := agr.rf
  refine lv_aload_n hx hb dX12_object_0 rfl (lv_at hl 0 rfl) ?_
  refine lv_iload_n hx hb dX12_object_1 rfl (lv_at hl 1 rfl) ?_
  refine lv_if_lt (tgt := 26) hx hb dX12_object_2 (by decide) (fun c1 => ?_) (fun c1 => ?_)
  · skip
    have f2 : p0.toInt < 0 := b_lt rfl (by decide) c1
    refine lv_iconst (v := 1) hx hb dX12_object_26 (by decide) ?_
    refine va_put (D := D) (ci := 12) (v := .int 1) (ty := tyX12 0) (C := RX12) (T := TX12) (N := 100) hx hb hg inX12 tyX12 tyX12_ok nmX12 hown hK hP hD hS 0 rfl rfl 0 (by decide) (hg _ w1706) (fun _ h9 => h9) rfl (tyX12_ok 0 (by decide)) rfl rfl (Nat.le_of_ble_eq_true rfl) dX12_object_27 (fun H locs hP hD hS => ?_)
    obtain ⟨V3, hV3⟩ : ∃ z, z = up2 V 0 0 1 := ⟨_, rfl⟩
    have hP : va_P D vwCl (mw ad kk ks.1 V3 L) H := by rw [hV3]; exact hP
    have hD : va_D A (mw ad kk ks.1 V3 L) := by rw [hV3]; exact hD
    have hMV3 : rgd bM V3 := hMV.put hV3 (i_full _)
    have agV3 : agr [(0, 0)] [] V V3 := agV.up hV3 rfl
    refine lv_aload_n hx hb dX12_object_30 rfl (lv_at hl 0 rfl) ?_
    refine va_get (D := D) (ci := 12) (v := .int (V3 0 0)) (C := RX12) (T := TX12) (N := 100) hx hb hg inX12 hown hK hP 0 rfl rfl 0 (by decide) (hg _ w1706) (fun _ h9 => h9) rfl dX12_object_31 ?_
    refine g_top (v := 1) (up2_s hV3) ?_
    refine lv_if_le (tgt := 41) hx hb dX12_object_34 (by decide) (fun q => absurd q (by decide)) (fun _ => ?_)
    refine lv_iconst (v := 0) hx hb dX12_object_37 (by decide) ?_
    refine lv_goto (tgt := 74) hx hb dX12_object_38 (by decide) ?_
    exact W.iret (v := 0) hx hb hr (fun t ht hW => ⟨⟨0, (V3, L), rfl, ⟨hMV3, agV3, rfl⟩, by rw [ht]; exact hP, va_K.moved hW.alike hK, hD⟩, hS.F ht⟩) hS.2.2 dX12_object_74
  · skip
    have f4 : 0 ≤ p0.toInt := b_nlt rfl (by decide) c1
    refine lv_iload_n hx hb dX12_object_5 rfl (lv_at hl 1 rfl) ?_
    refine lv_aload_n hx hb dX12_object_6 rfl (lv_at hl 0 rfl) ?_
    refine va_get (D := D) (ci := 12) (v := .int (V 0 60)) (C := RX12) (T := TX12) (N := 100) hx hb hg inX12 hown hK hP 0 rfl rfl 60 (by decide) (hg _ w1766) (fun _ h9 => h9) rfl dX12_object_7 ?_
    have r5 : 0 ≤ ((V 0 60)).toInt ∧ ((V 0 60)).toInt ≤ 300 := hMV 0 60
    refine lv_icmp_ge (tgt := 26) hx hb dX12_object_10 (by decide) (fun c6 => ?_) (fun c6 => ?_)
    · skip
      have f7 : ((V 0 60)).toInt ≤ p0.toInt := b_le rfl rfl c6
      refine lv_iconst (v := 1) hx hb dX12_object_26 (by decide) ?_
      refine va_put (D := D) (ci := 12) (v := .int 1) (ty := tyX12 0) (C := RX12) (T := TX12) (N := 100) hx hb hg inX12 tyX12 tyX12_ok nmX12 hown hK hP hD hS 0 rfl rfl 0 (by decide) (hg _ w1706) (fun _ h9 => h9) rfl (tyX12_ok 0 (by decide)) rfl rfl (Nat.le_of_ble_eq_true rfl) dX12_object_27 (fun H locs hP hD hS => ?_)
      obtain ⟨V8, hV8⟩ : ∃ z, z = up2 V 0 0 1 := ⟨_, rfl⟩
      have hP : va_P D vwCl (mw ad kk ks.1 V8 L) H := by rw [hV8]; exact hP
      have hD : va_D A (mw ad kk ks.1 V8 L) := by rw [hV8]; exact hD
      have hMV8 : rgd bM V8 := hMV.put hV8 (i_full _)
      have agV8 : agr [(0, 0)] [] V V8 := agV.up hV8 rfl
      refine lv_aload_n hx hb dX12_object_30 rfl (lv_at hl 0 rfl) ?_
      refine va_get (D := D) (ci := 12) (v := .int (V8 0 0)) (C := RX12) (T := TX12) (N := 100) hx hb hg inX12 hown hK hP 0 rfl rfl 0 (by decide) (hg _ w1706) (fun _ h9 => h9) rfl dX12_object_31 ?_
      refine g_top (v := 1) (up2_s hV8) ?_
      refine lv_if_le (tgt := 41) hx hb dX12_object_34 (by decide) (fun q => absurd q (by decide)) (fun _ => ?_)
      refine lv_iconst (v := 0) hx hb dX12_object_37 (by decide) ?_
      refine lv_goto (tgt := 74) hx hb dX12_object_38 (by decide) ?_
      exact W.iret (v := 0) hx hb hr (fun t ht hW => ⟨⟨0, (V8, L), rfl, ⟨hMV8, agV8, rfl⟩, by rw [ht]; exact hP, va_K.moved hW.alike hK, hD⟩, hS.F ht⟩) hS.2.2 dX12_object_74
    · skip
      have f9 : p0.toInt < ((V 0 60)).toInt := b_nle rfl rfl c6
      refine lv_iload_n hx hb dX12_object_13 rfl (lv_at hl 2 rfl) ?_
      refine lv_if_lt (tgt := 26) hx hb dX12_object_14 (by decide) (fun c10 => ?_) (fun c10 => ?_)
      · skip
        have f11 : p1.toInt < 0 := b_lt rfl (by decide) c10
        refine lv_iconst (v := 1) hx hb dX12_object_26 (by decide) ?_
        refine va_put (D := D) (ci := 12) (v := .int 1) (ty := tyX12 0) (C := RX12) (T := TX12) (N := 100) hx hb hg inX12 tyX12 tyX12_ok nmX12 hown hK hP hD hS 0 rfl rfl 0 (by decide) (hg _ w1706) (fun _ h9 => h9) rfl (tyX12_ok 0 (by decide)) rfl rfl (Nat.le_of_ble_eq_true rfl) dX12_object_27 (fun H locs hP hD hS => ?_)
        obtain ⟨V12, hV12⟩ : ∃ z, z = up2 V 0 0 1 := ⟨_, rfl⟩
        have hP : va_P D vwCl (mw ad kk ks.1 V12 L) H := by rw [hV12]; exact hP
        have hD : va_D A (mw ad kk ks.1 V12 L) := by rw [hV12]; exact hD
        have hMV12 : rgd bM V12 := hMV.put hV12 (i_full _)
        have agV12 : agr [(0, 0)] [] V V12 := agV.up hV12 rfl
        refine lv_aload_n hx hb dX12_object_30 rfl (lv_at hl 0 rfl) ?_
        refine va_get (D := D) (ci := 12) (v := .int (V12 0 0)) (C := RX12) (T := TX12) (N := 100) hx hb hg inX12 hown hK hP 0 rfl rfl 0 (by decide) (hg _ w1706) (fun _ h9 => h9) rfl dX12_object_31 ?_
        refine g_top (v := 1) (up2_s hV12) ?_
        refine lv_if_le (tgt := 41) hx hb dX12_object_34 (by decide) (fun q => absurd q (by decide)) (fun _ => ?_)
        refine lv_iconst (v := 0) hx hb dX12_object_37 (by decide) ?_
        refine lv_goto (tgt := 74) hx hb dX12_object_38 (by decide) ?_
        exact W.iret (v := 0) hx hb hr (fun t ht hW => ⟨⟨0, (V12, L), rfl, ⟨hMV12, agV12, rfl⟩, by rw [ht]; exact hP, va_K.moved hW.alike hK, hD⟩, hS.F ht⟩) hS.2.2 dX12_object_74
      · skip
        have f13 : 0 ≤ p1.toInt := b_nlt rfl (by decide) c10
        refine lv_iload_n hx hb dX12_object_17 rfl (lv_at hl 2 rfl) ?_
        refine lv_iconst (v := 2) hx hb dX12_object_18 (by decide) ?_
        refine lv_icmp_gt (tgt := 26) hx hb dX12_object_19 (by decide) (fun c14 => ?_) (fun c14 => ?_)
        · skip
          have f15 : 2 < p1.toInt := b_lt (by decide) rfl c14
          refine lv_iconst (v := 1) hx hb dX12_object_26 (by decide) ?_
          refine va_put (D := D) (ci := 12) (v := .int 1) (ty := tyX12 0) (C := RX12) (T := TX12) (N := 100) hx hb hg inX12 tyX12 tyX12_ok nmX12 hown hK hP hD hS 0 rfl rfl 0 (by decide) (hg _ w1706) (fun _ h9 => h9) rfl (tyX12_ok 0 (by decide)) rfl rfl (Nat.le_of_ble_eq_true rfl) dX12_object_27 (fun H locs hP hD hS => ?_)
          obtain ⟨V16, hV16⟩ : ∃ z, z = up2 V 0 0 1 := ⟨_, rfl⟩
          have hP : va_P D vwCl (mw ad kk ks.1 V16 L) H := by rw [hV16]; exact hP
          have hD : va_D A (mw ad kk ks.1 V16 L) := by rw [hV16]; exact hD
          have hMV16 : rgd bM V16 := hMV.put hV16 (i_full _)
          have agV16 : agr [(0, 0)] [] V V16 := agV.up hV16 rfl
          refine lv_aload_n hx hb dX12_object_30 rfl (lv_at hl 0 rfl) ?_
          refine va_get (D := D) (ci := 12) (v := .int (V16 0 0)) (C := RX12) (T := TX12) (N := 100) hx hb hg inX12 hown hK hP 0 rfl rfl 0 (by decide) (hg _ w1706) (fun _ h9 => h9) rfl dX12_object_31 ?_
          refine g_top (v := 1) (up2_s hV16) ?_
          refine lv_if_le (tgt := 41) hx hb dX12_object_34 (by decide) (fun q => absurd q (by decide)) (fun _ => ?_)
          refine lv_iconst (v := 0) hx hb dX12_object_37 (by decide) ?_
          refine lv_goto (tgt := 74) hx hb dX12_object_38 (by decide) ?_
          exact W.iret (v := 0) hx hb hr (fun t ht hW => ⟨⟨0, (V16, L), rfl, ⟨hMV16, agV16, rfl⟩, by rw [ht]; exact hP, va_K.moved hW.alike hK, hD⟩, hS.F ht⟩) hS.2.2 dX12_object_74
        · skip
          have f17 : p1.toInt ≤ 2 := b_nlt (by decide) rfl c14
          refine lv_iconst (v := 0) hx hb dX12_object_22 (by decide) ?_
          refine lv_goto (tgt := 27) hx hb dX12_object_23 (by decide) ?_
          refine va_put (D := D) (ci := 12) (v := .int 0) (ty := tyX12 0) (C := RX12) (T := TX12) (N := 100) hx hb hg inX12 tyX12 tyX12_ok nmX12 hown hK hP hD hS 0 rfl rfl 0 (by decide) (hg _ w1706) (fun _ h9 => h9) rfl (tyX12_ok 0 (by decide)) rfl rfl (Nat.le_of_ble_eq_true rfl) dX12_object_27 (fun H locs hP hD hS => ?_)
          obtain ⟨V18, hV18⟩ : ∃ z, z = up2 V 0 0 0 := ⟨_, rfl⟩
          have hP : va_P D vwCl (mw ad kk ks.1 V18 L) H := by rw [hV18]; exact hP
          have hD : va_D A (mw ad kk ks.1 V18 L) := by rw [hV18]; exact hD
          have hMV18 : rgd bM V18 := hMV.put hV18 (i_full _)
          have agV18 : agr [(0, 0)] [] V V18 := agV.up hV18 rfl
          refine lv_aload_n hx hb dX12_object_30 rfl (lv_at hl 0 rfl) ?_
          refine va_get (D := D) (ci := 12) (v := .int (V18 0 0)) (C := RX12) (T := TX12) (N := 100) hx hb hg inX12 hown hK hP 0 rfl rfl 0 (by decide) (hg _ w1706) (fun _ h9 => h9) rfl dX12_object_31 ?_
          refine g_top (v := 0) (up2_s hV18) ?_
          refine lv_if_le (tgt := 41) hx hb dX12_object_34 (by decide) (fun _ => ?_) (fun q => absurd (by decide) q)
          refine lv_iload_n hx hb dX12_object_41 rfl (lv_at hl 2 rfl) ?_
          refine lv_if_ne (tgt := 54) hx hb dX12_object_42 (by decide) (fun c19 => ?_) (fun c19 => ?_)
          · skip
            have f20 : p1.toInt ≠ 0 := b_neq rfl (by decide) c19
            refine lv_iload_n hx hb dX12_object_54 rfl (lv_at hl 2 rfl) ?_
            refine lv_iconst (v := 1) hx hb dX12_object_55 (by decide) ?_
            refine lv_icmp_ne (tgt := 68) hx hb dX12_object_56 (by decide) (fun c21 => ?_) (fun c21 => ?_)
            · skip
              have f22 : p1.toInt ≠ 1 := b_neq rfl (by decide) c21
              refine lv_aload_n hx hb dX12_object_68 rfl (lv_at hl 0 rfl) ?_
              refine va_get (D := D) (ci := 12) (v := .ref (ad 63)) (C := RX12) (T := TX12) (N := 100) hx hb hg inX12 hown hK hP 0 rfl rfl 63 (by decide) (hg _ w1769) (fun _ h9 => h9) rfl dX12_object_69 ?_
              refine lv_iload_n hx hb dX12_object_72 rfl (lv_at hl 1 rfl) ?_
              refine va_iald (D := D) (i := p0) hx hb hK hP 48 47 rfl rfl (i_in (a := p0.toInt) rfl (by omega)) dX12_object_73 ?_
              refine g_top (v := (V 63 (Int32.toNatClampNeg p0))) (up2_o hV18 (by decide)) ?_
              have r23 : 0 ≤ ((V 63 (Int32.toNatClampNeg p0))).toInt ∧ ((V 63 (Int32.toNatClampNeg p0))).toInt ≤ 2 := hMV 63 (Int32.toNatClampNeg p0)
              exact W.iret (v := (V 63 (Int32.toNatClampNeg p0))) hx hb hr (fun t ht hW => ⟨⟨(V 63 (Int32.toNatClampNeg p0)), (V18, L), rfl, ⟨hMV18, agV18, rfl⟩, by rw [ht]; exact hP, va_K.moved hW.alike hK, hD⟩, hS.F ht⟩) hS.2.2 dX12_object_74
            · skip
              have f24 : p1.toInt = 1 := b_eq rfl (by decide) c21
              refine lv_aload_n hx hb dX12_object_59 rfl (lv_at hl 0 rfl) ?_
              refine va_get (D := D) (ci := 12) (v := .ref (ad 62)) (C := RX12) (T := TX12) (N := 100) hx hb hg inX12 hown hK hP 0 rfl rfl 62 (by decide) (hg _ w1768) (fun _ h9 => h9) rfl dX12_object_60 ?_
              refine lv_iload_n hx hb dX12_object_63 rfl (lv_at hl 1 rfl) ?_
              refine va_iald (D := D) (i := p0) hx hb hK hP 47 46 rfl rfl (i_in (a := p0.toInt) rfl (by omega)) dX12_object_64 ?_
              refine g_top (v := (V 62 (Int32.toNatClampNeg p0))) (up2_o hV18 (by decide)) ?_
              have r25 : 0 ≤ ((V 62 (Int32.toNatClampNeg p0))).toInt ∧ ((V 62 (Int32.toNatClampNeg p0))).toInt ≤ 39 := hMV 62 (Int32.toNatClampNeg p0)
              refine lv_goto (tgt := 74) hx hb dX12_object_65 (by decide) ?_
              exact W.iret (v := (V 62 (Int32.toNatClampNeg p0))) hx hb hr (fun t ht hW => ⟨⟨(V 62 (Int32.toNatClampNeg p0)), (V18, L), rfl, ⟨hMV18, agV18, rfl⟩, by rw [ht]; exact hP, va_K.moved hW.alike hK, hD⟩, hS.F ht⟩) hS.2.2 dX12_object_74
          · skip
            have f26 : p1.toInt = 0 := b_eq rfl (by decide) c19
            refine lv_aload_n hx hb dX12_object_45 rfl (lv_at hl 0 rfl) ?_
            refine va_get (D := D) (ci := 12) (v := .ref (ad 61)) (C := RX12) (T := TX12) (N := 100) hx hb hg inX12 hown hK hP 0 rfl rfl 61 (by decide) (hg _ w1767) (fun _ h9 => h9) rfl dX12_object_46 ?_
            refine lv_iload_n hx hb dX12_object_49 rfl (lv_at hl 1 rfl) ?_
            refine va_iald (D := D) (i := p0) hx hb hK hP 46 45 rfl rfl (i_in (a := p0.toInt) rfl (by omega)) dX12_object_50 ?_
            refine g_top (v := (V 61 (Int32.toNatClampNeg p0))) (up2_o hV18 (by decide)) ?_
            have r27 : 0 ≤ ((V 61 (Int32.toNatClampNeg p0))).toInt ∧ ((V 61 (Int32.toNatClampNeg p0))).toInt ≤ 23 := hMV 61 (Int32.toNatClampNeg p0)
            refine lv_goto (tgt := 74) hx hb dX12_object_51 (by decide) ?_
            exact W.iret (v := (V 61 (Int32.toNatClampNeg p0))) hx hb hr (fun t ht hW => ⟨⟨(V 61 (Int32.toNatClampNeg p0)), (V18, L), rfl, ⟨hMV18, agV18, rfl⟩, by rw [ht]; exact hP, va_K.moved hW.alike hK, hD⟩, hS.F ht⟩) hS.2.2 dX12_object_74
abbrev r_s_spoiled : Room := { frames := 1, cells := 0, slots := 0, locals := 23 }
abbrev q_s_spoiled (D : va_G) (ks : KS) (ad : Nat → Nat) (kk : Nat → ClassId) (V : Vf) (L : Lf) (p0 : Int32) (p1 : Int32) (A : Nat → Prop) : Array Value → State → Outcome → State → Prop := va_Qi (fun (r : Int32) (u : Vf × Lf) => rgd bM u.1 ∧ agr [(0, 0)] [] V u.1 ∧ u.2 = L) (fun u t => gq D A (mw ad kk ks.1 u.1 u.2) (mty kk) t) A
abbrev r_s_component : Room := { frames := 1, cells := 0, slots := 0, locals := 22 }
abbrev q_s_component (D : va_G) (ks : KS) (ad : Nat → Nat) (kk : Nat → ClassId) (V : Vf) (L : Lf) (p0 : Int32) (p1 : Int32) (A : Nat → Prop) : Array Value → State → Outcome → State → Prop := va_Qi (fun (r : Int32) (u : Vf × Lf) => rgd bM u.1 ∧ agr [(0, 0)] [] V u.1 ∧ u.2 = L) (fun u t => gq D A (mw ad kk ks.1 u.1 u.2) (mty kk) t) A
set_option maxHeartbeats 4000000 in
set_option maxRecDepth 100000 in
theorem s_component (l : Launch) (D : va_G) (ks : KS) (sz : Nat) (ad : Nat → Nat) (kk : Nat → ClassId) (V : Vf) (L : Lf) (p0 : Int32) (p1 : Int32) (hMV : rgd bM V)  : Met l yX12_component (Cond.code yX12_component cX12_component 4 (some .int) :: GW) r_s_component (va_Pc [.ref (ad 0), .int p0, .int p1] (gp D ks (mw ad kk ks.1 V L) (mty kk) sz)) (q_s_component D ks ad kk V L p0 p1 (va_A (mw ad kk ks.1 V L) sz)) 0 0 (va_A (mw ad kk ks.1 V L) sz) := by
  refine g_met (q_s_component D ks ad kk V L p0 p1) (by decide) (Nat.le_of_ble_eq_true rfl) ?_
  intro p e s m below meth c A ls H locs hx hb hr hml hown hg hlocks hin hnw hgk hP hK hD hS hA hl
  replace hown : s.vm.findClass RX12 = some m.cls := hown
  replace hl : lv_has ls 4 [(0, .ref (ad 0)), (1, .int p0), (2, .int p1)] := hl
  replace hP : va_P D vwCl (mw ad kk ks.1 V L) H := hP
  replace hD : va_D A (mw ad kk ks.1 V L) := hD
  replace hK : va_K D vwCl (mty kk) s := hK
  have agV : agr [(0, 0)] [] V V := agr.rf
  refine lv_aload_n hx hb dX12_component_0 rfl (lv_at hl 0 rfl) ?_
  refine lv_iload_n hx hb dX12_component_1 rfl (lv_at hl 1 rfl) ?_
  refine lv_if_lt (tgt := 31) hx hb dX12_component_2 (by decide) (fun c1 => ?_) (fun c1 => ?_)
  · skip
    have f2 : p0.toInt < 0 := b_lt rfl (by decide) c1
    refine lv_iconst (v := 1) hx hb dX12_component_31 (by decide) ?_
    refine va_put (D := D) (ci := 12) (v := .int 1) (ty := tyX12 0) (C := RX12) (T := TX12) (N := 100) hx hb hg inX12 tyX12 tyX12_ok nmX12 hown hK hP hD hS 0 rfl rfl 0 (by decide) (hg _ w1706) (fun _ h9 => h9) rfl (tyX12_ok 0 (by decide)) rfl rfl (Nat.le_of_ble_eq_true rfl) dX12_component_32 (fun H locs hP hD hS => ?_)
    obtain ⟨V3, hV3⟩ : ∃ z, z = up2 V 0 0 1 := ⟨_, rfl⟩
    have hP : va_P D vwCl (mw ad kk ks.1 V3 L) H := by rw [hV3]; exact hP
    have hD : va_D A (mw ad kk ks.1 V3 L) := by rw [hV3]; exact hD
    have hMV3 : rgd bM V3 := hMV.put hV3 (i_full _)
    have agV3 : agr [(0, 0)] [] V V3 := agV.up hV3 rfl
    refine lv_aload_n hx hb dX12_component_35 rfl (lv_at hl 0 rfl) ?_
    refine va_get (D := D) (ci := 12) (v := .int (V3 0 0)) (C := RX12) (T := TX12) (N := 100) hx hb hg inX12 hown hK hP 0 rfl rfl 0 (by decide) (hg _ w1706) (fun _ h9 => h9) rfl dX12_component_36 ?_
    refine g_top (v := 1) (up2_s hV3) ?_
    refine lv_if_le (tgt := 44) hx hb dX12_component_39 (by decide) (fun q => absurd q (by decide)) (fun _ => ?_)
    refine lv_iconst (v := 0) hx hb dX12_component_42 (by decide) ?_
    exact W.iret (v := 0) hx hb hr (fun t ht hW => ⟨⟨0, (V3, L), rfl, ⟨hMV3, agV3, rfl⟩, by rw [ht]; exact hP, va_K.moved hW.alike hK, hD⟩, hS.F ht⟩) hS.2.2 dX12_component_43
  · skip
    have f4 : 0 ≤ p0.toInt := b_nlt rfl (by decide) c1
    refine lv_iload_n hx hb dX12_component_5 rfl (lv_at hl 1 rfl) ?_
    refine lv_aload_n hx hb dX12_component_6 rfl (lv_at hl 0 rfl) ?_
    refine va_get (D := D) (ci := 12) (v := .ref (ad 19)) (C := RX12) (T := TX12) (N := 100) hx hb hg inX12 hown hK hP 0 rfl rfl 19 (by decide) (hg _ w1725) (fun _ h9 => h9) rfl dX12_component_7 ?_
    refine lv_aload_n hx hb dX12_component_10 rfl (lv_at hl 0 rfl) ?_
    refine va_get (D := D) (ci := 12) (v := .int (V 0 11)) (C := RX12) (T := TX12) (N := 100) hx hb hg inX12 hown hK hP 0 rfl rfl 11 (by decide) (hg _ w1717) (fun _ h9 => h9) rfl dX12_component_11 ?_
    have r5 : 0 ≤ ((V 0 11)).toInt ∧ ((V 0 11)).toInt ≤ 1 := hMV 0 11
    refine va_iald (D := D) (i := (V 0 11)) hx hb hK hP 12 11 rfl rfl (i_in (a := ((V 0 11)).toInt) rfl (by omega)) dX12_component_14 ?_
    have r6 : 0 ≤ ((V 19 (Int32.toNatClampNeg (V 0 11)))).toInt ∧ ((V 19 (Int32.toNatClampNeg (V 0 11)))).toInt ≤ 24 := hMV 19 (Int32.toNatClampNeg (V 0 11))
    refine lv_icmp_ge (tgt := 31) hx hb dX12_component_15 (by decide) (fun c7 => ?_) (fun c7 => ?_)
    · skip
      have f8 : ((V 19 (Int32.toNatClampNeg (V 0 11)))).toInt ≤ p0.toInt := b_le rfl rfl c7
      refine lv_iconst (v := 1) hx hb dX12_component_31 (by decide) ?_
      refine va_put (D := D) (ci := 12) (v := .int 1) (ty := tyX12 0) (C := RX12) (T := TX12) (N := 100) hx hb hg inX12 tyX12 tyX12_ok nmX12 hown hK hP hD hS 0 rfl rfl 0 (by decide) (hg _ w1706) (fun _ h9 => h9) rfl (tyX12_ok 0 (by decide)) rfl rfl (Nat.le_of_ble_eq_true rfl) dX12_component_32 (fun H locs hP hD hS => ?_)
      obtain ⟨V9, hV9⟩ : ∃ z, z = up2 V 0 0 1 := ⟨_, rfl⟩
      have hP : va_P D vwCl (mw ad kk ks.1 V9 L) H := by rw [hV9]; exact hP
      have hD : va_D A (mw ad kk ks.1 V9 L) := by rw [hV9]; exact hD
      have hMV9 : rgd bM V9 := hMV.put hV9 (i_full _)
      have agV9 : agr [(0, 0)] [] V V9 := agV.up hV9 rfl
      refine lv_aload_n hx hb dX12_component_35 rfl (lv_at hl 0 rfl) ?_
      refine va_get (D := D) (ci := 12) (v := .int (V9 0 0)) (C := RX12) (T := TX12) (N := 100) hx hb hg inX12 hown hK hP 0 rfl rfl 0 (by decide) (hg _ w1706) (fun _ h9 => h9) rfl dX12_component_36 ?_
      refine g_top (v := 1) (up2_s hV9) ?_
      refine lv_if_le (tgt := 44) hx hb dX12_component_39 (by decide) (fun q => absurd q (by decide)) (fun _ => ?_)
      refine lv_iconst (v := 0) hx hb dX12_component_42 (by decide) ?_
      exact W.iret (v := 0) hx hb hr (fun t ht hW => ⟨⟨0, (V9, L), rfl, ⟨hMV9, agV9, rfl⟩, by rw [ht]; exact hP, va_K.moved hW.alike hK, hD⟩, hS.F ht⟩) hS.2.2 dX12_component_43
    · skip
      have f10 : p0.toInt < ((V 19 (Int32.toNatClampNeg (V 0 11)))).toInt := b_nle rfl rfl c7
      refine lv_iload_n hx hb dX12_component_18 rfl (lv_at hl 2 rfl) ?_
      refine lv_if_lt (tgt := 31) hx hb dX12_component_19 (by decide) (fun c11 => ?_) (fun c11 => ?_)
      · skip
        have f12 : p1.toInt < 0 := b_lt rfl (by decide) c11
        refine lv_iconst (v := 1) hx hb dX12_component_31 (by decide) ?_
        refine va_put (D := D) (ci := 12) (v := .int 1) (ty := tyX12 0) (C := RX12) (T := TX12) (N := 100) hx hb hg inX12 tyX12 tyX12_ok nmX12 hown hK hP hD hS 0 rfl rfl 0 (by decide) (hg _ w1706) (fun _ h9 => h9) rfl (tyX12_ok 0 (by decide)) rfl rfl (Nat.le_of_ble_eq_true rfl) dX12_component_32 (fun H locs hP hD hS => ?_)
        obtain ⟨V13, hV13⟩ : ∃ z, z = up2 V 0 0 1 := ⟨_, rfl⟩
        have hP : va_P D vwCl (mw ad kk ks.1 V13 L) H := by rw [hV13]; exact hP
        have hD : va_D A (mw ad kk ks.1 V13 L) := by rw [hV13]; exact hD
        have hMV13 : rgd bM V13 := hMV.put hV13 (i_full _)
        have agV13 : agr [(0, 0)] [] V V13 := agV.up hV13 rfl
        refine lv_aload_n hx hb dX12_component_35 rfl (lv_at hl 0 rfl) ?_
        refine va_get (D := D) (ci := 12) (v := .int (V13 0 0)) (C := RX12) (T := TX12) (N := 100) hx hb hg inX12 hown hK hP 0 rfl rfl 0 (by decide) (hg _ w1706) (fun _ h9 => h9) rfl dX12_component_36 ?_
        refine g_top (v := 1) (up2_s hV13) ?_
        refine lv_if_le (tgt := 44) hx hb dX12_component_39 (by decide) (fun q => absurd q (by decide)) (fun _ => ?_)
        refine lv_iconst (v := 0) hx hb dX12_component_42 (by decide) ?_
        exact W.iret (v := 0) hx hb hr (fun t ht hW => ⟨⟨0, (V13, L), rfl, ⟨hMV13, agV13, rfl⟩, by rw [ht]; exact hP, va_K.moved hW.alike hK, hD⟩, hS.F ht⟩) hS.2.2 dX12_component_43
      · skip
        have f14 : 0 ≤ p1.toInt := b_nlt rfl (by decide) c11
        refine lv_iload_n hx hb dX12_component_22 rfl (lv_at hl 2 rfl) ?_
        refine lv_iconst (v := 4) hx hb dX12_component_23 (by decide) ?_
        refine lv_icmp_gt (tgt := 31) hx hb dX12_component_24 (by decide) (fun c15 => ?_) (fun c15 => ?_)
        · skip
          have f16 : 4 < p1.toInt := b_lt (by decide) rfl c15
          refine lv_iconst (v := 1) hx hb dX12_component_31 (by decide) ?_
          refine va_put (D := D) (ci := 12) (v := .int 1) (ty := tyX12 0) (C := RX12) (T := TX12) (N := 100) hx hb hg inX12 tyX12 tyX12_ok nmX12 hown hK hP hD hS 0 rfl rfl 0 (by decide) (hg _ w1706) (fun _ h9 => h9) rfl (tyX12_ok 0 (by decide)) rfl rfl (Nat.le_of_ble_eq_true rfl) dX12_component_32 (fun H locs hP hD hS => ?_)
          obtain ⟨V17, hV17⟩ : ∃ z, z = up2 V 0 0 1 := ⟨_, rfl⟩
          have hP : va_P D vwCl (mw ad kk ks.1 V17 L) H := by rw [hV17]; exact hP
          have hD : va_D A (mw ad kk ks.1 V17 L) := by rw [hV17]; exact hD
          have hMV17 : rgd bM V17 := hMV.put hV17 (i_full _)
          have agV17 : agr [(0, 0)] [] V V17 := agV.up hV17 rfl
          refine lv_aload_n hx hb dX12_component_35 rfl (lv_at hl 0 rfl) ?_
          refine va_get (D := D) (ci := 12) (v := .int (V17 0 0)) (C := RX12) (T := TX12) (N := 100) hx hb hg inX12 hown hK hP 0 rfl rfl 0 (by decide) (hg _ w1706) (fun _ h9 => h9) rfl dX12_component_36 ?_
          refine g_top (v := 1) (up2_s hV17) ?_
          refine lv_if_le (tgt := 44) hx hb dX12_component_39 (by decide) (fun q => absurd q (by decide)) (fun _ => ?_)
          refine lv_iconst (v := 0) hx hb dX12_component_42 (by decide) ?_
          exact W.iret (v := 0) hx hb hr (fun t ht hW => ⟨⟨0, (V17, L), rfl, ⟨hMV17, agV17, rfl⟩, by rw [ht]; exact hP, va_K.moved hW.alike hK, hD⟩, hS.F ht⟩) hS.2.2 dX12_component_43
        · skip
          have f18 : p1.toInt ≤ 4 := b_nlt (by decide) rfl c15
          refine lv_iconst (v := 0) hx hb dX12_component_27 (by decide) ?_
          refine lv_goto (tgt := 32) hx hb dX12_component_28 (by decide) ?_
          refine va_put (D := D) (ci := 12) (v := .int 0) (ty := tyX12 0) (C := RX12) (T := TX12) (N := 100) hx hb hg inX12 tyX12 tyX12_ok nmX12 hown hK hP hD hS 0 rfl rfl 0 (by decide) (hg _ w1706) (fun _ h9 => h9) rfl (tyX12_ok 0 (by decide)) rfl rfl (Nat.le_of_ble_eq_true rfl) dX12_component_32 (fun H locs hP hD hS => ?_)
          obtain ⟨V19, hV19⟩ : ∃ z, z = up2 V 0 0 0 := ⟨_, rfl⟩
          have hP : va_P D vwCl (mw ad kk ks.1 V19 L) H := by rw [hV19]; exact hP
          have hD : va_D A (mw ad kk ks.1 V19 L) := by rw [hV19]; exact hD
          have hMV19 : rgd bM V19 := hMV.put hV19 (i_full _)
          have agV19 : agr [(0, 0)] [] V V19 := agV.up hV19 rfl
          refine lv_aload_n hx hb dX12_component_35 rfl (lv_at hl 0 rfl) ?_
          refine va_get (D := D) (ci := 12) (v := .int (V19 0 0)) (C := RX12) (T := TX12) (N := 100) hx hb hg inX12 hown hK hP 0 rfl rfl 0 (by decide) (hg _ w1706) (fun _ h9 => h9) rfl dX12_component_36 ?_
          refine g_top (v := 0) (up2_s hV19) ?_
          refine lv_if_le (tgt := 44) hx hb dX12_component_39 (by decide) (fun _ => ?_) (fun q => absurd (by decide) q)
          refine lv_bipush (v := 24) hx hb dX12_component_44 (by decide) ?_
          refine lv_aload_n hx hb dX12_component_46 rfl (lv_at hl 0 rfl) ?_
          refine va_get (D := D) (ci := 12) (v := .int (V19 0 11)) (C := RX12) (T := TX12) (N := 100) hx hb hg inX12 hown hK hP 0 rfl rfl 11 (by decide) (hg _ w1717) (fun _ h9 => h9) rfl dX12_component_47 ?_
          refine g_top (v := (V 0 11)) (up2_k hV19 (by decide)) ?_
          refine lv_imul hx hb dX12_component_50 ?_
          refine lv_topi (fun z20 ez20 => ?_)
          have hz20 : z20.toInt = 24 * ((V 0 11)).toInt := i_mul ez20 (by decide) rfl (by omega)
          refine lv_iload_n hx hb dX12_component_51 rfl (lv_at hl 1 rfl) ?_
          refine lv_iadd hx hb dX12_component_52 ?_
          refine lv_topi (fun z21 ez21 => ?_)
          have hz21 : z21.toInt = z20.toInt + p0.toInt := i_add ez21 rfl rfl (by omega)
          refine lv_istore_n (lv' := [(3, .int z21), (0, .ref (ad 0)), (1, .int p0), (2, .int p1)]) hx hb dX12_component_53 rfl hl (by decide) rfl (fun ls hl => ?_)
          refine lv_iload_n hx hb dX12_component_54 rfl (lv_at hl 3 rfl) ?_
          refine lv_if_ne (tgt := 67) hx hb dX12_component_55 (by decide) (fun c22 => ?_) (fun c22 => ?_)
          · skip
            have f23 : p1.toInt ≠ 0 := b_neq rfl (by decide) c22
            refine lv_iload_n hx hb dX12_component_67 rfl (lv_at hl 3 rfl) ?_
            refine lv_iconst (v := 1) hx hb dX12_component_68 (by decide) ?_
            refine lv_icmp_ne (tgt := 81) hx hb dX12_component_69 (by decide) (fun c24 => ?_) (fun c24 => ?_)
            · skip
              have f25 : p1.toInt ≠ 1 := b_neq rfl (by decide) c24
              refine lv_iload_n hx hb dX12_component_81 rfl (lv_at hl 3 rfl) ?_
              refine lv_iconst (v := 2) hx hb dX12_component_82 (by decide) ?_
              refine lv_icmp_ne (tgt := 102) hx hb dX12_component_83 (by decide) (fun c26 => ?_) (fun c26 => ?_)
              · skip
                have f27 : p1.toInt ≠ 2 := b_neq rfl (by decide) c26
                refine lv_iload_n hx hb dX12_component_102 rfl (lv_at hl 3 rfl) ?_
                refine lv_iconst (v := 3) hx hb dX12_component_103 (by decide) ?_
                refine lv_icmp_ne (tgt := 116) hx hb dX12_component_104 (by decide) (fun c28 => ?_) (fun c28 => ?_)
                · skip
                  have f29 : p1.toInt ≠ 3 := b_neq rfl (by decide) c28
                  refine lv_aload_n hx hb dX12_component_116 rfl (lv_at hl 1 rfl) ?_
                  refine va_get (D := D) (ci := 12) (v := .ref (ad 23)) (C := RX12) (T := TX12) (N := 100) hx hb hg inX12 hown hK hP 0 rfl rfl 23 (by decide) (hg _ w1729) (fun _ h9 => h9) rfl dX12_component_117 ?_
                  refine lv_iload_n hx hb dX12_component_120 rfl (lv_at hl 0 rfl) ?_
                  refine va_iald (D := D) (i := z21) hx hb hK hP 16 15 rfl rfl (i_in (a := z21.toInt) rfl (by omega)) dX12_component_121 ?_
                  refine g_top (v := (V 23 (Int32.toNatClampNeg z21))) (up2_o hV19 (by decide)) ?_
                  exact W.iret (v := (V 23 (Int32.toNatClampNeg z21))) hx hb hr (fun t ht hW => ⟨⟨(V 23 (Int32.toNatClampNeg z21)), (V19, L), rfl, ⟨hMV19, agV19, rfl⟩, by rw [ht]; exact hP, va_K.moved hW.alike hK, hD⟩, hS.F ht⟩) hS.2.2 dX12_component_122
                · skip
                  have f30 : p1.toInt = 3 := b_eq rfl (by decide) c28
                  refine lv_aload_n hx hb dX12_component_107 rfl (lv_at hl 1 rfl) ?_
                  refine va_get (D := D) (ci := 12) (v := .ref (ad 27)) (C := RX12) (T := TX12) (N := 100) hx hb hg inX12 hown hK hP 0 rfl rfl 27 (by decide) (hg _ w1733) (fun _ h9 => h9) rfl dX12_component_108 ?_
                  refine lv_iload_n hx hb dX12_component_111 rfl (lv_at hl 0 rfl) ?_
                  refine va_iald (D := D) (i := z21) hx hb hK hP 20 19 rfl rfl (i_in (a := z21.toInt) rfl (by omega)) dX12_component_112 ?_
                  refine g_top (v := (V 27 (Int32.toNatClampNeg z21))) (up2_o hV19 (by decide)) ?_
                  have r31 : 0 ≤ ((V 27 (Int32.toNatClampNeg z21))).toInt ∧ ((V 27 (Int32.toNatClampNeg z21))).toInt ≤ 8 := hMV 27 (Int32.toNatClampNeg z21)
                  refine lv_goto (tgt := 122) hx hb dX12_component_113 (by decide) ?_
                  exact W.iret (v := (V 27 (Int32.toNatClampNeg z21))) hx hb hr (fun t ht hW => ⟨⟨(V 27 (Int32.toNatClampNeg z21)), (V19, L), rfl, ⟨hMV19, agV19, rfl⟩, by rw [ht]; exact hP, va_K.moved hW.alike hK, hD⟩, hS.F ht⟩) hS.2.2 dX12_component_122
              · skip
                have f32 : p1.toInt = 2 := b_eq rfl (by decide) c26
                refine lv_aload_n hx hb dX12_component_86 rfl (lv_at hl 1 rfl) ?_
                refine lv_iload_n hx hb dX12_component_87 rfl (lv_at hl 2 rfl) ?_
                refine gA_int (gA_runV (As := [.int p0]) (rest := []) (ci := 12) (q0 := 0) hx hb hml hown hg hP hD hK hS hA hnw hgk (s_isThere l D ks H.size ad kk V19 L p0 hMV19 ) w2164 w2166 w117 w172 w2167 rfl rfl hdV_yX12_isThere ⟨Nat.le_of_ble_eq_true rfl, Nat.le_of_ble_eq_true rfl⟩ rfl hl.1 rfl (Nat.le_of_ble_eq_true rfl) dX12_component_88 ⟨Nat.le_of_ble_eq_true rfl, Nat.le_of_ble_eq_true rfl⟩) hP hD hK hS hA (fun z33 u34 H locs w35 hP hD hK hS => ?_)
                obtain ⟨rgz33, t36⟩ := w35
                replace rgz33 : 0 ≤ z33.toInt ∧ z33.toInt ≤ 1 := rgz33
                replace t36 : Imp (z33.toInt = 1) (0 ≤ p0.toInt ∧ p0.toInt ≤ 23) := t36
                refine lv_if_eq (tgt := 98) hx hb dX12_component_91 (by decide) (fun c37 => ?_) (fun c37 => ?_)
                · skip
                  have f38 : z33.toInt = 0 := b_eq rfl (by decide) c37
                  refine lv_iconst (v := 0) hx hb dX12_component_98 (by decide) ?_
                  refine lv_goto (tgt := 122) hx hb dX12_component_99 (by decide) ?_
                  exact W.iret (v := 0) hx hb hr (fun t ht hW => ⟨⟨0, (V19, L), rfl, ⟨hMV19, agV19, rfl⟩, by rw [ht]; exact hP, va_K.moved hW.alike hK, hD⟩, hS.F ht⟩) hS.2.2 dX12_component_122
                · skip
                  have f39 : z33.toInt ≠ 0 := b_neq rfl (by decide) c37
                  refine lv_iconst (v := 1) hx hb dX12_component_94 (by decide) ?_
                  refine lv_goto (tgt := 122) hx hb dX12_component_95 (by decide) ?_
                  exact W.iret (v := 1) hx hb hr (fun t ht hW => ⟨⟨1, (V19, L), rfl, ⟨hMV19, agV19, rfl⟩, by rw [ht]; exact hP, va_K.moved hW.alike hK, hD⟩, hS.F ht⟩) hS.2.2 dX12_component_122
            · skip
              have f40 : p1.toInt = 1 := b_eq rfl (by decide) c24
              refine lv_aload_n hx hb dX12_component_72 rfl (lv_at hl 1 rfl) ?_
              refine va_get (D := D) (ci := 12) (v := .ref (ad 24)) (C := RX12) (T := TX12) (N := 100) hx hb hg inX12 hown hK hP 0 rfl rfl 24 (by decide) (hg _ w1730) (fun _ h9 => h9) rfl dX12_component_73 ?_
              refine lv_iload_n hx hb dX12_component_76 rfl (lv_at hl 0 rfl) ?_
              refine va_iald (D := D) (i := z21) hx hb hK hP 17 16 rfl rfl (i_in (a := z21.toInt) rfl (by omega)) dX12_component_77 ?_
              refine g_top (v := (V 24 (Int32.toNatClampNeg z21))) (up2_o hV19 (by decide)) ?_
              have r41 : 0 ≤ ((V 24 (Int32.toNatClampNeg z21))).toInt ∧ ((V 24 (Int32.toNatClampNeg z21))).toInt ≤ 9 := hMV 24 (Int32.toNatClampNeg z21)
              refine lv_goto (tgt := 122) hx hb dX12_component_78 (by decide) ?_
              exact W.iret (v := (V 24 (Int32.toNatClampNeg z21))) hx hb hr (fun t ht hW => ⟨⟨(V 24 (Int32.toNatClampNeg z21)), (V19, L), rfl, ⟨hMV19, agV19, rfl⟩, by rw [ht]; exact hP, va_K.moved hW.alike hK, hD⟩, hS.F ht⟩) hS.2.2 dX12_component_122
          · skip
            have f42 : p1.toInt = 0 := b_eq rfl (by decide) c22
            refine lv_aload_n hx hb dX12_component_58 rfl (lv_at hl 1 rfl) ?_
            refine va_get (D := D) (ci := 12) (v := .ref (ad 22)) (C := RX12) (T := TX12) (N := 100) hx hb hg inX12 hown hK hP 0 rfl rfl 22 (by decide) (hg _ w1728) (fun _ h9 => h9) rfl dX12_component_59 ?_
            refine lv_iload_n hx hb dX12_component_62 rfl (lv_at hl 0 rfl) ?_
            refine va_iald (D := D) (i := z21) hx hb hK hP 15 14 rfl rfl (i_in (a := z21.toInt) rfl (by omega)) dX12_component_63 ?_
            refine g_top (v := (V 22 (Int32.toNatClampNeg z21))) (up2_o hV19 (by decide)) ?_
            refine lv_goto (tgt := 122) hx hb dX12_component_64 (by decide) ?_
            exact W.iret (v := (V 22 (Int32.toNatClampNeg z21))) hx hb hr (fun t ht hW => ⟨⟨(V 22 (Int32.toNatClampNeg z21)), (V19, L), rfl, ⟨hMV19, agV19, rfl⟩, by rw [ht]; exact hP, va_K.moved hW.alike hK, hD⟩, hS.F ht⟩) hS.2.2 dX12_component_122
abbrev r_s_count : Room := { frames := 0, cells := 0, slots := 0, locals := 0 }
abbrev q_s_count (D : va_G) (ks : KS) (ad : Nat → Nat) (kk : Nat → ClassId) (V : Vf) (L : Lf) (p0 : Int32) (A : Nat → Prop) : Array Value → State → Outcome → State → Prop := va_Qi (fun (r : Int32) (u : Vf × Lf) => rgd bM u.1 ∧ agr [(0, 0)] [] V u.1 ∧ u.2 = L) (fun u t => gq D A (mw ad kk ks.1 u.1 u.2) (mty kk) t) A
abbrev r_s_notes : Room := { frames := 0, cells := 0, slots := 0, locals := 0 }
abbrev q_s_notes (D : va_G) (ks : KS) (ad : Nat → Nat) (kk : Nat → ClassId) (V : Vf) (L : Lf) (p0 : Int32) (p1 : Int32) (p2 : Int32) (A : Nat → Prop) : Array Value → State → Outcome → State → Prop := va_Qv (fun (u : Vf × Lf) => rgd bM u.1 ∧ agr [(0, 76)] [77, 78, 79] V u.1 ∧ u.2 = L ∧ ((u.1 0 76).toInt = (V 0 76).toInt + 1)) (fun u t => gq D A (mw ad kk ks.1 u.1 u.2) (mty kk) t) A