section
theorem w1760 : Cond.fieldLink RX12 408 "WiringHouseModel" "isReady" "Z" ∈ GW := gw_k tk9_7 165 (by decide +kernel) rfl
theorem w1761 : Cond.fieldLink RX12 244 "WiringHouseModel" "scopes" "I" ∈ GW := gw_k tk9_7 166 (by decide +kernel) rfl
theorem w1762 : Cond.fieldLink RX12 152 "WiringHouseModel" "isOpen" "[Z" ∈ GW := gw_k tk9_7 167 (by decide +kernel) rfl
theorem w1763 : Cond.fieldLink RX12 155 "WiringHouseModel" "scopeKind" "[I" ∈ GW := gw_k tk9_7 168 (by decide +kernel) rfl
theorem w1765 : Cond.fieldLink RX12 161 "WiringHouseModel" "spoilt" "[Z" ∈ GW := gw_k tk9_7 170 (by decide +kernel) rfl
theorem w1766 : Cond.fieldLink RX12 411 "WiringHouseModel" "objects" "I" ∈ GW := gw_k tk9_7 171 (by decide +kernel) rfl
theorem w1771 : Cond.fieldLink RX12 414 "WiringHouseModel" "makings" "I" ∈ GW := gw_k tk9_7 176 (by decide +kernel) rfl
theorem w1779 : Cond.fieldLink RX12 417 "WiringHouseModel" "closeds" "I" ∈ GW := gw_k tk9_7 184 (by decide +kernel) rfl
theorem w1782 : Cond.fieldLink RX12 420 "WiringHouseModel" "dids" "I" ∈ GW := gw_k tk9_7 187 (by decide +kernel) rfl
theorem w1787 : Cond.fieldLink RX12 435 "WiringHouseModel" "faults" "I" ∈ GW := gw_k tk9_7 192 (by decide +kernel) rfl
theorem w1717 : Cond.fieldLink RX12 286 "WiringHouseModel" "now" "I" ∈ GW := gw_k tk9_7 122 (by decide +kernel) rfl
theorem w1731 : Cond.fieldLink RX12 80 "WiringHouseModel" "whenOf" "[I" ∈ GW := gw_k tk9_7 136 (by decide +kernel) rfl
theorem w1732 : Cond.fieldLink RX12 83 "WiringHouseModel" "whenIs" "[I" ∈ GW := gw_k tk9_7 137 (by decide +kernel) rfl
theorem w1728 : Cond.fieldLink RX12 71 "WiringHouseModel" "scopeOf" "[I" ∈ GW := gw_k tk9_7 133 (by decide +kernel) rfl
theorem w1764 : Cond.fieldLink RX12 158 "WiringHouseModel" "dayOf" "[I" ∈ GW := gw_k tk9_7 169 (by decide +kernel) rfl
theorem w1767 : Cond.fieldLink RX12 164 "WiringHouseModel" "objectOf" "[I" ∈ GW := gw_k tk9_7 172 (by decide +kernel) rfl
theorem w1768 : Cond.fieldLink RX12 167 "WiringHouseModel" "objectIn" "[I" ∈ GW := gw_k tk9_7 173 (by decide +kernel) rfl
theorem w1769 : Cond.fieldLink RX12 170 "WiringHouseModel" "state" "[I" ∈ GW := gw_k tk9_7 174 (by decide +kernel) rfl
theorem w1770 : Cond.fieldLink RX12 173 "WiringHouseModel" "madeAt" "[I" ∈ GW := gw_k tk9_7 175 (by decide +kernel) rfl
theorem w2218 : Cond.code yX12_scope cX12_scope 4 (some .int) ∈ GW := gw_k tk9_9 143 (rfl) rfl
theorem w2215 : Cond.methodLink RX12 571 yX12_scope ∈ GW := gw_k tk9_9 140 (by decide +kernel) rfl
theorem w2217 : Cond.instanceMethod yX12_scope ∈ GW := gw_k tk9_9 142 (by decide +kernel) rfl
theorem w125 : Cond.selects RX12 yX12_scope yX12_scope ∈ GW := gw_mem 125 (by decide +kernel) rfl
theorem hdV_yX12_scope : yX12_scope.cls = RX12 ∧ yX12_scope.cls ≠ "java/lang/invoke/MethodHandle" ∧ yX12_scope.cls ≠ "java/lang/invoke/VarHandle" ∧ (parseMethodDescriptor yX12_scope.desc).map (fun d => d.parameters.length) = some 2 := by decide +kernel
theorem w2226 : Cond.code yX12_isScope cX12_isScope 2 (some .boolean) ∈ GW := gw_k tk9_9 151 (rfl) rfl
theorem w2223 : Cond.methodLink RX12 574 yX12_isScope ∈ GW := gw_k tk9_9 148 (by decide +kernel) rfl
theorem w2225 : Cond.instanceMethod yX12_isScope ∈ GW := gw_k tk9_9 150 (by decide +kernel) rfl
theorem w126 : Cond.selects RX12 yX12_isScope yX12_isScope ∈ GW := gw_mem 126 (by decide +kernel) rfl
theorem hdV_yX12_isScope : yX12_isScope.cls = RX12 ∧ yX12_isScope.cls ≠ "java/lang/invoke/MethodHandle" ∧ yX12_isScope.cls ≠ "java/lang/invoke/VarHandle" ∧ (parseMethodDescriptor yX12_isScope.desc).map (fun d => d.parameters.length) = some 1 := by decide +kernel
theorem w1799 : Cond.fieldLink RX12 520 "WiringHouseModel" "within" "I" ∈ GW := gw_k tk9_7 204 (by decide +kernel) rfl
theorem w1804 : Cond.fieldLink RX12 548 "WiringHouseModel" "top" "I" ∈ GW := gw_k tk9_7 209 (by decide +kernel) rfl
theorem w1801 : Cond.fieldLink RX12 507 "WiringHouseModel" "freshMany" "I" ∈ GW := gw_k tk9_7 206 (by decide +kernel) rfl
theorem w1788 : Cond.fieldLink RX12 201 "WiringHouseModel" "faultKind" "[I" ∈ GW := gw_k tk9_7 193 (by decide +kernel) rfl
theorem w1789 : Cond.fieldLink RX12 204 "WiringHouseModel" "faultOf" "[I" ∈ GW := gw_k tk9_7 194 (by decide +kernel) rfl
theorem w1790 : Cond.fieldLink RX12 207 "WiringHouseModel" "faultNeed" "[I" ∈ GW := gw_k tk9_7 195 (by decide +kernel) rfl
theorem w1791 : Cond.fieldLink RX12 210 "WiringHouseModel" "cycles" "[I" ∈ GW := gw_k tk9_7 196 (by decide +kernel) rfl
theorem w1781 : Cond.fieldLink RX12 186 "WiringHouseModel" "closedKind" "[I" ∈ GW := gw_k tk9_7 186 (by decide +kernel) rfl
theorem w1780 : Cond.fieldLink RX12 183 "WiringHouseModel" "closedWhich" "[I" ∈ GW := gw_k tk9_7 185 (by decide +kernel) rfl
theorem w1785 : Cond.fieldLink RX12 195 "WiringHouseModel" "didArg" "[I" ∈ GW := gw_k tk9_7 190 (by decide +kernel) rfl
theorem w1784 : Cond.fieldLink RX12 192 "WiringHouseModel" "didWhich" "[I" ∈ GW := gw_k tk9_7 189 (by decide +kernel) rfl
theorem w1783 : Cond.fieldLink RX12 189 "WiringHouseModel" "didWhat" "[I" ∈ GW := gw_k tk9_7 188 (by decide +kernel) rfl
theorem w2246 : Cond.code yX12_placeOf cX12_placeOf 4 (some .int) ∈ GW := gw_k tk9_9 171 (rfl) rfl
theorem w2243 : Cond.methodLink RX12 481 yX12_placeOf ∈ GW := gw_k tk9_9 168 (by decide +kernel) rfl
theorem w2245 : Cond.instanceMethod yX12_placeOf ∈ GW := gw_k tk9_9 170 (by decide +kernel) rfl
theorem w130 : Cond.selects RX12 yX12_placeOf yX12_placeOf ∈ GW := gw_mem 130 (by decide +kernel) rfl
theorem hdV_yX12_placeOf : yX12_placeOf.cls = RX12 ∧ yX12_placeOf.cls ≠ "java/lang/invoke/MethodHandle" ∧ yX12_placeOf.cls ≠ "java/lang/invoke/VarHandle" ∧ (parseMethodDescriptor yX12_placeOf.desc).map (fun d => d.parameters.length) = some 2 := by decide +kernel
theorem w1729 : Cond.fieldLink RX12 74 "WiringHouseModel" "calledOf" "[I" ∈ GW := gw_k tk9_7 134 (by decide +kernel) rfl
theorem w1733 : Cond.fieldLink RX12 86 "WiringHouseModel" "needs" "[I" ∈ GW := gw_k tk9_7 138 (by decide +kernel) rfl
theorem w2167 : Cond.code yX12_isThere cX12_isThere 3 (some .boolean) ∈ GW := gw_k tk9_9 92 (rfl) rfl
theorem w2164 : Cond.methodLink RX12 438 yX12_isThere ∈ GW := gw_k tk9_9 89 (by decide +kernel) rfl
theorem w2166 : Cond.instanceMethod yX12_isThere ∈ GW := gw_k tk9_9 91 (by decide +kernel) rfl
theorem w117 : Cond.selects RX12 yX12_isThere yX12_isThere ∈ GW := gw_mem 117 (by decide +kernel) rfl
theorem hdV_yX12_isThere : yX12_isThere.cls = RX12 ∧ yX12_isThere.cls ≠ "java/lang/invoke/MethodHandle" ∧ yX12_isThere.cls ≠ "java/lang/invoke/VarHandle" ∧ (parseMethodDescriptor yX12_isThere.desc).map (fun d => d.parameters.length) = some 1 := by decide +kernel
theorem w1730 : Cond.fieldLink RX12 77 "WiringHouseModel" "rankOf" "[I" ∈ GW := gw_k tk9_7 135 (by decide +kernel) rfl
theorem w1741 : Cond.fieldLink RX12 110 "WiringHouseModel" "methods" "[I" ∈ GW := gw_k tk9_7 146 (by decide +kernel) rfl
theorem w1745 : Cond.fieldLink RX12 122 "WiringHouseModel" "wraps" "[I" ∈ GW := gw_k tk9_7 150 (by decide +kernel) rfl
theorem w1708 : Cond.fieldLink RX12 11 "WiringHouseModel" "taped" "I" ∈ GW := gw_k tk9_7 113 (by decide +kernel) rfl
theorem dk9_dX12_forget_0_0 : dOk cX12_forget [(0, .aload_n 0, 1), (1, .iconst 0, 1), (2, .putfield 408, 3), (5, .aload_n 0, 1), (6, .iconst 1, 1), (7, .putfield 244, 3), (10, .aload_n 0, 1), (11, .getfield 152, 3), (14, .iconst 0, 1), (15, .iconst 1, 1), (16, .bastore, 1), (17, .aload_n 0, 1), (18, .getfield 155, 3), (21, .iconst 0, 1), (22, .iconst 0, 1), (23, .iastore, 1), (24, .iconst 0, 1), (25, .istore_n 1, 1), (26, .iload_n 1, 1), (27, .sipush 960, 3), (30, .if_icmp .ge 16, 3), (33, .aload_n 0, 1), (34, .getfield 161, 3), (37, .iload_n 1, 1)] = true ∧ dOk cX12_forget [(38, .iconst 0, 1), (39, .bastore, 1), (40, .iinc 1 1, 3), (43, .goto (-17), 3), (46, .aload_n 0, 1), (47, .iconst 0, 1), (48, .putfield 411, 3), (51, .aload_n 0, 1), (52, .iconst 0, 1), (53, .putfield 414, 3), (56, .aload_n 0, 1), (57, .iconst 0, 1), (58, .putfield 417, 3), (61, .aload_n 0, 1), (62, .iconst 0, 1), (63, .putfield 420, 3), (66, .aload_n 0, 1), (67, .iconst 0, 1), (68, .putfield 423, 3), (71, .aload_n 0, 1), (72, .iconst 0, 1), (73, .putfield 426, 3), (76, .aload_n 0, 1), (77, .iconst 0, 1)] = true ∧ dOk cX12_forget [(78, .putfield 429, 3), (81, .aload_n 0, 1), (82, .iconst 0, 1), (83, .putfield 432, 3), (86, .aload_n 0, 1), (87, .iconst 0, 1), (88, .putfield 435, 3), (91, .return_, 1)] = true := by decide +kernel
theorem dX12_forget_0 : decode cX12_forget 0 = .ok (.aload_n 0, 1) := dr9 dk9_dX12_forget_0_0.1 0 (0, .aload_n 0, 1) rfl
theorem dX12_forget_1 : decode cX12_forget 1 = .ok (.iconst 0, 1) := dr9 dk9_dX12_forget_0_0.1 1 (1, .iconst 0, 1) rfl
theorem dX12_forget_2 : decode cX12_forget 2 = .ok (.putfield 408, 3) := dr9 dk9_dX12_forget_0_0.1 2 (2, .putfield 408, 3) rfl
theorem dX12_forget_5 : decode cX12_forget 5 = .ok (.aload_n 0, 1) := dr9 dk9_dX12_forget_0_0.1 3 (5, .aload_n 0, 1) rfl
theorem dX12_forget_6 : decode cX12_forget 6 = .ok (.iconst 1, 1) := dr9 dk9_dX12_forget_0_0.1 4 (6, .iconst 1, 1) rfl
theorem dX12_forget_7 : decode cX12_forget 7 = .ok (.putfield 244, 3) := dr9 dk9_dX12_forget_0_0.1 5 (7, .putfield 244, 3) rfl
theorem dX12_forget_10 : decode cX12_forget 10 = .ok (.aload_n 0, 1) := dr9 dk9_dX12_forget_0_0.1 6 (10, .aload_n 0, 1) rfl
theorem dX12_forget_11 : decode cX12_forget 11 = .ok (.getfield 152, 3) := dr9 dk9_dX12_forget_0_0.1 7 (11, .getfield 152, 3) rfl
theorem dX12_forget_14 : decode cX12_forget 14 = .ok (.iconst 0, 1) := dr9 dk9_dX12_forget_0_0.1 8 (14, .iconst 0, 1) rfl
theorem dX12_forget_15 : decode cX12_forget 15 = .ok (.iconst 1, 1) := dr9 dk9_dX12_forget_0_0.1 9 (15, .iconst 1, 1) rfl
theorem dX12_forget_16 : decode cX12_forget 16 = .ok (.bastore, 1) := dr9 dk9_dX12_forget_0_0.1 10 (16, .bastore, 1) rfl
theorem dX12_forget_17 : decode cX12_forget 17 = .ok (.aload_n 0, 1) := dr9 dk9_dX12_forget_0_0.1 11 (17, .aload_n 0, 1) rfl
theorem dX12_forget_18 : decode cX12_forget 18 = .ok (.getfield 155, 3) := dr9 dk9_dX12_forget_0_0.1 12 (18, .getfield 155, 3) rfl
theorem dX12_forget_21 : decode cX12_forget 21 = .ok (.iconst 0, 1) := dr9 dk9_dX12_forget_0_0.1 13 (21, .iconst 0, 1) rfl
theorem dX12_forget_22 : decode cX12_forget 22 = .ok (.iconst 0, 1) := dr9 dk9_dX12_forget_0_0.1 14 (22, .iconst 0, 1) rfl
theorem dX12_forget_23 : decode cX12_forget 23 = .ok (.iastore, 1) := dr9 dk9_dX12_forget_0_0.1 15 (23, .iastore, 1) rfl
theorem dX12_forget_24 : decode cX12_forget 24 = .ok (.iconst 0, 1) := dr9 dk9_dX12_forget_0_0.1 16 (24, .iconst 0, 1) rfl
theorem dX12_forget_25 : decode cX12_forget 25 = .ok (.istore_n 1, 1) := dr9 dk9_dX12_forget_0_0.1 17 (25, .istore_n 1, 1) rfl
theorem dX12_forget_26 : decode cX12_forget 26 = .ok (.iload_n 1, 1) := dr9 dk9_dX12_forget_0_0.1 18 (26, .iload_n 1, 1) rfl
theorem dX12_forget_27 : decode cX12_forget 27 = .ok (.sipush 960, 3) := dr9 dk9_dX12_forget_0_0.1 19 (27, .sipush 960, 3) rfl
theorem dX12_forget_30 : decode cX12_forget 30 = .ok (.if_icmp .ge 16, 3) := dr9 dk9_dX12_forget_0_0.1 20 (30, .if_icmp .ge 16, 3) rfl
theorem dX12_forget_33 : decode cX12_forget 33 = .ok (.aload_n 0, 1) := dr9 dk9_dX12_forget_0_0.1 21 (33, .aload_n 0, 1) rfl
theorem dX12_forget_34 : decode cX12_forget 34 = .ok (.getfield 161, 3) := dr9 dk9_dX12_forget_0_0.1 22 (34, .getfield 161, 3) rfl
theorem dX12_forget_37 : decode cX12_forget 37 = .ok (.iload_n 1, 1) := dr9 dk9_dX12_forget_0_0.1 23 (37, .iload_n 1, 1) rfl
theorem dX12_forget_38 : decode cX12_forget 38 = .ok (.iconst 0, 1) := dr9 dk9_dX12_forget_0_0.2.1 0 (38, .iconst 0, 1) rfl
theorem dX12_forget_39 : decode cX12_forget 39 = .ok (.bastore, 1) := dr9 dk9_dX12_forget_0_0.2.1 1 (39, .bastore, 1) rfl
theorem dX12_forget_40 : decode cX12_forget 40 = .ok (.iinc 1 1, 3) := dr9 dk9_dX12_forget_0_0.2.1 2 (40, .iinc 1 1, 3) rfl
theorem dX12_forget_43 : decode cX12_forget 43 = .ok (.goto (-17), 3) := dr9 dk9_dX12_forget_0_0.2.1 3 (43, .goto (-17), 3) rfl
theorem dX12_forget_46 : decode cX12_forget 46 = .ok (.aload_n 0, 1) := dr9 dk9_dX12_forget_0_0.2.1 4 (46, .aload_n 0, 1) rfl
theorem dX12_forget_47 : decode cX12_forget 47 = .ok (.iconst 0, 1) := dr9 dk9_dX12_forget_0_0.2.1 5 (47, .iconst 0, 1) rfl
theorem dX12_forget_48 : decode cX12_forget 48 = .ok (.putfield 411, 3) := dr9 dk9_dX12_forget_0_0.2.1 6 (48, .putfield 411, 3) rfl
theorem dX12_forget_51 : decode cX12_forget 51 = .ok (.aload_n 0, 1) := dr9 dk9_dX12_forget_0_0.2.1 7 (51, .aload_n 0, 1) rfl
theorem dX12_forget_52 : decode cX12_forget 52 = .ok (.iconst 0, 1) := dr9 dk9_dX12_forget_0_0.2.1 8 (52, .iconst 0, 1) rfl
theorem dX12_forget_53 : decode cX12_forget 53 = .ok (.putfield 414, 3) := dr9 dk9_dX12_forget_0_0.2.1 9 (53, .putfield 414, 3) rfl
theorem dX12_forget_56 : decode cX12_forget 56 = .ok (.aload_n 0, 1) := dr9 dk9_dX12_forget_0_0.2.1 10 (56, .aload_n 0, 1) rfl
theorem dX12_forget_57 : decode cX12_forget 57 = .ok (.iconst 0, 1) := dr9 dk9_dX12_forget_0_0.2.1 11 (57, .iconst 0, 1) rfl
theorem dX12_forget_58 : decode cX12_forget 58 = .ok (.putfield 417, 3) := dr9 dk9_dX12_forget_0_0.2.1 12 (58, .putfield 417, 3) rfl
theorem dX12_forget_61 : decode cX12_forget 61 = .ok (.aload_n 0, 1) := dr9 dk9_dX12_forget_0_0.2.1 13 (61, .aload_n 0, 1) rfl
theorem dX12_forget_62 : decode cX12_forget 62 = .ok (.iconst 0, 1) := dr9 dk9_dX12_forget_0_0.2.1 14 (62, .iconst 0, 1) rfl
theorem dX12_forget_63 : decode cX12_forget 63 = .ok (.putfield 420, 3) := dr9 dk9_dX12_forget_0_0.2.1 15 (63, .putfield 420, 3) rfl
theorem dX12_forget_66 : decode cX12_forget 66 = .ok (.aload_n 0, 1) := dr9 dk9_dX12_forget_0_0.2.1 16 (66, .aload_n 0, 1) rfl
theorem dX12_forget_67 : decode cX12_forget 67 = .ok (.iconst 0, 1) := dr9 dk9_dX12_forget_0_0.2.1 17 (67, .iconst 0, 1) rfl
theorem dX12_forget_68 : decode cX12_forget 68 = .ok (.putfield 423, 3) := dr9 dk9_dX12_forget_0_0.2.1 18 (68, .putfield 423, 3) rfl
theorem dX12_forget_71 : decode cX12_forget 71 = .ok (.aload_n 0, 1) := dr9 dk9_dX12_forget_0_0.2.1 19 (71, .aload_n 0, 1) rfl
theorem dX12_forget_72 : decode cX12_forget 72 = .ok (.iconst 0, 1) := dr9 dk9_dX12_forget_0_0.2.1 20 (72, .iconst 0, 1) rfl
theorem dX12_forget_73 : decode cX12_forget 73 = .ok (.putfield 426, 3) := dr9 dk9_dX12_forget_0_0.2.1 21 (73, .putfield 426, 3) rfl
theorem dX12_forget_76 : decode cX12_forget 76 = .ok (.aload_n 0, 1) := dr9 dk9_dX12_forget_0_0.2.1 22 (76, .aload_n 0, 1) rfl
theorem dX12_forget_77 : decode cX12_forget 77 = .ok (.iconst 0, 1) := dr9 dk9_dX12_forget_0_0.2.1 23 (77, .iconst 0, 1) rfl
theorem dX12_forget_78 : decode cX12_forget 78 = .ok (.putfield 429, 3) := dr9 dk9_dX12_forget_0_0.2.2 0 (78, .putfield 429, 3) rfl
theorem dX12_forget_81 : decode cX12_forget 81 = .ok (.aload_n 0, 1) := dr9 dk9_dX12_forget_0_0.2.2 1 (81, .aload_n 0, 1) rfl
theorem dX12_forget_82 : decode cX12_forget 82 = .ok (.iconst 0, 1) := dr9 dk9_dX12_forget_0_0.2.2 2 (82, .iconst 0, 1) rfl
theorem dX12_forget_83 : decode cX12_forget 83 = .ok (.putfield 432, 3) := dr9 dk9_dX12_forget_0_0.2.2 3 (83, .putfield 432, 3) rfl
theorem dX12_forget_86 : decode cX12_forget 86 = .ok (.aload_n 0, 1) := dr9 dk9_dX12_forget_0_0.2.2 4 (86, .aload_n 0, 1) rfl
theorem dX12_forget_87 : decode cX12_forget 87 = .ok (.iconst 0, 1) := dr9 dk9_dX12_forget_0_0.2.2 5 (87, .iconst 0, 1) rfl
theorem dX12_forget_88 : decode cX12_forget 88 = .ok (.putfield 435, 3) := dr9 dk9_dX12_forget_0_0.2.2 6 (88, .putfield 435, 3) rfl
theorem dX12_forget_91 : decode cX12_forget 91 = .ok (.return_, 1) := dr9 dk9_dX12_forget_0_0.2.2 7 (91, .return_, 1) rfl
theorem dk9_dX12_isThere_0_0 : dOk cX12_isThere [(0, .bipush 24, 2), (2, .aload_n 0, 1), (3, .getfield 286, 3), (6, .imul, 1), (7, .iload_n 1, 1), (8, .iadd, 1), (9, .istore_n 2, 1), (10, .iload_n 1, 1), (11, .ifCond .lt 57, 3), (68, .iconst 0, 1), (69, .ireturn, 1), (14, .iload_n 1, 1), (15, .aload_n 0, 1), (16, .getfield 62, 3), (19, .aload_n 0, 1), (20, .getfield 286, 3), (23, .iaload, 1), (24, .if_icmp .ge 44, 3), (27, .aload_n 0, 1), (28, .getfield 80, 3), (31, .iload_n 2, 1), (32, .iaload, 1), (33, .ifCond .lt 31, 3), (64, .iconst 1, 1)] = true ∧ dOk cX12_isThere [(65, .goto 4, 3), (36, .aload_n 0, 1), (37, .getfield 59, 3), (40, .bipush 12, 2), (42, .aload_n 0, 1), (43, .getfield 286, 3), (46, .imul, 1), (47, .aload_n 0, 1), (48, .getfield 80, 3), (51, .iload_n 2, 1), (52, .iaload, 1), (53, .iadd, 1), (54, .iaload, 1), (55, .aload_n 0, 1), (56, .getfield 83, 3), (59, .iload_n 2, 1), (60, .iaload, 1), (61, .if_icmp .ne 7, 3)] = true := by decide +kernel
theorem dX12_isThere_0 : decode cX12_isThere 0 = .ok (.bipush 24, 2) := dr9 dk9_dX12_isThere_0_0.1 0 (0, .bipush 24, 2) rfl
theorem dX12_isThere_2 : decode cX12_isThere 2 = .ok (.aload_n 0, 1) := dr9 dk9_dX12_isThere_0_0.1 1 (2, .aload_n 0, 1) rfl
theorem dX12_isThere_3 : decode cX12_isThere 3 = .ok (.getfield 286, 3) := dr9 dk9_dX12_isThere_0_0.1 2 (3, .getfield 286, 3) rfl
theorem dX12_isThere_6 : decode cX12_isThere 6 = .ok (.imul, 1) := dr9 dk9_dX12_isThere_0_0.1 3 (6, .imul, 1) rfl
theorem dX12_isThere_7 : decode cX12_isThere 7 = .ok (.iload_n 1, 1) := dr9 dk9_dX12_isThere_0_0.1 4 (7, .iload_n 1, 1) rfl
theorem dX12_isThere_8 : decode cX12_isThere 8 = .ok (.iadd, 1) := dr9 dk9_dX12_isThere_0_0.1 5 (8, .iadd, 1) rfl
theorem dX12_isThere_9 : decode cX12_isThere 9 = .ok (.istore_n 2, 1) := dr9 dk9_dX12_isThere_0_0.1 6 (9, .istore_n 2, 1) rfl
theorem dX12_isThere_10 : decode cX12_isThere 10 = .ok (.iload_n 1, 1) := dr9 dk9_dX12_isThere_0_0.1 7 (10, .iload_n 1, 1) rfl
theorem dX12_isThere_11 : decode cX12_isThere 11 = .ok (.ifCond .lt 57, 3) := dr9 dk9_dX12_isThere_0_0.1 8 (11, .ifCond .lt 57, 3) rfl
theorem dX12_isThere_68 : decode cX12_isThere 68 = .ok (.iconst 0, 1) := dr9 dk9_dX12_isThere_0_0.1 9 (68, .iconst 0, 1) rfl
theorem dX12_isThere_69 : decode cX12_isThere 69 = .ok (.ireturn, 1) := dr9 dk9_dX12_isThere_0_0.1 10 (69, .ireturn, 1) rfl
theorem dX12_isThere_14 : decode cX12_isThere 14 = .ok (.iload_n 1, 1) := dr9 dk9_dX12_isThere_0_0.1 11 (14, .iload_n 1, 1) rfl
theorem dX12_isThere_15 : decode cX12_isThere 15 = .ok (.aload_n 0, 1) := dr9 dk9_dX12_isThere_0_0.1 12 (15, .aload_n 0, 1) rfl
theorem dX12_isThere_16 : decode cX12_isThere 16 = .ok (.getfield 62, 3) := dr9 dk9_dX12_isThere_0_0.1 13 (16, .getfield 62, 3) rfl
theorem dX12_isThere_19 : decode cX12_isThere 19 = .ok (.aload_n 0, 1) := dr9 dk9_dX12_isThere_0_0.1 14 (19, .aload_n 0, 1) rfl
theorem dX12_isThere_20 : decode cX12_isThere 20 = .ok (.getfield 286, 3) := dr9 dk9_dX12_isThere_0_0.1 15 (20, .getfield 286, 3) rfl
theorem dX12_isThere_23 : decode cX12_isThere 23 = .ok (.iaload, 1) := dr9 dk9_dX12_isThere_0_0.1 16 (23, .iaload, 1) rfl
theorem dX12_isThere_24 : decode cX12_isThere 24 = .ok (.if_icmp .ge 44, 3) := dr9 dk9_dX12_isThere_0_0.1 17 (24, .if_icmp .ge 44, 3) rfl
theorem dX12_isThere_27 : decode cX12_isThere 27 = .ok (.aload_n 0, 1) := dr9 dk9_dX12_isThere_0_0.1 18 (27, .aload_n 0, 1) rfl
theorem dX12_isThere_28 : decode cX12_isThere 28 = .ok (.getfield 80, 3) := dr9 dk9_dX12_isThere_0_0.1 19 (28, .getfield 80, 3) rfl
theorem dX12_isThere_31 : decode cX12_isThere 31 = .ok (.iload_n 2, 1) := dr9 dk9_dX12_isThere_0_0.1 20 (31, .iload_n 2, 1) rfl
theorem dX12_isThere_32 : decode cX12_isThere 32 = .ok (.iaload, 1) := dr9 dk9_dX12_isThere_0_0.1 21 (32, .iaload, 1) rfl
theorem dX12_isThere_33 : decode cX12_isThere 33 = .ok (.ifCond .lt 31, 3) := dr9 dk9_dX12_isThere_0_0.1 22 (33, .ifCond .lt 31, 3) rfl
theorem dX12_isThere_64 : decode cX12_isThere 64 = .ok (.iconst 1, 1) := dr9 dk9_dX12_isThere_0_0.1 23 (64, .iconst 1, 1) rfl
theorem dX12_isThere_65 : decode cX12_isThere 65 = .ok (.goto 4, 3) := dr9 dk9_dX12_isThere_0_0.2 0 (65, .goto 4, 3) rfl
theorem dX12_isThere_36 : decode cX12_isThere 36 = .ok (.aload_n 0, 1) := dr9 dk9_dX12_isThere_0_0.2 1 (36, .aload_n 0, 1) rfl
theorem dX12_isThere_37 : decode cX12_isThere 37 = .ok (.getfield 59, 3) := dr9 dk9_dX12_isThere_0_0.2 2 (37, .getfield 59, 3) rfl
theorem dX12_isThere_40 : decode cX12_isThere 40 = .ok (.bipush 12, 2) := dr9 dk9_dX12_isThere_0_0.2 3 (40, .bipush 12, 2) rfl
theorem dX12_isThere_42 : decode cX12_isThere 42 = .ok (.aload_n 0, 1) := dr9 dk9_dX12_isThere_0_0.2 4 (42, .aload_n 0, 1) rfl
theorem dX12_isThere_43 : decode cX12_isThere 43 = .ok (.getfield 286, 3) := dr9 dk9_dX12_isThere_0_0.2 5 (43, .getfield 286, 3) rfl
theorem dX12_isThere_46 : decode cX12_isThere 46 = .ok (.imul, 1) := dr9 dk9_dX12_isThere_0_0.2 6 (46, .imul, 1) rfl
theorem dX12_isThere_47 : decode cX12_isThere 47 = .ok (.aload_n 0, 1) := dr9 dk9_dX12_isThere_0_0.2 7 (47, .aload_n 0, 1) rfl
theorem dX12_isThere_48 : decode cX12_isThere 48 = .ok (.getfield 80, 3) := dr9 dk9_dX12_isThere_0_0.2 8 (48, .getfield 80, 3) rfl
theorem dX12_isThere_51 : decode cX12_isThere 51 = .ok (.iload_n 2, 1) := dr9 dk9_dX12_isThere_0_0.2 9 (51, .iload_n 2, 1) rfl
theorem dX12_isThere_52 : decode cX12_isThere 52 = .ok (.iaload, 1) := dr9 dk9_dX12_isThere_0_0.2 10 (52, .iaload, 1) rfl
theorem dX12_isThere_53 : decode cX12_isThere 53 = .ok (.iadd, 1) := dr9 dk9_dX12_isThere_0_0.2 11 (53, .iadd, 1) rfl
theorem dX12_isThere_54 : decode cX12_isThere 54 = .ok (.iaload, 1) := dr9 dk9_dX12_isThere_0_0.2 12 (54, .iaload, 1) rfl
theorem dX12_isThere_55 : decode cX12_isThere 55 = .ok (.aload_n 0, 1) := dr9 dk9_dX12_isThere_0_0.2 13 (55, .aload_n 0, 1) rfl
theorem dX12_isThere_56 : decode cX12_isThere 56 = .ok (.getfield 83, 3) := dr9 dk9_dX12_isThere_0_0.2 14 (56, .getfield 83, 3) rfl
theorem dX12_isThere_59 : decode cX12_isThere 59 = .ok (.iload_n 2, 1) := dr9 dk9_dX12_isThere_0_0.2 15 (59, .iload_n 2, 1) rfl
theorem dX12_isThere_60 : decode cX12_isThere 60 = .ok (.iaload, 1) := dr9 dk9_dX12_isThere_0_0.2 16 (60, .iaload, 1) rfl
theorem dX12_isThere_61 : decode cX12_isThere 61 = .ok (.if_icmp .ne 7, 3) := dr9 dk9_dX12_isThere_0_0.2 17 (61, .if_icmp .ne 7, 3) rfl
theorem dk9_dX12_placeOf_0_0 : dOk cX12_placeOf [(0, .aload_n 0, 1), (1, .getfield 71, 3), (4, .bipush 24, 2), (6, .aload_n 0, 1), (7, .getfield 286, 3), (10, .imul, 1), (11, .iload_n 1, 1), (12, .iadd, 1), (13, .iaload, 1), (14, .istore_n 3, 1), (15, .iload_n 3, 1), (16, .ifCond .ne 5, 3), (21, .iload_n 3, 1), (22, .iconst 3, 1), (23, .if_icmp .ne 5, 3), (28, .iload_n 3, 1), (29, .iconst 2, 1), (30, .if_icmp .ne 19, 3), (49, .aload_n 0, 1), (50, .getfield 155, 3), (53, .iload_n 2, 1), (54, .iaload, 1), (55, .iconst 1, 1), (56, .if_icmp .ne 7, 3)] = true ∧ dOk cX12_placeOf [(63, .aload_n 0, 1), (64, .getfield 155, 3), (67, .iload_n 2, 1), (68, .iaload, 1), (69, .iconst 2, 1), (70, .if_icmp .ne 12, 3), (82, .iconst (-1), 1), (83, .ireturn, 1), (73, .aload_n 0, 1), (74, .getfield 158, 3), (77, .iload_n 2, 1), (78, .iaload, 1), (79, .goto 4, 3), (59, .iload_n 2, 1), (60, .goto 23, 3), (33, .aload_n 0, 1), (34, .getfield 155, 3), (37, .iload_n 2, 1), (38, .iaload, 1), (39, .iconst 2, 1), (40, .if_icmp .ne 7, 3), (47, .iconst (-1), 1), (48, .ireturn, 1), (43, .iload_n 2, 1)] = true ∧ dOk cX12_placeOf [(44, .goto 4, 3), (26, .iload_n 2, 1), (27, .ireturn, 1), (19, .iconst 0, 1), (20, .ireturn, 1)] = true := by decide +kernel
theorem dX12_placeOf_0 : decode cX12_placeOf 0 = .ok (.aload_n 0, 1) := dr9 dk9_dX12_placeOf_0_0.1 0 (0, .aload_n 0, 1) rfl
theorem dX12_placeOf_1 : decode cX12_placeOf 1 = .ok (.getfield 71, 3) := dr9 dk9_dX12_placeOf_0_0.1 1 (1, .getfield 71, 3) rfl
theorem dX12_placeOf_4 : decode cX12_placeOf 4 = .ok (.bipush 24, 2) := dr9 dk9_dX12_placeOf_0_0.1 2 (4, .bipush 24, 2) rfl
theorem dX12_placeOf_6 : decode cX12_placeOf 6 = .ok (.aload_n 0, 1) := dr9 dk9_dX12_placeOf_0_0.1 3 (6, .aload_n 0, 1) rfl
theorem dX12_placeOf_7 : decode cX12_placeOf 7 = .ok (.getfield 286, 3) := dr9 dk9_dX12_placeOf_0_0.1 4 (7, .getfield 286, 3) rfl
theorem dX12_placeOf_10 : decode cX12_placeOf 10 = .ok (.imul, 1) := dr9 dk9_dX12_placeOf_0_0.1 5 (10, .imul, 1) rfl
theorem dX12_placeOf_11 : decode cX12_placeOf 11 = .ok (.iload_n 1, 1) := dr9 dk9_dX12_placeOf_0_0.1 6 (11, .iload_n 1, 1) rfl
theorem dX12_placeOf_12 : decode cX12_placeOf 12 = .ok (.iadd, 1) := dr9 dk9_dX12_placeOf_0_0.1 7 (12, .iadd, 1) rfl
theorem dX12_placeOf_13 : decode cX12_placeOf 13 = .ok (.iaload, 1) := dr9 dk9_dX12_placeOf_0_0.1 8 (13, .iaload, 1) rfl
theorem dX12_placeOf_14 : decode cX12_placeOf 14 = .ok (.istore_n 3, 1) := dr9 dk9_dX12_placeOf_0_0.1 9 (14, .istore_n 3, 1) rfl
theorem dX12_placeOf_15 : decode cX12_placeOf 15 = .ok (.iload_n 3, 1) := dr9 dk9_dX12_placeOf_0_0.1 10 (15, .iload_n 3, 1) rfl
theorem dX12_placeOf_16 : decode cX12_placeOf 16 = .ok (.ifCond .ne 5, 3) := dr9 dk9_dX12_placeOf_0_0.1 11 (16, .ifCond .ne 5, 3) rfl
theorem dX12_placeOf_21 : decode cX12_placeOf 21 = .ok (.iload_n 3, 1) := dr9 dk9_dX12_placeOf_0_0.1 12 (21, .iload_n 3, 1) rfl
theorem dX12_placeOf_22 : decode cX12_placeOf 22 = .ok (.iconst 3, 1) := dr9 dk9_dX12_placeOf_0_0.1 13 (22, .iconst 3, 1) rfl
theorem dX12_placeOf_23 : decode cX12_placeOf 23 = .ok (.if_icmp .ne 5, 3) := dr9 dk9_dX12_placeOf_0_0.1 14 (23, .if_icmp .ne 5, 3) rfl
theorem dX12_placeOf_28 : decode cX12_placeOf 28 = .ok (.iload_n 3, 1) := dr9 dk9_dX12_placeOf_0_0.1 15 (28, .iload_n 3, 1) rfl
theorem dX12_placeOf_29 : decode cX12_placeOf 29 = .ok (.iconst 2, 1) := dr9 dk9_dX12_placeOf_0_0.1 16 (29, .iconst 2, 1) rfl
theorem dX12_placeOf_30 : decode cX12_placeOf 30 = .ok (.if_icmp .ne 19, 3) := dr9 dk9_dX12_placeOf_0_0.1 17 (30, .if_icmp .ne 19, 3) rfl
theorem dX12_placeOf_49 : decode cX12_placeOf 49 = .ok (.aload_n 0, 1) := dr9 dk9_dX12_placeOf_0_0.1 18 (49, .aload_n 0, 1) rfl
theorem dX12_placeOf_50 : decode cX12_placeOf 50 = .ok (.getfield 155, 3) := dr9 dk9_dX12_placeOf_0_0.1 19 (50, .getfield 155, 3) rfl
theorem dX12_placeOf_53 : decode cX12_placeOf 53 = .ok (.iload_n 2, 1) := dr9 dk9_dX12_placeOf_0_0.1 20 (53, .iload_n 2, 1) rfl
theorem dX12_placeOf_54 : decode cX12_placeOf 54 = .ok (.iaload, 1) := dr9 dk9_dX12_placeOf_0_0.1 21 (54, .iaload, 1) rfl
theorem dX12_placeOf_55 : decode cX12_placeOf 55 = .ok (.iconst 1, 1) := dr9 dk9_dX12_placeOf_0_0.1 22 (55, .iconst 1, 1) rfl
theorem dX12_placeOf_56 : decode cX12_placeOf 56 = .ok (.if_icmp .ne 7, 3) := dr9 dk9_dX12_placeOf_0_0.1 23 (56, .if_icmp .ne 7, 3) rfl
theorem dX12_placeOf_63 : decode cX12_placeOf 63 = .ok (.aload_n 0, 1) := dr9 dk9_dX12_placeOf_0_0.2.1 0 (63, .aload_n 0, 1) rfl
theorem dX12_placeOf_64 : decode cX12_placeOf 64 = .ok (.getfield 155, 3) := dr9 dk9_dX12_placeOf_0_0.2.1 1 (64, .getfield 155, 3) rfl
theorem dX12_placeOf_67 : decode cX12_placeOf 67 = .ok (.iload_n 2, 1) := dr9 dk9_dX12_placeOf_0_0.2.1 2 (67, .iload_n 2, 1) rfl
theorem dX12_placeOf_68 : decode cX12_placeOf 68 = .ok (.iaload, 1) := dr9 dk9_dX12_placeOf_0_0.2.1 3 (68, .iaload, 1) rfl
theorem dX12_placeOf_69 : decode cX12_placeOf 69 = .ok (.iconst 2, 1) := dr9 dk9_dX12_placeOf_0_0.2.1 4 (69, .iconst 2, 1) rfl
theorem dX12_placeOf_70 : decode cX12_placeOf 70 = .ok (.if_icmp .ne 12, 3) := dr9 dk9_dX12_placeOf_0_0.2.1 5 (70, .if_icmp .ne 12, 3) rfl
theorem dX12_placeOf_82 : decode cX12_placeOf 82 = .ok (.iconst (-1), 1) := dr9 dk9_dX12_placeOf_0_0.2.1 6 (82, .iconst (-1), 1) rfl
theorem dX12_placeOf_83 : decode cX12_placeOf 83 = .ok (.ireturn, 1) := dr9 dk9_dX12_placeOf_0_0.2.1 7 (83, .ireturn, 1) rfl
theorem dX12_placeOf_73 : decode cX12_placeOf 73 = .ok (.aload_n 0, 1) := dr9 dk9_dX12_placeOf_0_0.2.1 8 (73, .aload_n 0, 1) rfl
theorem dX12_placeOf_74 : decode cX12_placeOf 74 = .ok (.getfield 158, 3) := dr9 dk9_dX12_placeOf_0_0.2.1 9 (74, .getfield 158, 3) rfl
theorem dX12_placeOf_77 : decode cX12_placeOf 77 = .ok (.iload_n 2, 1) := dr9 dk9_dX12_placeOf_0_0.2.1 10 (77, .iload_n 2, 1) rfl
theorem dX12_placeOf_78 : decode cX12_placeOf 78 = .ok (.iaload, 1) := dr9 dk9_dX12_placeOf_0_0.2.1 11 (78, .iaload, 1) rfl
theorem dX12_placeOf_79 : decode cX12_placeOf 79 = .ok (.goto 4, 3) := dr9 dk9_dX12_placeOf_0_0.2.1 12 (79, .goto 4, 3) rfl
theorem dX12_placeOf_59 : decode cX12_placeOf 59 = .ok (.iload_n 2, 1) := dr9 dk9_dX12_placeOf_0_0.2.1 13 (59, .iload_n 2, 1) rfl
theorem dX12_placeOf_60 : decode cX12_placeOf 60 = .ok (.goto 23, 3) := dr9 dk9_dX12_placeOf_0_0.2.1 14 (60, .goto 23, 3) rfl
theorem dX12_placeOf_33 : decode cX12_placeOf 33 = .ok (.aload_n 0, 1) := dr9 dk9_dX12_placeOf_0_0.2.1 15 (33, .aload_n 0, 1) rfl
theorem dX12_placeOf_34 : decode cX12_placeOf 34 = .ok (.getfield 155, 3) := dr9 dk9_dX12_placeOf_0_0.2.1 16 (34, .getfield 155, 3) rfl
theorem dX12_placeOf_37 : decode cX12_placeOf 37 = .ok (.iload_n 2, 1) := dr9 dk9_dX12_placeOf_0_0.2.1 17 (37, .iload_n 2, 1) rfl
theorem dX12_placeOf_38 : decode cX12_placeOf 38 = .ok (.iaload, 1) := dr9 dk9_dX12_placeOf_0_0.2.1 18 (38, .iaload, 1) rfl
theorem dX12_placeOf_39 : decode cX12_placeOf 39 = .ok (.iconst 2, 1) := dr9 dk9_dX12_placeOf_0_0.2.1 19 (39, .iconst 2, 1) rfl
theorem dX12_placeOf_40 : decode cX12_placeOf 40 = .ok (.if_icmp .ne 7, 3) := dr9 dk9_dX12_placeOf_0_0.2.1 20 (40, .if_icmp .ne 7, 3) rfl
theorem dX12_placeOf_47 : decode cX12_placeOf 47 = .ok (.iconst (-1), 1) := dr9 dk9_dX12_placeOf_0_0.2.1 21 (47, .iconst (-1), 1) rfl
theorem dX12_placeOf_48 : decode cX12_placeOf 48 = .ok (.ireturn, 1) := dr9 dk9_dX12_placeOf_0_0.2.1 22 (48, .ireturn, 1) rfl
theorem dX12_placeOf_43 : decode cX12_placeOf 43 = .ok (.iload_n 2, 1) := dr9 dk9_dX12_placeOf_0_0.2.1 23 (43, .iload_n 2, 1) rfl
theorem dX12_placeOf_44 : decode cX12_placeOf 44 = .ok (.goto 4, 3) := dr9 dk9_dX12_placeOf_0_0.2.2 0 (44, .goto 4, 3) rfl
theorem dX12_placeOf_26 : decode cX12_placeOf 26 = .ok (.iload_n 2, 1) := dr9 dk9_dX12_placeOf_0_0.2.2 1 (26, .iload_n 2, 1) rfl
theorem dX12_placeOf_27 : decode cX12_placeOf 27 = .ok (.ireturn, 1) := dr9 dk9_dX12_placeOf_0_0.2.2 2 (27, .ireturn, 1) rfl
theorem dX12_placeOf_19 : decode cX12_placeOf 19 = .ok (.iconst 0, 1) := dr9 dk9_dX12_placeOf_0_0.2.2 3 (19, .iconst 0, 1) rfl
theorem dX12_placeOf_20 : decode cX12_placeOf 20 = .ok (.ireturn, 1) := dr9 dk9_dX12_placeOf_0_0.2.2 4 (20, .ireturn, 1) rfl
theorem dk9_dX12_objectAt_0_0 : dOk cX12_objectAt [(0, .iconst (-1), 1), (1, .istore_n 3, 1), (2, .iconst 0, 1), (3, .istore 4, 2), (5, .iload 4, 2), (7, .aload_n 0, 1), (8, .getfield 411, 3), (11, .if_icmp .ge 49, 3), (60, .iload_n 3, 1), (61, .ireturn, 1), (14, .aload_n 0, 1), (15, .getfield 164, 3), (18, .iload 4, 2), (20, .iaload, 1), (21, .iload_n 1, 1), (22, .if_icmp .ne 30, 3), (52, .iload_n 3, 1), (53, .istore_n 3, 1), (54, .iinc 4 1, 3), (57, .goto (-52), 3), (25, .aload_n 0, 1), (26, .getfield 167, 3), (29, .iload 4, 2), (31, .iaload, 1)] = true ∧ dOk cX12_objectAt [(32, .iload_n 2, 1), (33, .if_icmp .ne 19, 3), (36, .aload_n 0, 1), (37, .getfield 170, 3), (40, .iload 4, 2), (42, .iaload, 1), (43, .iconst 2, 1), (44, .if_icmp .ge 8, 3), (47, .iload 4, 2), (49, .goto 4, 3)] = true := by decide +kernel
theorem dX12_objectAt_0 : decode cX12_objectAt 0 = .ok (.iconst (-1), 1) := dr9 dk9_dX12_objectAt_0_0.1 0 (0, .iconst (-1), 1) rfl
theorem dX12_objectAt_1 : decode cX12_objectAt 1 = .ok (.istore_n 3, 1) := dr9 dk9_dX12_objectAt_0_0.1 1 (1, .istore_n 3, 1) rfl
theorem dX12_objectAt_2 : decode cX12_objectAt 2 = .ok (.iconst 0, 1) := dr9 dk9_dX12_objectAt_0_0.1 2 (2, .iconst 0, 1) rfl
theorem dX12_objectAt_3 : decode cX12_objectAt 3 = .ok (.istore 4, 2) := dr9 dk9_dX12_objectAt_0_0.1 3 (3, .istore 4, 2) rfl
theorem dX12_objectAt_5 : decode cX12_objectAt 5 = .ok (.iload 4, 2) := dr9 dk9_dX12_objectAt_0_0.1 4 (5, .iload 4, 2) rfl
theorem dX12_objectAt_7 : decode cX12_objectAt 7 = .ok (.aload_n 0, 1) := dr9 dk9_dX12_objectAt_0_0.1 5 (7, .aload_n 0, 1) rfl
theorem dX12_objectAt_8 : decode cX12_objectAt 8 = .ok (.getfield 411, 3) := dr9 dk9_dX12_objectAt_0_0.1 6 (8, .getfield 411, 3) rfl
theorem dX12_objectAt_11 : decode cX12_objectAt 11 = .ok (.if_icmp .ge 49, 3) := dr9 dk9_dX12_objectAt_0_0.1 7 (11, .if_icmp .ge 49, 3) rfl
theorem dX12_objectAt_60 : decode cX12_objectAt 60 = .ok (.iload_n 3, 1) := dr9 dk9_dX12_objectAt_0_0.1 8 (60, .iload_n 3, 1) rfl
theorem dX12_objectAt_61 : decode cX12_objectAt 61 = .ok (.ireturn, 1) := dr9 dk9_dX12_objectAt_0_0.1 9 (61, .ireturn, 1) rfl
theorem dX12_objectAt_14 : decode cX12_objectAt 14 = .ok (.aload_n 0, 1) := dr9 dk9_dX12_objectAt_0_0.1 10 (14, .aload_n 0, 1) rfl
theorem dX12_objectAt_15 : decode cX12_objectAt 15 = .ok (.getfield 164, 3) := dr9 dk9_dX12_objectAt_0_0.1 11 (15, .getfield 164, 3) rfl
theorem dX12_objectAt_18 : decode cX12_objectAt 18 = .ok (.iload 4, 2) := dr9 dk9_dX12_objectAt_0_0.1 12 (18, .iload 4, 2) rfl
theorem dX12_objectAt_20 : decode cX12_objectAt 20 = .ok (.iaload, 1) := dr9 dk9_dX12_objectAt_0_0.1 13 (20, .iaload, 1) rfl
theorem dX12_objectAt_21 : decode cX12_objectAt 21 = .ok (.iload_n 1, 1) := dr9 dk9_dX12_objectAt_0_0.1 14 (21, .iload_n 1, 1) rfl
theorem dX12_objectAt_22 : decode cX12_objectAt 22 = .ok (.if_icmp .ne 30, 3) := dr9 dk9_dX12_objectAt_0_0.1 15 (22, .if_icmp .ne 30, 3) rfl
theorem dX12_objectAt_52 : decode cX12_objectAt 52 = .ok (.iload_n 3, 1) := dr9 dk9_dX12_objectAt_0_0.1 16 (52, .iload_n 3, 1) rfl
theorem dX12_objectAt_53 : decode cX12_objectAt 53 = .ok (.istore_n 3, 1) := dr9 dk9_dX12_objectAt_0_0.1 17 (53, .istore_n 3, 1) rfl
theorem dX12_objectAt_54 : decode cX12_objectAt 54 = .ok (.iinc 4 1, 3) := dr9 dk9_dX12_objectAt_0_0.1 18 (54, .iinc 4 1, 3) rfl
theorem dX12_objectAt_57 : decode cX12_objectAt 57 = .ok (.goto (-52), 3) := dr9 dk9_dX12_objectAt_0_0.1 19 (57, .goto (-52), 3) rfl
theorem dX12_objectAt_25 : decode cX12_objectAt 25 = .ok (.aload_n 0, 1) := dr9 dk9_dX12_objectAt_0_0.1 20 (25, .aload_n 0, 1) rfl
theorem dX12_objectAt_26 : decode cX12_objectAt 26 = .ok (.getfield 167, 3) := dr9 dk9_dX12_objectAt_0_0.1 21 (26, .getfield 167, 3) rfl
theorem dX12_objectAt_29 : decode cX12_objectAt 29 = .ok (.iload 4, 2) := dr9 dk9_dX12_objectAt_0_0.1 22 (29, .iload 4, 2) rfl
theorem dX12_objectAt_31 : decode cX12_objectAt 31 = .ok (.iaload, 1) := dr9 dk9_dX12_objectAt_0_0.1 23 (31, .iaload, 1) rfl
theorem dX12_objectAt_32 : decode cX12_objectAt 32 = .ok (.iload_n 2, 1) := dr9 dk9_dX12_objectAt_0_0.2 0 (32, .iload_n 2, 1) rfl
theorem dX12_objectAt_33 : decode cX12_objectAt 33 = .ok (.if_icmp .ne 19, 3) := dr9 dk9_dX12_objectAt_0_0.2 1 (33, .if_icmp .ne 19, 3) rfl
theorem dX12_objectAt_36 : decode cX12_objectAt 36 = .ok (.aload_n 0, 1) := dr9 dk9_dX12_objectAt_0_0.2 2 (36, .aload_n 0, 1) rfl
theorem dX12_objectAt_37 : decode cX12_objectAt 37 = .ok (.getfield 170, 3) := dr9 dk9_dX12_objectAt_0_0.2 3 (37, .getfield 170, 3) rfl
theorem dX12_objectAt_40 : decode cX12_objectAt 40 = .ok (.iload 4, 2) := dr9 dk9_dX12_objectAt_0_0.2 4 (40, .iload 4, 2) rfl
theorem dX12_objectAt_42 : decode cX12_objectAt 42 = .ok (.iaload, 1) := dr9 dk9_dX12_objectAt_0_0.2 5 (42, .iaload, 1) rfl
theorem dX12_objectAt_43 : decode cX12_objectAt 43 = .ok (.iconst 2, 1) := dr9 dk9_dX12_objectAt_0_0.2 6 (43, .iconst 2, 1) rfl
theorem dX12_objectAt_44 : decode cX12_objectAt 44 = .ok (.if_icmp .ge 8, 3) := dr9 dk9_dX12_objectAt_0_0.2 7 (44, .if_icmp .ge 8, 3) rfl
theorem dX12_objectAt_47 : decode cX12_objectAt 47 = .ok (.iload 4, 2) := dr9 dk9_dX12_objectAt_0_0.2 8 (47, .iload 4, 2) rfl
theorem dX12_objectAt_49 : decode cX12_objectAt 49 = .ok (.goto 4, 3) := dr9 dk9_dX12_objectAt_0_0.2 9 (49, .goto 4, 3) rfl
theorem dk9_dX12_latestIn_0_0 : dOk cX12_latestIn [(0, .iconst (-1), 1), (1, .istore_n 2, 1), (2, .iconst 0, 1), (3, .istore_n 3, 1), (4, .iload_n 3, 1), (5, .aload_n 0, 1), (6, .getfield 411, 3), (9, .if_icmp .ge 54, 3), (63, .iload_n 2, 1), (64, .ireturn, 1), (12, .aload_n 0, 1), (13, .getfield 170, 3), (16, .iload_n 3, 1), (17, .iaload, 1), (18, .iconst 1, 1), (19, .if_icmp .ne 36, 3), (55, .iload_n 2, 1), (56, .istore_n 2, 1), (57, .iinc 3 1, 3), (60, .goto (-56), 3), (22, .aload_n 0, 1), (23, .getfield 167, 3), (26, .iload_n 3, 1), (27, .iaload, 1)] = true ∧ dOk cX12_latestIn [(28, .iload_n 1, 1), (29, .if_icmp .ne 26, 3), (32, .iload_n 2, 1), (33, .ifCond .lt 18, 3), (51, .iload_n 3, 1), (52, .goto 4, 3), (36, .aload_n 0, 1), (37, .getfield 173, 3), (40, .iload_n 3, 1), (41, .iaload, 1), (42, .aload_n 0, 1), (43, .getfield 173, 3), (46, .iload_n 2, 1), (47, .iaload, 1), (48, .if_icmp .le 7, 3)] = true := by decide +kernel
theorem dX12_latestIn_0 : decode cX12_latestIn 0 = .ok (.iconst (-1), 1) := dr9 dk9_dX12_latestIn_0_0.1 0 (0, .iconst (-1), 1) rfl
theorem dX12_latestIn_1 : decode cX12_latestIn 1 = .ok (.istore_n 2, 1) := dr9 dk9_dX12_latestIn_0_0.1 1 (1, .istore_n 2, 1) rfl
theorem dX12_latestIn_2 : decode cX12_latestIn 2 = .ok (.iconst 0, 1) := dr9 dk9_dX12_latestIn_0_0.1 2 (2, .iconst 0, 1) rfl
theorem dX12_latestIn_3 : decode cX12_latestIn 3 = .ok (.istore_n 3, 1) := dr9 dk9_dX12_latestIn_0_0.1 3 (3, .istore_n 3, 1) rfl
theorem dX12_latestIn_4 : decode cX12_latestIn 4 = .ok (.iload_n 3, 1) := dr9 dk9_dX12_latestIn_0_0.1 4 (4, .iload_n 3, 1) rfl
theorem dX12_latestIn_5 : decode cX12_latestIn 5 = .ok (.aload_n 0, 1) := dr9 dk9_dX12_latestIn_0_0.1 5 (5, .aload_n 0, 1) rfl
theorem dX12_latestIn_6 : decode cX12_latestIn 6 = .ok (.getfield 411, 3) := dr9 dk9_dX12_latestIn_0_0.1 6 (6, .getfield 411, 3) rfl
theorem dX12_latestIn_9 : decode cX12_latestIn 9 = .ok (.if_icmp .ge 54, 3) := dr9 dk9_dX12_latestIn_0_0.1 7 (9, .if_icmp .ge 54, 3) rfl
theorem dX12_latestIn_63 : decode cX12_latestIn 63 = .ok (.iload_n 2, 1) := dr9 dk9_dX12_latestIn_0_0.1 8 (63, .iload_n 2, 1) rfl
theorem dX12_latestIn_64 : decode cX12_latestIn 64 = .ok (.ireturn, 1) := dr9 dk9_dX12_latestIn_0_0.1 9 (64, .ireturn, 1) rfl
theorem dX12_latestIn_12 : decode cX12_latestIn 12 = .ok (.aload_n 0, 1) := dr9 dk9_dX12_latestIn_0_0.1 10 (12, .aload_n 0, 1) rfl
theorem dX12_latestIn_13 : decode cX12_latestIn 13 = .ok (.getfield 170, 3) := dr9 dk9_dX12_latestIn_0_0.1 11 (13, .getfield 170, 3) rfl
theorem dX12_latestIn_16 : decode cX12_latestIn 16 = .ok (.iload_n 3, 1) := dr9 dk9_dX12_latestIn_0_0.1 12 (16, .iload_n 3, 1) rfl
theorem dX12_latestIn_17 : decode cX12_latestIn 17 = .ok (.iaload, 1) := dr9 dk9_dX12_latestIn_0_0.1 13 (17, .iaload, 1) rfl
theorem dX12_latestIn_18 : decode cX12_latestIn 18 = .ok (.iconst 1, 1) := dr9 dk9_dX12_latestIn_0_0.1 14 (18, .iconst 1, 1) rfl
theorem dX12_latestIn_19 : decode cX12_latestIn 19 = .ok (.if_icmp .ne 36, 3) := dr9 dk9_dX12_latestIn_0_0.1 15 (19, .if_icmp .ne 36, 3) rfl
theorem dX12_latestIn_55 : decode cX12_latestIn 55 = .ok (.iload_n 2, 1) := dr9 dk9_dX12_latestIn_0_0.1 16 (55, .iload_n 2, 1) rfl
theorem dX12_latestIn_56 : decode cX12_latestIn 56 = .ok (.istore_n 2, 1) := dr9 dk9_dX12_latestIn_0_0.1 17 (56, .istore_n 2, 1) rfl
theorem dX12_latestIn_57 : decode cX12_latestIn 57 = .ok (.iinc 3 1, 3) := dr9 dk9_dX12_latestIn_0_0.1 18 (57, .iinc 3 1, 3) rfl
theorem dX12_latestIn_60 : decode cX12_latestIn 60 = .ok (.goto (-56), 3) := dr9 dk9_dX12_latestIn_0_0.1 19 (60, .goto (-56), 3) rfl
theorem dX12_latestIn_22 : decode cX12_latestIn 22 = .ok (.aload_n 0, 1) := dr9 dk9_dX12_latestIn_0_0.1 20 (22, .aload_n 0, 1) rfl
theorem dX12_latestIn_23 : decode cX12_latestIn 23 = .ok (.getfield 167, 3) := dr9 dk9_dX12_latestIn_0_0.1 21 (23, .getfield 167, 3) rfl
theorem dX12_latestIn_26 : decode cX12_latestIn 26 = .ok (.iload_n 3, 1) := dr9 dk9_dX12_latestIn_0_0.1 22 (26, .iload_n 3, 1) rfl
theorem dX12_latestIn_27 : decode cX12_latestIn 27 = .ok (.iaload, 1) := dr9 dk9_dX12_latestIn_0_0.1 23 (27, .iaload, 1) rfl
theorem dX12_latestIn_28 : decode cX12_latestIn 28 = .ok (.iload_n 1, 1) := dr9 dk9_dX12_latestIn_0_0.2 0 (28, .iload_n 1, 1) rfl
theorem dX12_latestIn_29 : decode cX12_latestIn 29 = .ok (.if_icmp .ne 26, 3) := dr9 dk9_dX12_latestIn_0_0.2 1 (29, .if_icmp .ne 26, 3) rfl
theorem dX12_latestIn_32 : decode cX12_latestIn 32 = .ok (.iload_n 2, 1) := dr9 dk9_dX12_latestIn_0_0.2 2 (32, .iload_n 2, 1) rfl
theorem dX12_latestIn_33 : decode cX12_latestIn 33 = .ok (.ifCond .lt 18, 3) := dr9 dk9_dX12_latestIn_0_0.2 3 (33, .ifCond .lt 18, 3) rfl
theorem dX12_latestIn_51 : decode cX12_latestIn 51 = .ok (.iload_n 3, 1) := dr9 dk9_dX12_latestIn_0_0.2 4 (51, .iload_n 3, 1) rfl
theorem dX12_latestIn_52 : decode cX12_latestIn 52 = .ok (.goto 4, 3) := dr9 dk9_dX12_latestIn_0_0.2 5 (52, .goto 4, 3) rfl
theorem dX12_latestIn_36 : decode cX12_latestIn 36 = .ok (.aload_n 0, 1) := dr9 dk9_dX12_latestIn_0_0.2 6 (36, .aload_n 0, 1) rfl
theorem dX12_latestIn_37 : decode cX12_latestIn 37 = .ok (.getfield 173, 3) := dr9 dk9_dX12_latestIn_0_0.2 7 (37, .getfield 173, 3) rfl
theorem dX12_latestIn_40 : decode cX12_latestIn 40 = .ok (.iload_n 3, 1) := dr9 dk9_dX12_latestIn_0_0.2 8 (40, .iload_n 3, 1) rfl
theorem dX12_latestIn_41 : decode cX12_latestIn 41 = .ok (.iaload, 1) := dr9 dk9_dX12_latestIn_0_0.2 9 (41, .iaload, 1) rfl
theorem dX12_latestIn_42 : decode cX12_latestIn 42 = .ok (.aload_n 0, 1) := dr9 dk9_dX12_latestIn_0_0.2 10 (42, .aload_n 0, 1) rfl
theorem dX12_latestIn_43 : decode cX12_latestIn 43 = .ok (.getfield 173, 3) := dr9 dk9_dX12_latestIn_0_0.2 11 (43, .getfield 173, 3) rfl
theorem dX12_latestIn_46 : decode cX12_latestIn 46 = .ok (.iload_n 2, 1) := dr9 dk9_dX12_latestIn_0_0.2 12 (46, .iload_n 2, 1) rfl
theorem dX12_latestIn_47 : decode cX12_latestIn 47 = .ok (.iaload, 1) := dr9 dk9_dX12_latestIn_0_0.2 13 (47, .iaload, 1) rfl
theorem dX12_latestIn_48 : decode cX12_latestIn 48 = .ok (.if_icmp .le 7, 3) := dr9 dk9_dX12_latestIn_0_0.2 14 (48, .if_icmp .le 7, 3) rfl
theorem dk9_dX12_isScope_0_0 : dOk cX12_isScope [(0, .iload_n 1, 1), (1, .ifCond .lt 24, 3), (25, .iconst 0, 1), (26, .ireturn, 1), (4, .iload_n 1, 1), (5, .aload_n 0, 1), (6, .getfield 244, 3), (9, .if_icmp .ge 16, 3), (12, .aload_n 0, 1), (13, .getfield 152, 3), (16, .iload_n 1, 1), (17, .baload, 1), (18, .ifCond .eq 7, 3), (21, .iconst 1, 1), (22, .goto 4, 3)] = true := by decide +kernel
theorem dX12_isScope_0 : decode cX12_isScope 0 = .ok (.iload_n 1, 1) := dr9 dk9_dX12_isScope_0_0 0 (0, .iload_n 1, 1) rfl
theorem dX12_isScope_1 : decode cX12_isScope 1 = .ok (.ifCond .lt 24, 3) := dr9 dk9_dX12_isScope_0_0 1 (1, .ifCond .lt 24, 3) rfl
theorem dX12_isScope_25 : decode cX12_isScope 25 = .ok (.iconst 0, 1) := dr9 dk9_dX12_isScope_0_0 2 (25, .iconst 0, 1) rfl
theorem dX12_isScope_26 : decode cX12_isScope 26 = .ok (.ireturn, 1) := dr9 dk9_dX12_isScope_0_0 3 (26, .ireturn, 1) rfl
theorem dX12_isScope_4 : decode cX12_isScope 4 = .ok (.iload_n 1, 1) := dr9 dk9_dX12_isScope_0_0 4 (4, .iload_n 1, 1) rfl
theorem dX12_isScope_5 : decode cX12_isScope 5 = .ok (.aload_n 0, 1) := dr9 dk9_dX12_isScope_0_0 5 (5, .aload_n 0, 1) rfl
theorem dX12_isScope_6 : decode cX12_isScope 6 = .ok (.getfield 244, 3) := dr9 dk9_dX12_isScope_0_0 6 (6, .getfield 244, 3) rfl
theorem dX12_isScope_9 : decode cX12_isScope 9 = .ok (.if_icmp .ge 16, 3) := dr9 dk9_dX12_isScope_0_0 7 (9, .if_icmp .ge 16, 3) rfl
theorem dX12_isScope_12 : decode cX12_isScope 12 = .ok (.aload_n 0, 1) := dr9 dk9_dX12_isScope_0_0 8 (12, .aload_n 0, 1) rfl
theorem dX12_isScope_13 : decode cX12_isScope 13 = .ok (.getfield 152, 3) := dr9 dk9_dX12_isScope_0_0 9 (13, .getfield 152, 3) rfl
theorem dX12_isScope_16 : decode cX12_isScope 16 = .ok (.iload_n 1, 1) := dr9 dk9_dX12_isScope_0_0 10 (16, .iload_n 1, 1) rfl
theorem dX12_isScope_17 : decode cX12_isScope 17 = .ok (.baload, 1) := dr9 dk9_dX12_isScope_0_0 11 (17, .baload, 1) rfl
theorem dX12_isScope_18 : decode cX12_isScope 18 = .ok (.ifCond .eq 7, 3) := dr9 dk9_dX12_isScope_0_0 12 (18, .ifCond .eq 7, 3) rfl
theorem dX12_isScope_21 : decode cX12_isScope 21 = .ok (.iconst 1, 1) := dr9 dk9_dX12_isScope_0_0 13 (21, .iconst 1, 1) rfl
theorem dX12_isScope_22 : decode cX12_isScope 22 = .ok (.goto 4, 3) := dr9 dk9_dX12_isScope_0_0 14 (22, .goto 4, 3) rfl
theorem dk9_dX12_setting_0_0 : dOk cX12_setting [(0, .aload_n 0, 1), (1, .iconst 0, 1), (2, .putfield 1, 3), (5, .iload_n 1, 1), (6, .ifCond .lt 23, 3), (29, .iconst 0, 1), (30, .ireturn, 1), (9, .iload_n 1, 1), (10, .aload_n 0, 1), (11, .getfield 53, 3), (14, .aload_n 0, 1), (15, .getfield 286, 3), (18, .iaload, 1), (19, .if_icmp .ge 10, 3), (22, .aload_n 0, 1), (23, .getfield 408, 3), (26, .ifCond .eq 5, 3), (31, .aload_n 0, 1), (32, .getfield 59, 3), (35, .bipush 12, 2), (37, .aload_n 0, 1), (38, .getfield 286, 3), (41, .imul, 1), (42, .iload_n 1, 1)] = true ∧ dOk cX12_setting [(43, .iadd, 1), (44, .iload_n 2, 1), (45, .iastore, 1), (46, .iconst 1, 1), (47, .ireturn, 1)] = true := by decide +kernel
theorem dX12_setting_0 : decode cX12_setting 0 = .ok (.aload_n 0, 1) := dr9 dk9_dX12_setting_0_0.1 0 (0, .aload_n 0, 1) rfl
theorem dX12_setting_1 : decode cX12_setting 1 = .ok (.iconst 0, 1) := dr9 dk9_dX12_setting_0_0.1 1 (1, .iconst 0, 1) rfl
theorem dX12_setting_2 : decode cX12_setting 2 = .ok (.putfield 1, 3) := dr9 dk9_dX12_setting_0_0.1 2 (2, .putfield 1, 3) rfl
theorem dX12_setting_5 : decode cX12_setting 5 = .ok (.iload_n 1, 1) := dr9 dk9_dX12_setting_0_0.1 3 (5, .iload_n 1, 1) rfl
theorem dX12_setting_6 : decode cX12_setting 6 = .ok (.ifCond .lt 23, 3) := dr9 dk9_dX12_setting_0_0.1 4 (6, .ifCond .lt 23, 3) rfl
theorem dX12_setting_29 : decode cX12_setting 29 = .ok (.iconst 0, 1) := dr9 dk9_dX12_setting_0_0.1 5 (29, .iconst 0, 1) rfl
theorem dX12_setting_30 : decode cX12_setting 30 = .ok (.ireturn, 1) := dr9 dk9_dX12_setting_0_0.1 6 (30, .ireturn, 1) rfl
theorem dX12_setting_9 : decode cX12_setting 9 = .ok (.iload_n 1, 1) := dr9 dk9_dX12_setting_0_0.1 7 (9, .iload_n 1, 1) rfl
theorem dX12_setting_10 : decode cX12_setting 10 = .ok (.aload_n 0, 1) := dr9 dk9_dX12_setting_0_0.1 8 (10, .aload_n 0, 1) rfl
theorem dX12_setting_11 : decode cX12_setting 11 = .ok (.getfield 53, 3) := dr9 dk9_dX12_setting_0_0.1 9 (11, .getfield 53, 3) rfl
theorem dX12_setting_14 : decode cX12_setting 14 = .ok (.aload_n 0, 1) := dr9 dk9_dX12_setting_0_0.1 10 (14, .aload_n 0, 1) rfl
theorem dX12_setting_15 : decode cX12_setting 15 = .ok (.getfield 286, 3) := dr9 dk9_dX12_setting_0_0.1 11 (15, .getfield 286, 3) rfl
theorem dX12_setting_18 : decode cX12_setting 18 = .ok (.iaload, 1) := dr9 dk9_dX12_setting_0_0.1 12 (18, .iaload, 1) rfl
theorem dX12_setting_19 : decode cX12_setting 19 = .ok (.if_icmp .ge 10, 3) := dr9 dk9_dX12_setting_0_0.1 13 (19, .if_icmp .ge 10, 3) rfl
theorem dX12_setting_22 : decode cX12_setting 22 = .ok (.aload_n 0, 1) := dr9 dk9_dX12_setting_0_0.1 14 (22, .aload_n 0, 1) rfl
theorem dX12_setting_23 : decode cX12_setting 23 = .ok (.getfield 408, 3) := dr9 dk9_dX12_setting_0_0.1 15 (23, .getfield 408, 3) rfl
theorem dX12_setting_26 : decode cX12_setting 26 = .ok (.ifCond .eq 5, 3) := dr9 dk9_dX12_setting_0_0.1 16 (26, .ifCond .eq 5, 3) rfl
theorem dX12_setting_31 : decode cX12_setting 31 = .ok (.aload_n 0, 1) := dr9 dk9_dX12_setting_0_0.1 17 (31, .aload_n 0, 1) rfl
theorem dX12_setting_32 : decode cX12_setting 32 = .ok (.getfield 59, 3) := dr9 dk9_dX12_setting_0_0.1 18 (32, .getfield 59, 3) rfl
theorem dX12_setting_35 : decode cX12_setting 35 = .ok (.bipush 12, 2) := dr9 dk9_dX12_setting_0_0.1 19 (35, .bipush 12, 2) rfl
theorem dX12_setting_37 : decode cX12_setting 37 = .ok (.aload_n 0, 1) := dr9 dk9_dX12_setting_0_0.1 20 (37, .aload_n 0, 1) rfl
theorem dX12_setting_38 : decode cX12_setting 38 = .ok (.getfield 286, 3) := dr9 dk9_dX12_setting_0_0.1 21 (38, .getfield 286, 3) rfl
theorem dX12_setting_41 : decode cX12_setting 41 = .ok (.imul, 1) := dr9 dk9_dX12_setting_0_0.1 22 (41, .imul, 1) rfl
theorem dX12_setting_42 : decode cX12_setting 42 = .ok (.iload_n 1, 1) := dr9 dk9_dX12_setting_0_0.1 23 (42, .iload_n 1, 1) rfl
theorem dX12_setting_43 : decode cX12_setting 43 = .ok (.iadd, 1) := dr9 dk9_dX12_setting_0_0.2 0 (43, .iadd, 1) rfl
theorem dX12_setting_44 : decode cX12_setting 44 = .ok (.iload_n 2, 1) := dr9 dk9_dX12_setting_0_0.2 1 (44, .iload_n 2, 1) rfl
theorem dX12_setting_45 : decode cX12_setting 45 = .ok (.iastore, 1) := dr9 dk9_dX12_setting_0_0.2 2 (45, .iastore, 1) rfl
theorem dX12_setting_46 : decode cX12_setting 46 = .ok (.iconst 1, 1) := dr9 dk9_dX12_setting_0_0.2 3 (46, .iconst 1, 1) rfl
theorem dX12_setting_47 : decode cX12_setting 47 = .ok (.ireturn, 1) := dr9 dk9_dX12_setting_0_0.2 4 (47, .ireturn, 1) rfl
theorem dk9_dX12_scope_0_0 : dOk cX12_scope [(0, .aload_n 0, 1), (1, .getfield 408, 3), (4, .ifCond .eq 12, 3), (16, .iconst (-1), 1), (17, .ireturn, 1), (7, .aload_n 0, 1), (8, .getfield 244, 3), (11, .bipush 40, 2), (13, .if_icmp .ne 5, 3), (18, .aload_n 0, 1), (19, .getfield 152, 3), (22, .aload_n 0, 1), (23, .getfield 244, 3), (26, .iconst 1, 1), (27, .bastore, 1), (28, .aload_n 0, 1), (29, .getfield 155, 3), (32, .aload_n 0, 1), (33, .getfield 244, 3), (36, .iload_n 1, 1), (37, .iastore, 1), (38, .aload_n 0, 1), (39, .getfield 158, 3), (42, .aload_n 0, 1)] = true ∧ dOk cX12_scope [(43, .getfield 244, 3), (46, .iload_n 2, 1), (47, .iastore, 1), (48, .iconst 0, 1), (49, .istore_n 3, 1), (50, .iload_n 3, 1), (51, .bipush 24, 2), (53, .if_icmp .ge 24, 3), (56, .aload_n 0, 1), (57, .getfield 161, 3), (60, .bipush 24, 2), (62, .aload_n 0, 1), (63, .getfield 244, 3), (66, .imul, 1), (67, .iload_n 3, 1), (68, .iadd, 1), (69, .iconst 0, 1), (70, .bastore, 1), (71, .iinc 3 1, 3), (74, .goto (-24), 3), (77, .aload_n 0, 1), (78, .dup, 1), (79, .getfield 244, 3), (82, .iconst 1, 1)] = true ∧ dOk cX12_scope [(83, .iadd, 1), (84, .putfield 244, 3), (87, .aload_n 0, 1), (88, .getfield 244, 3), (91, .iconst 1, 1), (92, .isub, 1), (93, .ireturn, 1)] = true := by decide +kernel
theorem dX12_scope_0 : decode cX12_scope 0 = .ok (.aload_n 0, 1) := dr9 dk9_dX12_scope_0_0.1 0 (0, .aload_n 0, 1) rfl
theorem dX12_scope_1 : decode cX12_scope 1 = .ok (.getfield 408, 3) := dr9 dk9_dX12_scope_0_0.1 1 (1, .getfield 408, 3) rfl
theorem dX12_scope_4 : decode cX12_scope 4 = .ok (.ifCond .eq 12, 3) := dr9 dk9_dX12_scope_0_0.1 2 (4, .ifCond .eq 12, 3) rfl
theorem dX12_scope_16 : decode cX12_scope 16 = .ok (.iconst (-1), 1) := dr9 dk9_dX12_scope_0_0.1 3 (16, .iconst (-1), 1) rfl
theorem dX12_scope_17 : decode cX12_scope 17 = .ok (.ireturn, 1) := dr9 dk9_dX12_scope_0_0.1 4 (17, .ireturn, 1) rfl
theorem dX12_scope_7 : decode cX12_scope 7 = .ok (.aload_n 0, 1) := dr9 dk9_dX12_scope_0_0.1 5 (7, .aload_n 0, 1) rfl
theorem dX12_scope_8 : decode cX12_scope 8 = .ok (.getfield 244, 3) := dr9 dk9_dX12_scope_0_0.1 6 (8, .getfield 244, 3) rfl
theorem dX12_scope_11 : decode cX12_scope 11 = .ok (.bipush 40, 2) := dr9 dk9_dX12_scope_0_0.1 7 (11, .bipush 40, 2) rfl
theorem dX12_scope_13 : decode cX12_scope 13 = .ok (.if_icmp .ne 5, 3) := dr9 dk9_dX12_scope_0_0.1 8 (13, .if_icmp .ne 5, 3) rfl
theorem dX12_scope_18 : decode cX12_scope 18 = .ok (.aload_n 0, 1) := dr9 dk9_dX12_scope_0_0.1 9 (18, .aload_n 0, 1) rfl
theorem dX12_scope_19 : decode cX12_scope 19 = .ok (.getfield 152, 3) := dr9 dk9_dX12_scope_0_0.1 10 (19, .getfield 152, 3) rfl
theorem dX12_scope_22 : decode cX12_scope 22 = .ok (.aload_n 0, 1) := dr9 dk9_dX12_scope_0_0.1 11 (22, .aload_n 0, 1) rfl
theorem dX12_scope_23 : decode cX12_scope 23 = .ok (.getfield 244, 3) := dr9 dk9_dX12_scope_0_0.1 12 (23, .getfield 244, 3) rfl
theorem dX12_scope_26 : decode cX12_scope 26 = .ok (.iconst 1, 1) := dr9 dk9_dX12_scope_0_0.1 13 (26, .iconst 1, 1) rfl
theorem dX12_scope_27 : decode cX12_scope 27 = .ok (.bastore, 1) := dr9 dk9_dX12_scope_0_0.1 14 (27, .bastore, 1) rfl
theorem dX12_scope_28 : decode cX12_scope 28 = .ok (.aload_n 0, 1) := dr9 dk9_dX12_scope_0_0.1 15 (28, .aload_n 0, 1) rfl
theorem dX12_scope_29 : decode cX12_scope 29 = .ok (.getfield 155, 3) := dr9 dk9_dX12_scope_0_0.1 16 (29, .getfield 155, 3) rfl
theorem dX12_scope_32 : decode cX12_scope 32 = .ok (.aload_n 0, 1) := dr9 dk9_dX12_scope_0_0.1 17 (32, .aload_n 0, 1) rfl
theorem dX12_scope_33 : decode cX12_scope 33 = .ok (.getfield 244, 3) := dr9 dk9_dX12_scope_0_0.1 18 (33, .getfield 244, 3) rfl
theorem dX12_scope_36 : decode cX12_scope 36 = .ok (.iload_n 1, 1) := dr9 dk9_dX12_scope_0_0.1 19 (36, .iload_n 1, 1) rfl
theorem dX12_scope_37 : decode cX12_scope 37 = .ok (.iastore, 1) := dr9 dk9_dX12_scope_0_0.1 20 (37, .iastore, 1) rfl
theorem dX12_scope_38 : decode cX12_scope 38 = .ok (.aload_n 0, 1) := dr9 dk9_dX12_scope_0_0.1 21 (38, .aload_n 0, 1) rfl
theorem dX12_scope_39 : decode cX12_scope 39 = .ok (.getfield 158, 3) := dr9 dk9_dX12_scope_0_0.1 22 (39, .getfield 158, 3) rfl
theorem dX12_scope_42 : decode cX12_scope 42 = .ok (.aload_n 0, 1) := dr9 dk9_dX12_scope_0_0.1 23 (42, .aload_n 0, 1) rfl
theorem dX12_scope_43 : decode cX12_scope 43 = .ok (.getfield 244, 3) := dr9 dk9_dX12_scope_0_0.2.1 0 (43, .getfield 244, 3) rfl
theorem dX12_scope_46 : decode cX12_scope 46 = .ok (.iload_n 2, 1) := dr9 dk9_dX12_scope_0_0.2.1 1 (46, .iload_n 2, 1) rfl
theorem dX12_scope_47 : decode cX12_scope 47 = .ok (.iastore, 1) := dr9 dk9_dX12_scope_0_0.2.1 2 (47, .iastore, 1) rfl
theorem dX12_scope_48 : decode cX12_scope 48 = .ok (.iconst 0, 1) := dr9 dk9_dX12_scope_0_0.2.1 3 (48, .iconst 0, 1) rfl
theorem dX12_scope_49 : decode cX12_scope 49 = .ok (.istore_n 3, 1) := dr9 dk9_dX12_scope_0_0.2.1 4 (49, .istore_n 3, 1) rfl
theorem dX12_scope_50 : decode cX12_scope 50 = .ok (.iload_n 3, 1) := dr9 dk9_dX12_scope_0_0.2.1 5 (50, .iload_n 3, 1) rfl
theorem dX12_scope_51 : decode cX12_scope 51 = .ok (.bipush 24, 2) := dr9 dk9_dX12_scope_0_0.2.1 6 (51, .bipush 24, 2) rfl
theorem dX12_scope_53 : decode cX12_scope 53 = .ok (.if_icmp .ge 24, 3) := dr9 dk9_dX12_scope_0_0.2.1 7 (53, .if_icmp .ge 24, 3) rfl
theorem dX12_scope_56 : decode cX12_scope 56 = .ok (.aload_n 0, 1) := dr9 dk9_dX12_scope_0_0.2.1 8 (56, .aload_n 0, 1) rfl
theorem dX12_scope_57 : decode cX12_scope 57 = .ok (.getfield 161, 3) := dr9 dk9_dX12_scope_0_0.2.1 9 (57, .getfield 161, 3) rfl
theorem dX12_scope_60 : decode cX12_scope 60 = .ok (.bipush 24, 2) := dr9 dk9_dX12_scope_0_0.2.1 10 (60, .bipush 24, 2) rfl
theorem dX12_scope_62 : decode cX12_scope 62 = .ok (.aload_n 0, 1) := dr9 dk9_dX12_scope_0_0.2.1 11 (62, .aload_n 0, 1) rfl
theorem dX12_scope_63 : decode cX12_scope 63 = .ok (.getfield 244, 3) := dr9 dk9_dX12_scope_0_0.2.1 12 (63, .getfield 244, 3) rfl
theorem dX12_scope_66 : decode cX12_scope 66 = .ok (.imul, 1) := dr9 dk9_dX12_scope_0_0.2.1 13 (66, .imul, 1) rfl
theorem dX12_scope_67 : decode cX12_scope 67 = .ok (.iload_n 3, 1) := dr9 dk9_dX12_scope_0_0.2.1 14 (67, .iload_n 3, 1) rfl
theorem dX12_scope_68 : decode cX12_scope 68 = .ok (.iadd, 1) := dr9 dk9_dX12_scope_0_0.2.1 15 (68, .iadd, 1) rfl
theorem dX12_scope_69 : decode cX12_scope 69 = .ok (.iconst 0, 1) := dr9 dk9_dX12_scope_0_0.2.1 16 (69, .iconst 0, 1) rfl
theorem dX12_scope_70 : decode cX12_scope 70 = .ok (.bastore, 1) := dr9 dk9_dX12_scope_0_0.2.1 17 (70, .bastore, 1) rfl
theorem dX12_scope_71 : decode cX12_scope 71 = .ok (.iinc 3 1, 3) := dr9 dk9_dX12_scope_0_0.2.1 18 (71, .iinc 3 1, 3) rfl
theorem dX12_scope_74 : decode cX12_scope 74 = .ok (.goto (-24), 3) := dr9 dk9_dX12_scope_0_0.2.1 19 (74, .goto (-24), 3) rfl
theorem dX12_scope_77 : decode cX12_scope 77 = .ok (.aload_n 0, 1) := dr9 dk9_dX12_scope_0_0.2.1 20 (77, .aload_n 0, 1) rfl
theorem dX12_scope_78 : decode cX12_scope 78 = .ok (.dup, 1) := dr9 dk9_dX12_scope_0_0.2.1 21 (78, .dup, 1) rfl
theorem dX12_scope_79 : decode cX12_scope 79 = .ok (.getfield 244, 3) := dr9 dk9_dX12_scope_0_0.2.1 22 (79, .getfield 244, 3) rfl
theorem dX12_scope_82 : decode cX12_scope 82 = .ok (.iconst 1, 1) := dr9 dk9_dX12_scope_0_0.2.1 23 (82, .iconst 1, 1) rfl
theorem dX12_scope_83 : decode cX12_scope 83 = .ok (.iadd, 1) := dr9 dk9_dX12_scope_0_0.2.2 0 (83, .iadd, 1) rfl
theorem dX12_scope_84 : decode cX12_scope 84 = .ok (.putfield 244, 3) := dr9 dk9_dX12_scope_0_0.2.2 1 (84, .putfield 244, 3) rfl
theorem dX12_scope_87 : decode cX12_scope 87 = .ok (.aload_n 0, 1) := dr9 dk9_dX12_scope_0_0.2.2 2 (87, .aload_n 0, 1) rfl
theorem dX12_scope_88 : decode cX12_scope 88 = .ok (.getfield 244, 3) := dr9 dk9_dX12_scope_0_0.2.2 3 (88, .getfield 244, 3) rfl
theorem dX12_scope_91 : decode cX12_scope 91 = .ok (.iconst 1, 1) := dr9 dk9_dX12_scope_0_0.2.2 4 (91, .iconst 1, 1) rfl
theorem dX12_scope_92 : decode cX12_scope 92 = .ok (.isub, 1) := dr9 dk9_dX12_scope_0_0.2.2 5 (92, .isub, 1) rfl
theorem dX12_scope_93 : decode cX12_scope 93 = .ok (.ireturn, 1) := dr9 dk9_dX12_scope_0_0.2.2 6 (93, .ireturn, 1) rfl
theorem dk9_dX12_day_0_0 : dOk cX12_day [(0, .aload_n 0, 1), (1, .iconst 0, 1), (2, .putfield 1, 3), (5, .aload_n 0, 1), (6, .iconst 1, 1), (7, .iconst (-1), 1), (8, .invokevirtual 571, 3), (11, .ireturn, 1)] = true := by decide +kernel
theorem dX12_day_0 : decode cX12_day 0 = .ok (.aload_n 0, 1) := dr9 dk9_dX12_day_0_0 0 (0, .aload_n 0, 1) rfl
theorem dX12_day_1 : decode cX12_day 1 = .ok (.iconst 0, 1) := dr9 dk9_dX12_day_0_0 1 (1, .iconst 0, 1) rfl
theorem dX12_day_2 : decode cX12_day 2 = .ok (.putfield 1, 3) := dr9 dk9_dX12_day_0_0 2 (2, .putfield 1, 3) rfl
theorem dX12_day_5 : decode cX12_day 5 = .ok (.aload_n 0, 1) := dr9 dk9_dX12_day_0_0 3 (5, .aload_n 0, 1) rfl
theorem dX12_day_6 : decode cX12_day 6 = .ok (.iconst 1, 1) := dr9 dk9_dX12_day_0_0 4 (6, .iconst 1, 1) rfl
theorem dX12_day_7 : decode cX12_day 7 = .ok (.iconst (-1), 1) := dr9 dk9_dX12_day_0_0 5 (7, .iconst (-1), 1) rfl
theorem dX12_day_8 : decode cX12_day 8 = .ok (.invokevirtual 571, 3) := dr9 dk9_dX12_day_0_0 6 (8, .invokevirtual 571, 3) rfl
theorem dX12_day_11 : decode cX12_day 11 = .ok (.ireturn, 1) := dr9 dk9_dX12_day_0_0 7 (11, .ireturn, 1) rfl
theorem dk9_dX12_meal_0_0 : dOk cX12_meal [(0, .aload_n 0, 1), (1, .iconst 0, 1), (2, .putfield 1, 3), (5, .aload_n 0, 1), (6, .iload_n 1, 1), (7, .invokevirtual 574, 3), (10, .ifCond .eq 22, 3), (32, .iconst (-1), 1), (33, .ireturn, 1), (13, .aload_n 0, 1), (14, .getfield 155, 3), (17, .iload_n 1, 1), (18, .iaload, 1), (19, .iconst 1, 1), (20, .if_icmp .ne 12, 3), (23, .aload_n 0, 1), (24, .iconst 2, 1), (25, .iload_n 1, 1), (26, .invokevirtual 571, 3), (29, .goto 4, 3)] = true := by decide +kernel
theorem dX12_meal_0 : decode cX12_meal 0 = .ok (.aload_n 0, 1) := dr9 dk9_dX12_meal_0_0 0 (0, .aload_n 0, 1) rfl
theorem dX12_meal_1 : decode cX12_meal 1 = .ok (.iconst 0, 1) := dr9 dk9_dX12_meal_0_0 1 (1, .iconst 0, 1) rfl
theorem dX12_meal_2 : decode cX12_meal 2 = .ok (.putfield 1, 3) := dr9 dk9_dX12_meal_0_0 2 (2, .putfield 1, 3) rfl
theorem dX12_meal_5 : decode cX12_meal 5 = .ok (.aload_n 0, 1) := dr9 dk9_dX12_meal_0_0 3 (5, .aload_n 0, 1) rfl
theorem dX12_meal_6 : decode cX12_meal 6 = .ok (.iload_n 1, 1) := dr9 dk9_dX12_meal_0_0 4 (6, .iload_n 1, 1) rfl
theorem dX12_meal_7 : decode cX12_meal 7 = .ok (.invokevirtual 574, 3) := dr9 dk9_dX12_meal_0_0 5 (7, .invokevirtual 574, 3) rfl
theorem dX12_meal_10 : decode cX12_meal 10 = .ok (.ifCond .eq 22, 3) := dr9 dk9_dX12_meal_0_0 6 (10, .ifCond .eq 22, 3) rfl
theorem dX12_meal_32 : decode cX12_meal 32 = .ok (.iconst (-1), 1) := dr9 dk9_dX12_meal_0_0 7 (32, .iconst (-1), 1) rfl
theorem dX12_meal_33 : decode cX12_meal 33 = .ok (.ireturn, 1) := dr9 dk9_dX12_meal_0_0 8 (33, .ireturn, 1) rfl
theorem dX12_meal_13 : decode cX12_meal 13 = .ok (.aload_n 0, 1) := dr9 dk9_dX12_meal_0_0 9 (13, .aload_n 0, 1) rfl
theorem dX12_meal_14 : decode cX12_meal 14 = .ok (.getfield 155, 3) := dr9 dk9_dX12_meal_0_0 10 (14, .getfield 155, 3) rfl
theorem dX12_meal_17 : decode cX12_meal 17 = .ok (.iload_n 1, 1) := dr9 dk9_dX12_meal_0_0 11 (17, .iload_n 1, 1) rfl
theorem dX12_meal_18 : decode cX12_meal 18 = .ok (.iaload, 1) := dr9 dk9_dX12_meal_0_0 12 (18, .iaload, 1) rfl
theorem dX12_meal_19 : decode cX12_meal 19 = .ok (.iconst 1, 1) := dr9 dk9_dX12_meal_0_0 13 (19, .iconst 1, 1) rfl
theorem dX12_meal_20 : decode cX12_meal 20 = .ok (.if_icmp .ne 12, 3) := dr9 dk9_dX12_meal_0_0 14 (20, .if_icmp .ne 12, 3) rfl
theorem dX12_meal_23 : decode cX12_meal 23 = .ok (.aload_n 0, 1) := dr9 dk9_dX12_meal_0_0 15 (23, .aload_n 0, 1) rfl
theorem dX12_meal_24 : decode cX12_meal 24 = .ok (.iconst 2, 1) := dr9 dk9_dX12_meal_0_0 16 (24, .iconst 2, 1) rfl
theorem dX12_meal_25 : decode cX12_meal 25 = .ok (.iload_n 1, 1) := dr9 dk9_dX12_meal_0_0 17 (25, .iload_n 1, 1) rfl
theorem dX12_meal_26 : decode cX12_meal 26 = .ok (.invokevirtual 571, 3) := dr9 dk9_dX12_meal_0_0 18 (26, .invokevirtual 571, 3) rfl
theorem dX12_meal_29 : decode cX12_meal 29 = .ok (.goto 4, 3) := dr9 dk9_dX12_meal_0_0 19 (29, .goto 4, 3) rfl
theorem dk9_dX12_begins__0_0 : dOk cX12_begins_ [(0, .aload_n 0, 1), (1, .iconst 0, 1), (2, .putfield 432, 3), (5, .aload_n 0, 1), (6, .iconst 0, 1), (7, .putfield 520, 3), (10, .aload_n 0, 1), (11, .iconst 0, 1), (12, .putfield 548, 3), (15, .aload_n 0, 1), (16, .iconst 0, 1), (17, .putfield 507, 3), (20, .aload_n 0, 1), (21, .iconst 0, 1), (22, .putfield 426, 3), (25, .aload_n 0, 1), (26, .iconst 0, 1), (27, .putfield 429, 3), (30, .return_, 1)] = true := by decide +kernel
theorem dX12_begins__0 : decode cX12_begins_ 0 = .ok (.aload_n 0, 1) := dr9 dk9_dX12_begins__0_0 0 (0, .aload_n 0, 1) rfl
theorem dX12_begins__1 : decode cX12_begins_ 1 = .ok (.iconst 0, 1) := dr9 dk9_dX12_begins__0_0 1 (1, .iconst 0, 1) rfl
theorem dX12_begins__2 : decode cX12_begins_ 2 = .ok (.putfield 432, 3) := dr9 dk9_dX12_begins__0_0 2 (2, .putfield 432, 3) rfl
theorem dX12_begins__5 : decode cX12_begins_ 5 = .ok (.aload_n 0, 1) := dr9 dk9_dX12_begins__0_0 3 (5, .aload_n 0, 1) rfl
theorem dX12_begins__6 : decode cX12_begins_ 6 = .ok (.iconst 0, 1) := dr9 dk9_dX12_begins__0_0 4 (6, .iconst 0, 1) rfl
theorem dX12_begins__7 : decode cX12_begins_ 7 = .ok (.putfield 520, 3) := dr9 dk9_dX12_begins__0_0 5 (7, .putfield 520, 3) rfl
theorem dX12_begins__10 : decode cX12_begins_ 10 = .ok (.aload_n 0, 1) := dr9 dk9_dX12_begins__0_0 6 (10, .aload_n 0, 1) rfl
theorem dX12_begins__11 : decode cX12_begins_ 11 = .ok (.iconst 0, 1) := dr9 dk9_dX12_begins__0_0 7 (11, .iconst 0, 1) rfl
theorem dX12_begins__12 : decode cX12_begins_ 12 = .ok (.putfield 548, 3) := dr9 dk9_dX12_begins__0_0 8 (12, .putfield 548, 3) rfl
theorem dX12_begins__15 : decode cX12_begins_ 15 = .ok (.aload_n 0, 1) := dr9 dk9_dX12_begins__0_0 9 (15, .aload_n 0, 1) rfl
theorem dX12_begins__16 : decode cX12_begins_ 16 = .ok (.iconst 0, 1) := dr9 dk9_dX12_begins__0_0 10 (16, .iconst 0, 1) rfl
theorem dX12_begins__17 : decode cX12_begins_ 17 = .ok (.putfield 507, 3) := dr9 dk9_dX12_begins__0_0 11 (17, .putfield 507, 3) rfl
theorem dX12_begins__20 : decode cX12_begins_ 20 = .ok (.aload_n 0, 1) := dr9 dk9_dX12_begins__0_0 12 (20, .aload_n 0, 1) rfl
theorem dX12_begins__21 : decode cX12_begins_ 21 = .ok (.iconst 0, 1) := dr9 dk9_dX12_begins__0_0 13 (21, .iconst 0, 1) rfl
theorem dX12_begins__22 : decode cX12_begins_ 22 = .ok (.putfield 426, 3) := dr9 dk9_dX12_begins__0_0 14 (22, .putfield 426, 3) rfl
theorem dX12_begins__25 : decode cX12_begins_ 25 = .ok (.aload_n 0, 1) := dr9 dk9_dX12_begins__0_0 15 (25, .aload_n 0, 1) rfl
theorem dX12_begins__26 : decode cX12_begins_ 26 = .ok (.iconst 0, 1) := dr9 dk9_dX12_begins__0_0 16 (26, .iconst 0, 1) rfl
theorem dX12_begins__27 : decode cX12_begins_ 27 = .ok (.putfield 429, 3) := dr9 dk9_dX12_begins__0_0 17 (27, .putfield 429, 3) rfl
theorem dX12_begins__30 : decode cX12_begins_ 30 = .ok (.return_, 1) := dr9 dk9_dX12_begins__0_0 18 (30, .return_, 1) rfl
theorem dk9_dX12_ends_0_0 : dOk cX12_ends [(0, .aload_n 0, 1), (1, .iload_n 1, 1), (2, .ifCond .ne 7, 3), (5, .iconst 0, 1), (6, .goto 14, 3), (9, .iload_n 1, 1), (10, .iconst 1, 1), (11, .if_icmp .ne 7, 3), (18, .bipush 6, 2), (14, .iconst 1, 1), (15, .goto 5, 3), (20, .putfield 423, 3), (23, .aload_n 0, 1), (24, .iload_n 1, 1), (25, .iconst 1, 1), (26, .if_icmp .ne 10, 3), (29, .aload_n 0, 1), (30, .getfield 471, 3), (33, .goto 4, 3), (36, .iconst 0, 1), (37, .putfield 426, 3), (40, .aload_n 0, 1), (41, .iload_n 1, 1), (42, .iconst 1, 1)] = true ∧ dOk cX12_ends [(43, .if_icmp .ne 10, 3), (46, .aload_n 0, 1), (47, .getfield 474, 3), (50, .goto 4, 3), (53, .iconst 0, 1), (54, .putfield 429, 3), (57, .iload_n 1, 1), (58, .ifCond .ne 7, 3), (65, .iconst 0, 1), (66, .ireturn, 1), (61, .iconst 1, 1), (62, .goto 4, 3)] = true := by decide +kernel
theorem dX12_ends_0 : decode cX12_ends 0 = .ok (.aload_n 0, 1) := dr9 dk9_dX12_ends_0_0.1 0 (0, .aload_n 0, 1) rfl
theorem dX12_ends_1 : decode cX12_ends 1 = .ok (.iload_n 1, 1) := dr9 dk9_dX12_ends_0_0.1 1 (1, .iload_n 1, 1) rfl
theorem dX12_ends_2 : decode cX12_ends 2 = .ok (.ifCond .ne 7, 3) := dr9 dk9_dX12_ends_0_0.1 2 (2, .ifCond .ne 7, 3) rfl
theorem dX12_ends_5 : decode cX12_ends 5 = .ok (.iconst 0, 1) := dr9 dk9_dX12_ends_0_0.1 3 (5, .iconst 0, 1) rfl
theorem dX12_ends_6 : decode cX12_ends 6 = .ok (.goto 14, 3) := dr9 dk9_dX12_ends_0_0.1 4 (6, .goto 14, 3) rfl
theorem dX12_ends_9 : decode cX12_ends 9 = .ok (.iload_n 1, 1) := dr9 dk9_dX12_ends_0_0.1 5 (9, .iload_n 1, 1) rfl
theorem dX12_ends_10 : decode cX12_ends 10 = .ok (.iconst 1, 1) := dr9 dk9_dX12_ends_0_0.1 6 (10, .iconst 1, 1) rfl
theorem dX12_ends_11 : decode cX12_ends 11 = .ok (.if_icmp .ne 7, 3) := dr9 dk9_dX12_ends_0_0.1 7 (11, .if_icmp .ne 7, 3) rfl
theorem dX12_ends_18 : decode cX12_ends 18 = .ok (.bipush 6, 2) := dr9 dk9_dX12_ends_0_0.1 8 (18, .bipush 6, 2) rfl
theorem dX12_ends_14 : decode cX12_ends 14 = .ok (.iconst 1, 1) := dr9 dk9_dX12_ends_0_0.1 9 (14, .iconst 1, 1) rfl
theorem dX12_ends_15 : decode cX12_ends 15 = .ok (.goto 5, 3) := dr9 dk9_dX12_ends_0_0.1 10 (15, .goto 5, 3) rfl
theorem dX12_ends_20 : decode cX12_ends 20 = .ok (.putfield 423, 3) := dr9 dk9_dX12_ends_0_0.1 11 (20, .putfield 423, 3) rfl
theorem dX12_ends_23 : decode cX12_ends 23 = .ok (.aload_n 0, 1) := dr9 dk9_dX12_ends_0_0.1 12 (23, .aload_n 0, 1) rfl
theorem dX12_ends_24 : decode cX12_ends 24 = .ok (.iload_n 1, 1) := dr9 dk9_dX12_ends_0_0.1 13 (24, .iload_n 1, 1) rfl
theorem dX12_ends_25 : decode cX12_ends 25 = .ok (.iconst 1, 1) := dr9 dk9_dX12_ends_0_0.1 14 (25, .iconst 1, 1) rfl
theorem dX12_ends_26 : decode cX12_ends 26 = .ok (.if_icmp .ne 10, 3) := dr9 dk9_dX12_ends_0_0.1 15 (26, .if_icmp .ne 10, 3) rfl
theorem dX12_ends_29 : decode cX12_ends 29 = .ok (.aload_n 0, 1) := dr9 dk9_dX12_ends_0_0.1 16 (29, .aload_n 0, 1) rfl
theorem dX12_ends_30 : decode cX12_ends 30 = .ok (.getfield 471, 3) := dr9 dk9_dX12_ends_0_0.1 17 (30, .getfield 471, 3) rfl
theorem dX12_ends_33 : decode cX12_ends 33 = .ok (.goto 4, 3) := dr9 dk9_dX12_ends_0_0.1 18 (33, .goto 4, 3) rfl
theorem dX12_ends_36 : decode cX12_ends 36 = .ok (.iconst 0, 1) := dr9 dk9_dX12_ends_0_0.1 19 (36, .iconst 0, 1) rfl
theorem dX12_ends_37 : decode cX12_ends 37 = .ok (.putfield 426, 3) := dr9 dk9_dX12_ends_0_0.1 20 (37, .putfield 426, 3) rfl
theorem dX12_ends_40 : decode cX12_ends 40 = .ok (.aload_n 0, 1) := dr9 dk9_dX12_ends_0_0.1 21 (40, .aload_n 0, 1) rfl
theorem dX12_ends_41 : decode cX12_ends 41 = .ok (.iload_n 1, 1) := dr9 dk9_dX12_ends_0_0.1 22 (41, .iload_n 1, 1) rfl
theorem dX12_ends_42 : decode cX12_ends 42 = .ok (.iconst 1, 1) := dr9 dk9_dX12_ends_0_0.1 23 (42, .iconst 1, 1) rfl
theorem dX12_ends_43 : decode cX12_ends 43 = .ok (.if_icmp .ne 10, 3) := dr9 dk9_dX12_ends_0_0.2 0 (43, .if_icmp .ne 10, 3) rfl
theorem dX12_ends_46 : decode cX12_ends 46 = .ok (.aload_n 0, 1) := dr9 dk9_dX12_ends_0_0.2 1 (46, .aload_n 0, 1) rfl
theorem dX12_ends_47 : decode cX12_ends 47 = .ok (.getfield 474, 3) := dr9 dk9_dX12_ends_0_0.2 2 (47, .getfield 474, 3) rfl
theorem dX12_ends_50 : decode cX12_ends 50 = .ok (.goto 4, 3) := dr9 dk9_dX12_ends_0_0.2 3 (50, .goto 4, 3) rfl
theorem dX12_ends_53 : decode cX12_ends 53 = .ok (.iconst 0, 1) := dr9 dk9_dX12_ends_0_0.2 4 (53, .iconst 0, 1) rfl
theorem dX12_ends_54 : decode cX12_ends 54 = .ok (.putfield 429, 3) := dr9 dk9_dX12_ends_0_0.2 5 (54, .putfield 429, 3) rfl
theorem dX12_ends_57 : decode cX12_ends 57 = .ok (.iload_n 1, 1) := dr9 dk9_dX12_ends_0_0.2 6 (57, .iload_n 1, 1) rfl
theorem dX12_ends_58 : decode cX12_ends 58 = .ok (.ifCond .ne 7, 3) := dr9 dk9_dX12_ends_0_0.2 7 (58, .ifCond .ne 7, 3) rfl
theorem dX12_ends_65 : decode cX12_ends 65 = .ok (.iconst 0, 1) := dr9 dk9_dX12_ends_0_0.2 8 (65, .iconst 0, 1) rfl
theorem dX12_ends_66 : decode cX12_ends 66 = .ok (.ireturn, 1) := dr9 dk9_dX12_ends_0_0.2 9 (66, .ireturn, 1) rfl
theorem dX12_ends_61 : decode cX12_ends 61 = .ok (.iconst 1, 1) := dr9 dk9_dX12_ends_0_0.2 10 (61, .iconst 1, 1) rfl
theorem dX12_ends_62 : decode cX12_ends 62 = .ok (.goto 4, 3) := dr9 dk9_dX12_ends_0_0.2 11 (62, .goto 4, 3) rfl
theorem dk9_dX12_addFault_0_0 : dOk cX12_addFault [(0, .aload_n 0, 1), (1, .getfield 435, 3), (4, .bipush 100, 2), (6, .if_icmp .ge 33, 3), (9, .aload_n 0, 1), (10, .getfield 201, 3), (13, .aload_n 0, 1), (14, .getfield 435, 3), (17, .iload_n 1, 1), (18, .iastore, 1), (19, .aload_n 0, 1), (20, .getfield 204, 3), (23, .aload_n 0, 1), (24, .getfield 435, 3), (27, .iload_n 2, 1), (28, .iastore, 1), (29, .aload_n 0, 1), (30, .getfield 207, 3), (33, .aload_n 0, 1), (34, .getfield 435, 3), (37, .iload_n 3, 1), (38, .iastore, 1), (39, .aload_n 0, 1), (40, .dup, 1)] = true ∧ dOk cX12_addFault [(41, .getfield 435, 3), (44, .iconst 1, 1), (45, .iadd, 1), (46, .putfield 435, 3), (49, .return_, 1)] = true := by decide +kernel
theorem dX12_addFault_0 : decode cX12_addFault 0 = .ok (.aload_n 0, 1) := dr9 dk9_dX12_addFault_0_0.1 0 (0, .aload_n 0, 1) rfl
theorem dX12_addFault_1 : decode cX12_addFault 1 = .ok (.getfield 435, 3) := dr9 dk9_dX12_addFault_0_0.1 1 (1, .getfield 435, 3) rfl
theorem dX12_addFault_4 : decode cX12_addFault 4 = .ok (.bipush 100, 2) := dr9 dk9_dX12_addFault_0_0.1 2 (4, .bipush 100, 2) rfl
theorem dX12_addFault_6 : decode cX12_addFault 6 = .ok (.if_icmp .ge 33, 3) := dr9 dk9_dX12_addFault_0_0.1 3 (6, .if_icmp .ge 33, 3) rfl
theorem dX12_addFault_9 : decode cX12_addFault 9 = .ok (.aload_n 0, 1) := dr9 dk9_dX12_addFault_0_0.1 4 (9, .aload_n 0, 1) rfl
theorem dX12_addFault_10 : decode cX12_addFault 10 = .ok (.getfield 201, 3) := dr9 dk9_dX12_addFault_0_0.1 5 (10, .getfield 201, 3) rfl
theorem dX12_addFault_13 : decode cX12_addFault 13 = .ok (.aload_n 0, 1) := dr9 dk9_dX12_addFault_0_0.1 6 (13, .aload_n 0, 1) rfl
theorem dX12_addFault_14 : decode cX12_addFault 14 = .ok (.getfield 435, 3) := dr9 dk9_dX12_addFault_0_0.1 7 (14, .getfield 435, 3) rfl
theorem dX12_addFault_17 : decode cX12_addFault 17 = .ok (.iload_n 1, 1) := dr9 dk9_dX12_addFault_0_0.1 8 (17, .iload_n 1, 1) rfl
theorem dX12_addFault_18 : decode cX12_addFault 18 = .ok (.iastore, 1) := dr9 dk9_dX12_addFault_0_0.1 9 (18, .iastore, 1) rfl
theorem dX12_addFault_19 : decode cX12_addFault 19 = .ok (.aload_n 0, 1) := dr9 dk9_dX12_addFault_0_0.1 10 (19, .aload_n 0, 1) rfl
theorem dX12_addFault_20 : decode cX12_addFault 20 = .ok (.getfield 204, 3) := dr9 dk9_dX12_addFault_0_0.1 11 (20, .getfield 204, 3) rfl
theorem dX12_addFault_23 : decode cX12_addFault 23 = .ok (.aload_n 0, 1) := dr9 dk9_dX12_addFault_0_0.1 12 (23, .aload_n 0, 1) rfl
theorem dX12_addFault_24 : decode cX12_addFault 24 = .ok (.getfield 435, 3) := dr9 dk9_dX12_addFault_0_0.1 13 (24, .getfield 435, 3) rfl
theorem dX12_addFault_27 : decode cX12_addFault 27 = .ok (.iload_n 2, 1) := dr9 dk9_dX12_addFault_0_0.1 14 (27, .iload_n 2, 1) rfl
theorem dX12_addFault_28 : decode cX12_addFault 28 = .ok (.iastore, 1) := dr9 dk9_dX12_addFault_0_0.1 15 (28, .iastore, 1) rfl
theorem dX12_addFault_29 : decode cX12_addFault 29 = .ok (.aload_n 0, 1) := dr9 dk9_dX12_addFault_0_0.1 16 (29, .aload_n 0, 1) rfl
theorem dX12_addFault_30 : decode cX12_addFault 30 = .ok (.getfield 207, 3) := dr9 dk9_dX12_addFault_0_0.1 17 (30, .getfield 207, 3) rfl
theorem dX12_addFault_33 : decode cX12_addFault 33 = .ok (.aload_n 0, 1) := dr9 dk9_dX12_addFault_0_0.1 18 (33, .aload_n 0, 1) rfl
theorem dX12_addFault_34 : decode cX12_addFault 34 = .ok (.getfield 435, 3) := dr9 dk9_dX12_addFault_0_0.1 19 (34, .getfield 435, 3) rfl
theorem dX12_addFault_37 : decode cX12_addFault 37 = .ok (.iload_n 3, 1) := dr9 dk9_dX12_addFault_0_0.1 20 (37, .iload_n 3, 1) rfl
theorem dX12_addFault_38 : decode cX12_addFault 38 = .ok (.iastore, 1) := dr9 dk9_dX12_addFault_0_0.1 21 (38, .iastore, 1) rfl
theorem dX12_addFault_39 : decode cX12_addFault 39 = .ok (.aload_n 0, 1) := dr9 dk9_dX12_addFault_0_0.1 22 (39, .aload_n 0, 1) rfl
theorem dX12_addFault_40 : decode cX12_addFault 40 = .ok (.dup, 1) := dr9 dk9_dX12_addFault_0_0.1 23 (40, .dup, 1) rfl
theorem dX12_addFault_41 : decode cX12_addFault 41 = .ok (.getfield 435, 3) := dr9 dk9_dX12_addFault_0_0.2 0 (41, .getfield 435, 3) rfl
theorem dX12_addFault_44 : decode cX12_addFault 44 = .ok (.iconst 1, 1) := dr9 dk9_dX12_addFault_0_0.2 1 (44, .iconst 1, 1) rfl
theorem dX12_addFault_45 : decode cX12_addFault 45 = .ok (.iadd, 1) := dr9 dk9_dX12_addFault_0_0.2 2 (45, .iadd, 1) rfl
theorem dX12_addFault_46 : decode cX12_addFault 46 = .ok (.putfield 435, 3) := dr9 dk9_dX12_addFault_0_0.2 3 (46, .putfield 435, 3) rfl
theorem dX12_addFault_49 : decode cX12_addFault 49 = .ok (.return_, 1) := dr9 dk9_dX12_addFault_0_0.2 4 (49, .return_, 1) rfl
theorem dk9_dX12_fault_0_0 : dOk cX12_fault [(0, .aload_n 0, 1), (1, .iconst 0, 1), (2, .putfield 1, 3), (5, .iload_n 1, 1), (6, .ifCond .lt 17, 3), (23, .iconst (-1), 1), (24, .ireturn, 1), (9, .iload_n 1, 1), (10, .aload_n 0, 1), (11, .getfield 435, 3), (14, .if_icmp .ge 9, 3), (17, .iload_n 1, 1), (18, .bipush 100, 2), (20, .if_icmp .lt 5, 3), (25, .iload_n 2, 1), (26, .ifCond .ne 12, 3), (38, .iload_n 2, 1), (39, .iconst 1, 1), (40, .if_icmp .ne 12, 3), (52, .iload_n 2, 1), (53, .iconst 2, 1), (54, .if_icmp .ne 12, 3), (66, .iconst (-1), 1), (67, .ireturn, 1)] = true ∧ dOk cX12_fault [(57, .aload_n 0, 1), (58, .getfield 207, 3), (61, .iload_n 1, 1), (62, .iaload, 1), (63, .goto 4, 3), (43, .aload_n 0, 1), (44, .getfield 204, 3), (47, .iload_n 1, 1), (48, .iaload, 1), (49, .goto 18, 3), (29, .aload_n 0, 1), (30, .getfield 201, 3), (33, .iload_n 1, 1), (34, .iaload, 1), (35, .goto 32, 3)] = true := by decide +kernel
theorem dX12_fault_0 : decode cX12_fault 0 = .ok (.aload_n 0, 1) := dr9 dk9_dX12_fault_0_0.1 0 (0, .aload_n 0, 1) rfl
theorem dX12_fault_1 : decode cX12_fault 1 = .ok (.iconst 0, 1) := dr9 dk9_dX12_fault_0_0.1 1 (1, .iconst 0, 1) rfl
theorem dX12_fault_2 : decode cX12_fault 2 = .ok (.putfield 1, 3) := dr9 dk9_dX12_fault_0_0.1 2 (2, .putfield 1, 3) rfl
theorem dX12_fault_5 : decode cX12_fault 5 = .ok (.iload_n 1, 1) := dr9 dk9_dX12_fault_0_0.1 3 (5, .iload_n 1, 1) rfl
theorem dX12_fault_6 : decode cX12_fault 6 = .ok (.ifCond .lt 17, 3) := dr9 dk9_dX12_fault_0_0.1 4 (6, .ifCond .lt 17, 3) rfl
theorem dX12_fault_23 : decode cX12_fault 23 = .ok (.iconst (-1), 1) := dr9 dk9_dX12_fault_0_0.1 5 (23, .iconst (-1), 1) rfl
theorem dX12_fault_24 : decode cX12_fault 24 = .ok (.ireturn, 1) := dr9 dk9_dX12_fault_0_0.1 6 (24, .ireturn, 1) rfl
theorem dX12_fault_9 : decode cX12_fault 9 = .ok (.iload_n 1, 1) := dr9 dk9_dX12_fault_0_0.1 7 (9, .iload_n 1, 1) rfl
theorem dX12_fault_10 : decode cX12_fault 10 = .ok (.aload_n 0, 1) := dr9 dk9_dX12_fault_0_0.1 8 (10, .aload_n 0, 1) rfl
theorem dX12_fault_11 : decode cX12_fault 11 = .ok (.getfield 435, 3) := dr9 dk9_dX12_fault_0_0.1 9 (11, .getfield 435, 3) rfl
theorem dX12_fault_14 : decode cX12_fault 14 = .ok (.if_icmp .ge 9, 3) := dr9 dk9_dX12_fault_0_0.1 10 (14, .if_icmp .ge 9, 3) rfl
theorem dX12_fault_17 : decode cX12_fault 17 = .ok (.iload_n 1, 1) := dr9 dk9_dX12_fault_0_0.1 11 (17, .iload_n 1, 1) rfl
theorem dX12_fault_18 : decode cX12_fault 18 = .ok (.bipush 100, 2) := dr9 dk9_dX12_fault_0_0.1 12 (18, .bipush 100, 2) rfl
theorem dX12_fault_20 : decode cX12_fault 20 = .ok (.if_icmp .lt 5, 3) := dr9 dk9_dX12_fault_0_0.1 13 (20, .if_icmp .lt 5, 3) rfl
theorem dX12_fault_25 : decode cX12_fault 25 = .ok (.iload_n 2, 1) := dr9 dk9_dX12_fault_0_0.1 14 (25, .iload_n 2, 1) rfl
theorem dX12_fault_26 : decode cX12_fault 26 = .ok (.ifCond .ne 12, 3) := dr9 dk9_dX12_fault_0_0.1 15 (26, .ifCond .ne 12, 3) rfl
theorem dX12_fault_38 : decode cX12_fault 38 = .ok (.iload_n 2, 1) := dr9 dk9_dX12_fault_0_0.1 16 (38, .iload_n 2, 1) rfl
theorem dX12_fault_39 : decode cX12_fault 39 = .ok (.iconst 1, 1) := dr9 dk9_dX12_fault_0_0.1 17 (39, .iconst 1, 1) rfl
theorem dX12_fault_40 : decode cX12_fault 40 = .ok (.if_icmp .ne 12, 3) := dr9 dk9_dX12_fault_0_0.1 18 (40, .if_icmp .ne 12, 3) rfl
theorem dX12_fault_52 : decode cX12_fault 52 = .ok (.iload_n 2, 1) := dr9 dk9_dX12_fault_0_0.1 19 (52, .iload_n 2, 1) rfl
theorem dX12_fault_53 : decode cX12_fault 53 = .ok (.iconst 2, 1) := dr9 dk9_dX12_fault_0_0.1 20 (53, .iconst 2, 1) rfl
theorem dX12_fault_54 : decode cX12_fault 54 = .ok (.if_icmp .ne 12, 3) := dr9 dk9_dX12_fault_0_0.1 21 (54, .if_icmp .ne 12, 3) rfl
theorem dX12_fault_66 : decode cX12_fault 66 = .ok (.iconst (-1), 1) := dr9 dk9_dX12_fault_0_0.1 22 (66, .iconst (-1), 1) rfl
theorem dX12_fault_67 : decode cX12_fault 67 = .ok (.ireturn, 1) := dr9 dk9_dX12_fault_0_0.1 23 (67, .ireturn, 1) rfl
theorem dX12_fault_57 : decode cX12_fault 57 = .ok (.aload_n 0, 1) := dr9 dk9_dX12_fault_0_0.2 0 (57, .aload_n 0, 1) rfl
theorem dX12_fault_58 : decode cX12_fault 58 = .ok (.getfield 207, 3) := dr9 dk9_dX12_fault_0_0.2 1 (58, .getfield 207, 3) rfl
theorem dX12_fault_61 : decode cX12_fault 61 = .ok (.iload_n 1, 1) := dr9 dk9_dX12_fault_0_0.2 2 (61, .iload_n 1, 1) rfl
theorem dX12_fault_62 : decode cX12_fault 62 = .ok (.iaload, 1) := dr9 dk9_dX12_fault_0_0.2 3 (62, .iaload, 1) rfl
theorem dX12_fault_63 : decode cX12_fault 63 = .ok (.goto 4, 3) := dr9 dk9_dX12_fault_0_0.2 4 (63, .goto 4, 3) rfl
theorem dX12_fault_43 : decode cX12_fault 43 = .ok (.aload_n 0, 1) := dr9 dk9_dX12_fault_0_0.2 5 (43, .aload_n 0, 1) rfl
theorem dX12_fault_44 : decode cX12_fault 44 = .ok (.getfield 204, 3) := dr9 dk9_dX12_fault_0_0.2 6 (44, .getfield 204, 3) rfl
theorem dX12_fault_47 : decode cX12_fault 47 = .ok (.iload_n 1, 1) := dr9 dk9_dX12_fault_0_0.2 7 (47, .iload_n 1, 1) rfl
theorem dX12_fault_48 : decode cX12_fault 48 = .ok (.iaload, 1) := dr9 dk9_dX12_fault_0_0.2 8 (48, .iaload, 1) rfl
theorem dX12_fault_49 : decode cX12_fault 49 = .ok (.goto 18, 3) := dr9 dk9_dX12_fault_0_0.2 9 (49, .goto 18, 3) rfl
theorem dX12_fault_29 : decode cX12_fault 29 = .ok (.aload_n 0, 1) := dr9 dk9_dX12_fault_0_0.2 10 (29, .aload_n 0, 1) rfl
theorem dX12_fault_30 : decode cX12_fault 30 = .ok (.getfield 201, 3) := dr9 dk9_dX12_fault_0_0.2 11 (30, .getfield 201, 3) rfl
theorem dX12_fault_33 : decode cX12_fault 33 = .ok (.iload_n 1, 1) := dr9 dk9_dX12_fault_0_0.2 12 (33, .iload_n 1, 1) rfl
theorem dX12_fault_34 : decode cX12_fault 34 = .ok (.iaload, 1) := dr9 dk9_dX12_fault_0_0.2 13 (34, .iaload, 1) rfl
theorem dX12_fault_35 : decode cX12_fault 35 = .ok (.goto 32, 3) := dr9 dk9_dX12_fault_0_0.2 14 (35, .goto 32, 3) rfl
theorem dk9_dX12_cycle_0_0 : dOk cX12_cycle [(0, .aload_n 0, 1), (1, .iconst 0, 1), (2, .putfield 1, 3), (5, .iload_n 1, 1), (6, .ifCond .lt 41, 3), (47, .iconst (-1), 1), (48, .ireturn, 1), (9, .iload_n 1, 1), (10, .aload_n 0, 1), (11, .getfield 435, 3), (14, .if_icmp .ge 33, 3), (17, .iload_n 1, 1), (18, .bipush 100, 2), (20, .if_icmp .ge 27, 3), (23, .aload_n 0, 1), (24, .getfield 201, 3), (27, .iload_n 1, 1), (28, .iaload, 1), (29, .iconst 3, 1), (30, .if_icmp .ne 17, 3), (33, .iload_n 2, 1), (34, .ifCond .lt 13, 3), (37, .iload_n 2, 1), (38, .aload_n 0, 1)] = true ∧ dOk cX12_cycle [(39, .getfield 207, 3), (42, .iload_n 1, 1), (43, .iaload, 1), (44, .if_icmp .lt 5, 3), (49, .aload_n 0, 1), (50, .getfield 210, 3), (53, .bipush 24, 2), (55, .iload_n 1, 1), (56, .imul, 1), (57, .iload_n 2, 1), (58, .iadd, 1), (59, .iaload, 1), (60, .ireturn, 1)] = true := by decide +kernel
theorem dX12_cycle_0 : decode cX12_cycle 0 = .ok (.aload_n 0, 1) := dr9 dk9_dX12_cycle_0_0.1 0 (0, .aload_n 0, 1) rfl
theorem dX12_cycle_1 : decode cX12_cycle 1 = .ok (.iconst 0, 1) := dr9 dk9_dX12_cycle_0_0.1 1 (1, .iconst 0, 1) rfl
theorem dX12_cycle_2 : decode cX12_cycle 2 = .ok (.putfield 1, 3) := dr9 dk9_dX12_cycle_0_0.1 2 (2, .putfield 1, 3) rfl
theorem dX12_cycle_5 : decode cX12_cycle 5 = .ok (.iload_n 1, 1) := dr9 dk9_dX12_cycle_0_0.1 3 (5, .iload_n 1, 1) rfl
theorem dX12_cycle_6 : decode cX12_cycle 6 = .ok (.ifCond .lt 41, 3) := dr9 dk9_dX12_cycle_0_0.1 4 (6, .ifCond .lt 41, 3) rfl
theorem dX12_cycle_47 : decode cX12_cycle 47 = .ok (.iconst (-1), 1) := dr9 dk9_dX12_cycle_0_0.1 5 (47, .iconst (-1), 1) rfl
theorem dX12_cycle_48 : decode cX12_cycle 48 = .ok (.ireturn, 1) := dr9 dk9_dX12_cycle_0_0.1 6 (48, .ireturn, 1) rfl
theorem dX12_cycle_9 : decode cX12_cycle 9 = .ok (.iload_n 1, 1) := dr9 dk9_dX12_cycle_0_0.1 7 (9, .iload_n 1, 1) rfl
theorem dX12_cycle_10 : decode cX12_cycle 10 = .ok (.aload_n 0, 1) := dr9 dk9_dX12_cycle_0_0.1 8 (10, .aload_n 0, 1) rfl
theorem dX12_cycle_11 : decode cX12_cycle 11 = .ok (.getfield 435, 3) := dr9 dk9_dX12_cycle_0_0.1 9 (11, .getfield 435, 3) rfl
theorem dX12_cycle_14 : decode cX12_cycle 14 = .ok (.if_icmp .ge 33, 3) := dr9 dk9_dX12_cycle_0_0.1 10 (14, .if_icmp .ge 33, 3) rfl
theorem dX12_cycle_17 : decode cX12_cycle 17 = .ok (.iload_n 1, 1) := dr9 dk9_dX12_cycle_0_0.1 11 (17, .iload_n 1, 1) rfl
theorem dX12_cycle_18 : decode cX12_cycle 18 = .ok (.bipush 100, 2) := dr9 dk9_dX12_cycle_0_0.1 12 (18, .bipush 100, 2) rfl
theorem dX12_cycle_20 : decode cX12_cycle 20 = .ok (.if_icmp .ge 27, 3) := dr9 dk9_dX12_cycle_0_0.1 13 (20, .if_icmp .ge 27, 3) rfl
theorem dX12_cycle_23 : decode cX12_cycle 23 = .ok (.aload_n 0, 1) := dr9 dk9_dX12_cycle_0_0.1 14 (23, .aload_n 0, 1) rfl
theorem dX12_cycle_24 : decode cX12_cycle 24 = .ok (.getfield 201, 3) := dr9 dk9_dX12_cycle_0_0.1 15 (24, .getfield 201, 3) rfl
theorem dX12_cycle_27 : decode cX12_cycle 27 = .ok (.iload_n 1, 1) := dr9 dk9_dX12_cycle_0_0.1 16 (27, .iload_n 1, 1) rfl
theorem dX12_cycle_28 : decode cX12_cycle 28 = .ok (.iaload, 1) := dr9 dk9_dX12_cycle_0_0.1 17 (28, .iaload, 1) rfl
theorem dX12_cycle_29 : decode cX12_cycle 29 = .ok (.iconst 3, 1) := dr9 dk9_dX12_cycle_0_0.1 18 (29, .iconst 3, 1) rfl
theorem dX12_cycle_30 : decode cX12_cycle 30 = .ok (.if_icmp .ne 17, 3) := dr9 dk9_dX12_cycle_0_0.1 19 (30, .if_icmp .ne 17, 3) rfl
theorem dX12_cycle_33 : decode cX12_cycle 33 = .ok (.iload_n 2, 1) := dr9 dk9_dX12_cycle_0_0.1 20 (33, .iload_n 2, 1) rfl
theorem dX12_cycle_34 : decode cX12_cycle 34 = .ok (.ifCond .lt 13, 3) := dr9 dk9_dX12_cycle_0_0.1 21 (34, .ifCond .lt 13, 3) rfl
theorem dX12_cycle_37 : decode cX12_cycle 37 = .ok (.iload_n 2, 1) := dr9 dk9_dX12_cycle_0_0.1 22 (37, .iload_n 2, 1) rfl
theorem dX12_cycle_38 : decode cX12_cycle 38 = .ok (.aload_n 0, 1) := dr9 dk9_dX12_cycle_0_0.1 23 (38, .aload_n 0, 1) rfl
theorem dX12_cycle_39 : decode cX12_cycle 39 = .ok (.getfield 207, 3) := dr9 dk9_dX12_cycle_0_0.2 0 (39, .getfield 207, 3) rfl
theorem dX12_cycle_42 : decode cX12_cycle 42 = .ok (.iload_n 1, 1) := dr9 dk9_dX12_cycle_0_0.2 1 (42, .iload_n 1, 1) rfl
theorem dX12_cycle_43 : decode cX12_cycle 43 = .ok (.iaload, 1) := dr9 dk9_dX12_cycle_0_0.2 2 (43, .iaload, 1) rfl
theorem dX12_cycle_44 : decode cX12_cycle 44 = .ok (.if_icmp .lt 5, 3) := dr9 dk9_dX12_cycle_0_0.2 3 (44, .if_icmp .lt 5, 3) rfl
theorem dX12_cycle_49 : decode cX12_cycle 49 = .ok (.aload_n 0, 1) := dr9 dk9_dX12_cycle_0_0.2 4 (49, .aload_n 0, 1) rfl
theorem dX12_cycle_50 : decode cX12_cycle 50 = .ok (.getfield 210, 3) := dr9 dk9_dX12_cycle_0_0.2 5 (50, .getfield 210, 3) rfl
theorem dX12_cycle_53 : decode cX12_cycle 53 = .ok (.bipush 24, 2) := dr9 dk9_dX12_cycle_0_0.2 6 (53, .bipush 24, 2) rfl
theorem dX12_cycle_55 : decode cX12_cycle 55 = .ok (.iload_n 1, 1) := dr9 dk9_dX12_cycle_0_0.2 7 (55, .iload_n 1, 1) rfl
theorem dX12_cycle_56 : decode cX12_cycle 56 = .ok (.imul, 1) := dr9 dk9_dX12_cycle_0_0.2 8 (56, .imul, 1) rfl
theorem dX12_cycle_57 : decode cX12_cycle 57 = .ok (.iload_n 2, 1) := dr9 dk9_dX12_cycle_0_0.2 9 (57, .iload_n 2, 1) rfl
theorem dX12_cycle_58 : decode cX12_cycle 58 = .ok (.iadd, 1) := dr9 dk9_dX12_cycle_0_0.2 10 (58, .iadd, 1) rfl
theorem dX12_cycle_59 : decode cX12_cycle 59 = .ok (.iaload, 1) := dr9 dk9_dX12_cycle_0_0.2 11 (59, .iaload, 1) rfl
theorem dX12_cycle_60 : decode cX12_cycle 60 = .ok (.ireturn, 1) := dr9 dk9_dX12_cycle_0_0.2 12 (60, .ireturn, 1) rfl
theorem dk9_dX12_closed_0_0 : dOk cX12_closed [(0, .aload_n 0, 1), (1, .iconst 0, 1), (2, .putfield 1, 3), (5, .iload_n 1, 1), (6, .ifCond .lt 18, 3), (24, .iconst (-1), 1), (25, .ireturn, 1), (9, .iload_n 1, 1), (10, .aload_n 0, 1), (11, .getfield 417, 3), (14, .if_icmp .ge 10, 3), (17, .iload_n 1, 1), (18, .sipush 300, 3), (21, .if_icmp .lt 5, 3), (26, .iload_n 2, 1), (27, .ifCond .ne 12, 3), (39, .iload_n 2, 1), (40, .iconst 1, 1), (41, .if_icmp .ne 12, 3), (53, .iconst (-1), 1), (54, .ireturn, 1), (44, .aload_n 0, 1), (45, .getfield 186, 3), (48, .iload_n 1, 1)] = true ∧ dOk cX12_closed [(49, .iaload, 1), (50, .goto 4, 3), (30, .aload_n 0, 1), (31, .getfield 183, 3), (34, .iload_n 1, 1), (35, .iaload, 1), (36, .goto 18, 3)] = true := by decide +kernel
theorem dX12_closed_0 : decode cX12_closed 0 = .ok (.aload_n 0, 1) := dr9 dk9_dX12_closed_0_0.1 0 (0, .aload_n 0, 1) rfl
theorem dX12_closed_1 : decode cX12_closed 1 = .ok (.iconst 0, 1) := dr9 dk9_dX12_closed_0_0.1 1 (1, .iconst 0, 1) rfl
theorem dX12_closed_2 : decode cX12_closed 2 = .ok (.putfield 1, 3) := dr9 dk9_dX12_closed_0_0.1 2 (2, .putfield 1, 3) rfl
theorem dX12_closed_5 : decode cX12_closed 5 = .ok (.iload_n 1, 1) := dr9 dk9_dX12_closed_0_0.1 3 (5, .iload_n 1, 1) rfl
theorem dX12_closed_6 : decode cX12_closed 6 = .ok (.ifCond .lt 18, 3) := dr9 dk9_dX12_closed_0_0.1 4 (6, .ifCond .lt 18, 3) rfl
theorem dX12_closed_24 : decode cX12_closed 24 = .ok (.iconst (-1), 1) := dr9 dk9_dX12_closed_0_0.1 5 (24, .iconst (-1), 1) rfl
theorem dX12_closed_25 : decode cX12_closed 25 = .ok (.ireturn, 1) := dr9 dk9_dX12_closed_0_0.1 6 (25, .ireturn, 1) rfl
theorem dX12_closed_9 : decode cX12_closed 9 = .ok (.iload_n 1, 1) := dr9 dk9_dX12_closed_0_0.1 7 (9, .iload_n 1, 1) rfl
theorem dX12_closed_10 : decode cX12_closed 10 = .ok (.aload_n 0, 1) := dr9 dk9_dX12_closed_0_0.1 8 (10, .aload_n 0, 1) rfl
theorem dX12_closed_11 : decode cX12_closed 11 = .ok (.getfield 417, 3) := dr9 dk9_dX12_closed_0_0.1 9 (11, .getfield 417, 3) rfl
theorem dX12_closed_14 : decode cX12_closed 14 = .ok (.if_icmp .ge 10, 3) := dr9 dk9_dX12_closed_0_0.1 10 (14, .if_icmp .ge 10, 3) rfl
theorem dX12_closed_17 : decode cX12_closed 17 = .ok (.iload_n 1, 1) := dr9 dk9_dX12_closed_0_0.1 11 (17, .iload_n 1, 1) rfl
theorem dX12_closed_18 : decode cX12_closed 18 = .ok (.sipush 300, 3) := dr9 dk9_dX12_closed_0_0.1 12 (18, .sipush 300, 3) rfl
theorem dX12_closed_21 : decode cX12_closed 21 = .ok (.if_icmp .lt 5, 3) := dr9 dk9_dX12_closed_0_0.1 13 (21, .if_icmp .lt 5, 3) rfl
theorem dX12_closed_26 : decode cX12_closed 26 = .ok (.iload_n 2, 1) := dr9 dk9_dX12_closed_0_0.1 14 (26, .iload_n 2, 1) rfl
theorem dX12_closed_27 : decode cX12_closed 27 = .ok (.ifCond .ne 12, 3) := dr9 dk9_dX12_closed_0_0.1 15 (27, .ifCond .ne 12, 3) rfl
theorem dX12_closed_39 : decode cX12_closed 39 = .ok (.iload_n 2, 1) := dr9 dk9_dX12_closed_0_0.1 16 (39, .iload_n 2, 1) rfl
theorem dX12_closed_40 : decode cX12_closed 40 = .ok (.iconst 1, 1) := dr9 dk9_dX12_closed_0_0.1 17 (40, .iconst 1, 1) rfl
theorem dX12_closed_41 : decode cX12_closed 41 = .ok (.if_icmp .ne 12, 3) := dr9 dk9_dX12_closed_0_0.1 18 (41, .if_icmp .ne 12, 3) rfl
theorem dX12_closed_53 : decode cX12_closed 53 = .ok (.iconst (-1), 1) := dr9 dk9_dX12_closed_0_0.1 19 (53, .iconst (-1), 1) rfl
theorem dX12_closed_54 : decode cX12_closed 54 = .ok (.ireturn, 1) := dr9 dk9_dX12_closed_0_0.1 20 (54, .ireturn, 1) rfl
theorem dX12_closed_44 : decode cX12_closed 44 = .ok (.aload_n 0, 1) := dr9 dk9_dX12_closed_0_0.1 21 (44, .aload_n 0, 1) rfl
theorem dX12_closed_45 : decode cX12_closed 45 = .ok (.getfield 186, 3) := dr9 dk9_dX12_closed_0_0.1 22 (45, .getfield 186, 3) rfl
theorem dX12_closed_48 : decode cX12_closed 48 = .ok (.iload_n 1, 1) := dr9 dk9_dX12_closed_0_0.1 23 (48, .iload_n 1, 1) rfl
theorem dX12_closed_49 : decode cX12_closed 49 = .ok (.iaload, 1) := dr9 dk9_dX12_closed_0_0.2 0 (49, .iaload, 1) rfl
theorem dX12_closed_50 : decode cX12_closed 50 = .ok (.goto 4, 3) := dr9 dk9_dX12_closed_0_0.2 1 (50, .goto 4, 3) rfl
theorem dX12_closed_30 : decode cX12_closed 30 = .ok (.aload_n 0, 1) := dr9 dk9_dX12_closed_0_0.2 2 (30, .aload_n 0, 1) rfl
theorem dX12_closed_31 : decode cX12_closed 31 = .ok (.getfield 183, 3) := dr9 dk9_dX12_closed_0_0.2 3 (31, .getfield 183, 3) rfl
theorem dX12_closed_34 : decode cX12_closed 34 = .ok (.iload_n 1, 1) := dr9 dk9_dX12_closed_0_0.2 4 (34, .iload_n 1, 1) rfl
theorem dX12_closed_35 : decode cX12_closed 35 = .ok (.iaload, 1) := dr9 dk9_dX12_closed_0_0.2 5 (35, .iaload, 1) rfl
theorem dX12_closed_36 : decode cX12_closed 36 = .ok (.goto 18, 3) := dr9 dk9_dX12_closed_0_0.2 6 (36, .goto 18, 3) rfl
theorem dk9_dX12_did_0_0 : dOk cX12_did [(0, .aload_n 0, 1), (1, .iconst 0, 1), (2, .putfield 1, 3), (5, .iload_n 1, 1), (6, .ifCond .lt 17, 3), (23, .iconst (-1), 1), (24, .ireturn, 1), (9, .iload_n 1, 1), (10, .aload_n 0, 1), (11, .getfield 420, 3), (14, .if_icmp .ge 9, 3), (17, .iload_n 1, 1), (18, .bipush 100, 2), (20, .if_icmp .lt 5, 3), (25, .iload_n 2, 1), (26, .ifCond .ne 12, 3), (38, .iload_n 2, 1), (39, .iconst 1, 1), (40, .if_icmp .ne 12, 3), (52, .iload_n 2, 1), (53, .iconst 2, 1), (54, .if_icmp .ne 12, 3), (66, .iconst (-1), 1), (67, .ireturn, 1)] = true ∧ dOk cX12_did [(57, .aload_n 0, 1), (58, .getfield 195, 3), (61, .iload_n 1, 1), (62, .iaload, 1), (63, .goto 4, 3), (43, .aload_n 0, 1), (44, .getfield 192, 3), (47, .iload_n 1, 1), (48, .iaload, 1), (49, .goto 18, 3), (29, .aload_n 0, 1), (30, .getfield 189, 3), (33, .iload_n 1, 1), (34, .iaload, 1), (35, .goto 32, 3)] = true := by decide +kernel
theorem dX12_did_0 : decode cX12_did 0 = .ok (.aload_n 0, 1) := dr9 dk9_dX12_did_0_0.1 0 (0, .aload_n 0, 1) rfl
theorem dX12_did_1 : decode cX12_did 1 = .ok (.iconst 0, 1) := dr9 dk9_dX12_did_0_0.1 1 (1, .iconst 0, 1) rfl
theorem dX12_did_2 : decode cX12_did 2 = .ok (.putfield 1, 3) := dr9 dk9_dX12_did_0_0.1 2 (2, .putfield 1, 3) rfl
theorem dX12_did_5 : decode cX12_did 5 = .ok (.iload_n 1, 1) := dr9 dk9_dX12_did_0_0.1 3 (5, .iload_n 1, 1) rfl
theorem dX12_did_6 : decode cX12_did 6 = .ok (.ifCond .lt 17, 3) := dr9 dk9_dX12_did_0_0.1 4 (6, .ifCond .lt 17, 3) rfl
theorem dX12_did_23 : decode cX12_did 23 = .ok (.iconst (-1), 1) := dr9 dk9_dX12_did_0_0.1 5 (23, .iconst (-1), 1) rfl
theorem dX12_did_24 : decode cX12_did 24 = .ok (.ireturn, 1) := dr9 dk9_dX12_did_0_0.1 6 (24, .ireturn, 1) rfl
theorem dX12_did_9 : decode cX12_did 9 = .ok (.iload_n 1, 1) := dr9 dk9_dX12_did_0_0.1 7 (9, .iload_n 1, 1) rfl
theorem dX12_did_10 : decode cX12_did 10 = .ok (.aload_n 0, 1) := dr9 dk9_dX12_did_0_0.1 8 (10, .aload_n 0, 1) rfl
theorem dX12_did_11 : decode cX12_did 11 = .ok (.getfield 420, 3) := dr9 dk9_dX12_did_0_0.1 9 (11, .getfield 420, 3) rfl
theorem dX12_did_14 : decode cX12_did 14 = .ok (.if_icmp .ge 9, 3) := dr9 dk9_dX12_did_0_0.1 10 (14, .if_icmp .ge 9, 3) rfl
theorem dX12_did_17 : decode cX12_did 17 = .ok (.iload_n 1, 1) := dr9 dk9_dX12_did_0_0.1 11 (17, .iload_n 1, 1) rfl
theorem dX12_did_18 : decode cX12_did 18 = .ok (.bipush 100, 2) := dr9 dk9_dX12_did_0_0.1 12 (18, .bipush 100, 2) rfl
theorem dX12_did_20 : decode cX12_did 20 = .ok (.if_icmp .lt 5, 3) := dr9 dk9_dX12_did_0_0.1 13 (20, .if_icmp .lt 5, 3) rfl
theorem dX12_did_25 : decode cX12_did 25 = .ok (.iload_n 2, 1) := dr9 dk9_dX12_did_0_0.1 14 (25, .iload_n 2, 1) rfl
theorem dX12_did_26 : decode cX12_did 26 = .ok (.ifCond .ne 12, 3) := dr9 dk9_dX12_did_0_0.1 15 (26, .ifCond .ne 12, 3) rfl
theorem dX12_did_38 : decode cX12_did 38 = .ok (.iload_n 2, 1) := dr9 dk9_dX12_did_0_0.1 16 (38, .iload_n 2, 1) rfl
theorem dX12_did_39 : decode cX12_did 39 = .ok (.iconst 1, 1) := dr9 dk9_dX12_did_0_0.1 17 (39, .iconst 1, 1) rfl
theorem dX12_did_40 : decode cX12_did 40 = .ok (.if_icmp .ne 12, 3) := dr9 dk9_dX12_did_0_0.1 18 (40, .if_icmp .ne 12, 3) rfl
theorem dX12_did_52 : decode cX12_did 52 = .ok (.iload_n 2, 1) := dr9 dk9_dX12_did_0_0.1 19 (52, .iload_n 2, 1) rfl
theorem dX12_did_53 : decode cX12_did 53 = .ok (.iconst 2, 1) := dr9 dk9_dX12_did_0_0.1 20 (53, .iconst 2, 1) rfl
theorem dX12_did_54 : decode cX12_did 54 = .ok (.if_icmp .ne 12, 3) := dr9 dk9_dX12_did_0_0.1 21 (54, .if_icmp .ne 12, 3) rfl
theorem dX12_did_66 : decode cX12_did 66 = .ok (.iconst (-1), 1) := dr9 dk9_dX12_did_0_0.1 22 (66, .iconst (-1), 1) rfl
theorem dX12_did_67 : decode cX12_did 67 = .ok (.ireturn, 1) := dr9 dk9_dX12_did_0_0.1 23 (67, .ireturn, 1) rfl
theorem dX12_did_57 : decode cX12_did 57 = .ok (.aload_n 0, 1) := dr9 dk9_dX12_did_0_0.2 0 (57, .aload_n 0, 1) rfl
theorem dX12_did_58 : decode cX12_did 58 = .ok (.getfield 195, 3) := dr9 dk9_dX12_did_0_0.2 1 (58, .getfield 195, 3) rfl
theorem dX12_did_61 : decode cX12_did 61 = .ok (.iload_n 1, 1) := dr9 dk9_dX12_did_0_0.2 2 (61, .iload_n 1, 1) rfl
theorem dX12_did_62 : decode cX12_did 62 = .ok (.iaload, 1) := dr9 dk9_dX12_did_0_0.2 3 (62, .iaload, 1) rfl
theorem dX12_did_63 : decode cX12_did 63 = .ok (.goto 4, 3) := dr9 dk9_dX12_did_0_0.2 4 (63, .goto 4, 3) rfl
theorem dX12_did_43 : decode cX12_did 43 = .ok (.aload_n 0, 1) := dr9 dk9_dX12_did_0_0.2 5 (43, .aload_n 0, 1) rfl
theorem dX12_did_44 : decode cX12_did 44 = .ok (.getfield 192, 3) := dr9 dk9_dX12_did_0_0.2 6 (44, .getfield 192, 3) rfl
theorem dX12_did_47 : decode cX12_did 47 = .ok (.iload_n 1, 1) := dr9 dk9_dX12_did_0_0.2 7 (47, .iload_n 1, 1) rfl
theorem dX12_did_48 : decode cX12_did 48 = .ok (.iaload, 1) := dr9 dk9_dX12_did_0_0.2 8 (48, .iaload, 1) rfl
theorem dX12_did_49 : decode cX12_did 49 = .ok (.goto 18, 3) := dr9 dk9_dX12_did_0_0.2 9 (49, .goto 18, 3) rfl
theorem dX12_did_29 : decode cX12_did 29 = .ok (.aload_n 0, 1) := dr9 dk9_dX12_did_0_0.2 10 (29, .aload_n 0, 1) rfl
theorem dX12_did_30 : decode cX12_did 30 = .ok (.getfield 189, 3) := dr9 dk9_dX12_did_0_0.2 11 (30, .getfield 189, 3) rfl
theorem dX12_did_33 : decode cX12_did 33 = .ok (.iload_n 1, 1) := dr9 dk9_dX12_did_0_0.2 12 (33, .iload_n 1, 1) rfl
theorem dX12_did_34 : decode cX12_did 34 = .ok (.iaload, 1) := dr9 dk9_dX12_did_0_0.2 13 (34, .iaload, 1) rfl
theorem dX12_did_35 : decode cX12_did 35 = .ok (.goto 32, 3) := dr9 dk9_dX12_did_0_0.2 14 (35, .goto 32, 3) rfl
theorem dk9_dX12_object_0_0 : dOk cX12_object [(0, .aload_n 0, 1), (1, .iload_n 1, 1), (2, .ifCond .lt 24, 3), (26, .iconst 1, 1), (27, .putfield 1, 3), (30, .aload_n 0, 1), (31, .getfield 1, 3), (34, .ifCond .le 7, 3), (37, .iconst 0, 1), (38, .goto 36, 3), (74, .ireturn, 1), (5, .iload_n 1, 1), (6, .aload_n 0, 1), (7, .getfield 411, 3), (10, .if_icmp .ge 16, 3), (13, .iload_n 2, 1), (14, .ifCond .lt 12, 3), (17, .iload_n 2, 1), (18, .iconst 2, 1), (19, .if_icmp .gt 7, 3), (22, .iconst 0, 1), (23, .goto 4, 3), (41, .iload_n 2, 1), (42, .ifCond .ne 12, 3)] = true ∧ dOk cX12_object [(54, .iload_n 2, 1), (55, .iconst 1, 1), (56, .if_icmp .ne 12, 3), (68, .aload_n 0, 1), (69, .getfield 170, 3), (72, .iload_n 1, 1), (73, .iaload, 1), (59, .aload_n 0, 1), (60, .getfield 167, 3), (63, .iload_n 1, 1), (64, .iaload, 1), (65, .goto 9, 3), (45, .aload_n 0, 1), (46, .getfield 164, 3), (49, .iload_n 1, 1), (50, .iaload, 1), (51, .goto 23, 3)] = true := by decide +kernel
theorem dX12_object_0 : decode cX12_object 0 = .ok (.aload_n 0, 1) := dr9 dk9_dX12_object_0_0.1 0 (0, .aload_n 0, 1) rfl
theorem dX12_object_1 : decode cX12_object 1 = .ok (.iload_n 1, 1) := dr9 dk9_dX12_object_0_0.1 1 (1, .iload_n 1, 1) rfl
theorem dX12_object_2 : decode cX12_object 2 = .ok (.ifCond .lt 24, 3) := dr9 dk9_dX12_object_0_0.1 2 (2, .ifCond .lt 24, 3) rfl
theorem dX12_object_26 : decode cX12_object 26 = .ok (.iconst 1, 1) := dr9 dk9_dX12_object_0_0.1 3 (26, .iconst 1, 1) rfl
theorem dX12_object_27 : decode cX12_object 27 = .ok (.putfield 1, 3) := dr9 dk9_dX12_object_0_0.1 4 (27, .putfield 1, 3) rfl
theorem dX12_object_30 : decode cX12_object 30 = .ok (.aload_n 0, 1) := dr9 dk9_dX12_object_0_0.1 5 (30, .aload_n 0, 1) rfl
theorem dX12_object_31 : decode cX12_object 31 = .ok (.getfield 1, 3) := dr9 dk9_dX12_object_0_0.1 6 (31, .getfield 1, 3) rfl
theorem dX12_object_34 : decode cX12_object 34 = .ok (.ifCond .le 7, 3) := dr9 dk9_dX12_object_0_0.1 7 (34, .ifCond .le 7, 3) rfl
theorem dX12_object_37 : decode cX12_object 37 = .ok (.iconst 0, 1) := dr9 dk9_dX12_object_0_0.1 8 (37, .iconst 0, 1) rfl
theorem dX12_object_38 : decode cX12_object 38 = .ok (.goto 36, 3) := dr9 dk9_dX12_object_0_0.1 9 (38, .goto 36, 3) rfl
theorem dX12_object_74 : decode cX12_object 74 = .ok (.ireturn, 1) := dr9 dk9_dX12_object_0_0.1 10 (74, .ireturn, 1) rfl
theorem dX12_object_5 : decode cX12_object 5 = .ok (.iload_n 1, 1) := dr9 dk9_dX12_object_0_0.1 11 (5, .iload_n 1, 1) rfl
theorem dX12_object_6 : decode cX12_object 6 = .ok (.aload_n 0, 1) := dr9 dk9_dX12_object_0_0.1 12 (6, .aload_n 0, 1) rfl
theorem dX12_object_7 : decode cX12_object 7 = .ok (.getfield 411, 3) := dr9 dk9_dX12_object_0_0.1 13 (7, .getfield 411, 3) rfl
theorem dX12_object_10 : decode cX12_object 10 = .ok (.if_icmp .ge 16, 3) := dr9 dk9_dX12_object_0_0.1 14 (10, .if_icmp .ge 16, 3) rfl
theorem dX12_object_13 : decode cX12_object 13 = .ok (.iload_n 2, 1) := dr9 dk9_dX12_object_0_0.1 15 (13, .iload_n 2, 1) rfl
theorem dX12_object_14 : decode cX12_object 14 = .ok (.ifCond .lt 12, 3) := dr9 dk9_dX12_object_0_0.1 16 (14, .ifCond .lt 12, 3) rfl
theorem dX12_object_17 : decode cX12_object 17 = .ok (.iload_n 2, 1) := dr9 dk9_dX12_object_0_0.1 17 (17, .iload_n 2, 1) rfl
theorem dX12_object_18 : decode cX12_object 18 = .ok (.iconst 2, 1) := dr9 dk9_dX12_object_0_0.1 18 (18, .iconst 2, 1) rfl
theorem dX12_object_19 : decode cX12_object 19 = .ok (.if_icmp .gt 7, 3) := dr9 dk9_dX12_object_0_0.1 19 (19, .if_icmp .gt 7, 3) rfl
theorem dX12_object_22 : decode cX12_object 22 = .ok (.iconst 0, 1) := dr9 dk9_dX12_object_0_0.1 20 (22, .iconst 0, 1) rfl
theorem dX12_object_23 : decode cX12_object 23 = .ok (.goto 4, 3) := dr9 dk9_dX12_object_0_0.1 21 (23, .goto 4, 3) rfl
theorem dX12_object_41 : decode cX12_object 41 = .ok (.iload_n 2, 1) := dr9 dk9_dX12_object_0_0.1 22 (41, .iload_n 2, 1) rfl
theorem dX12_object_42 : decode cX12_object 42 = .ok (.ifCond .ne 12, 3) := dr9 dk9_dX12_object_0_0.1 23 (42, .ifCond .ne 12, 3) rfl
theorem dX12_object_54 : decode cX12_object 54 = .ok (.iload_n 2, 1) := dr9 dk9_dX12_object_0_0.2 0 (54, .iload_n 2, 1) rfl
theorem dX12_object_55 : decode cX12_object 55 = .ok (.iconst 1, 1) := dr9 dk9_dX12_object_0_0.2 1 (55, .iconst 1, 1) rfl
theorem dX12_object_56 : decode cX12_object 56 = .ok (.if_icmp .ne 12, 3) := dr9 dk9_dX12_object_0_0.2 2 (56, .if_icmp .ne 12, 3) rfl
theorem dX12_object_68 : decode cX12_object 68 = .ok (.aload_n 0, 1) := dr9 dk9_dX12_object_0_0.2 3 (68, .aload_n 0, 1) rfl
theorem dX12_object_69 : decode cX12_object 69 = .ok (.getfield 170, 3) := dr9 dk9_dX12_object_0_0.2 4 (69, .getfield 170, 3) rfl
theorem dX12_object_72 : decode cX12_object 72 = .ok (.iload_n 1, 1) := dr9 dk9_dX12_object_0_0.2 5 (72, .iload_n 1, 1) rfl
theorem dX12_object_73 : decode cX12_object 73 = .ok (.iaload, 1) := dr9 dk9_dX12_object_0_0.2 6 (73, .iaload, 1) rfl
theorem dX12_object_59 : decode cX12_object 59 = .ok (.aload_n 0, 1) := dr9 dk9_dX12_object_0_0.2 7 (59, .aload_n 0, 1) rfl
theorem dX12_object_60 : decode cX12_object 60 = .ok (.getfield 167, 3) := dr9 dk9_dX12_object_0_0.2 8 (60, .getfield 167, 3) rfl
theorem dX12_object_63 : decode cX12_object 63 = .ok (.iload_n 1, 1) := dr9 dk9_dX12_object_0_0.2 9 (63, .iload_n 1, 1) rfl
theorem dX12_object_64 : decode cX12_object 64 = .ok (.iaload, 1) := dr9 dk9_dX12_object_0_0.2 10 (64, .iaload, 1) rfl
theorem dX12_object_65 : decode cX12_object 65 = .ok (.goto 9, 3) := dr9 dk9_dX12_object_0_0.2 11 (65, .goto 9, 3) rfl
theorem dX12_object_45 : decode cX12_object 45 = .ok (.aload_n 0, 1) := dr9 dk9_dX12_object_0_0.2 12 (45, .aload_n 0, 1) rfl
theorem dX12_object_46 : decode cX12_object 46 = .ok (.getfield 164, 3) := dr9 dk9_dX12_object_0_0.2 13 (46, .getfield 164, 3) rfl
theorem dX12_object_49 : decode cX12_object 49 = .ok (.iload_n 1, 1) := dr9 dk9_dX12_object_0_0.2 14 (49, .iload_n 1, 1) rfl
theorem dX12_object_50 : decode cX12_object 50 = .ok (.iaload, 1) := dr9 dk9_dX12_object_0_0.2 15 (50, .iaload, 1) rfl
theorem dX12_object_51 : decode cX12_object 51 = .ok (.goto 23, 3) := dr9 dk9_dX12_object_0_0.2 16 (51, .goto 23, 3) rfl
theorem dk9_dX12_spoiled_0_0 : dOk cX12_spoiled [(0, .aload_n 0, 1), (1, .iconst 0, 1), (2, .putfield 1, 3), (5, .aload_n 0, 1), (6, .iload_n 1, 1), (7, .invokevirtual 574, 3), (10, .ifCond .eq 20, 3), (30, .iconst (-1), 1), (31, .ireturn, 1), (13, .iload_n 2, 1), (14, .ifCond .lt 16, 3), (17, .iload_n 2, 1), (18, .aload_n 0, 1), (19, .getfield 62, 3), (22, .aload_n 0, 1), (23, .getfield 286, 3), (26, .iaload, 1), (27, .if_icmp .lt 5, 3), (32, .aload_n 0, 1), (33, .iload_n 2, 1), (34, .iload_n 1, 1), (35, .invokevirtual 481, 3), (38, .istore_n 3, 1), (39, .iload_n 3, 1)] = true ∧ dOk cX12_spoiled [(40, .ifCond .lt 21, 3), (61, .iconst 0, 1), (62, .ireturn, 1), (43, .aload_n 0, 1), (44, .getfield 161, 3), (47, .bipush 24, 2), (49, .iload_n 3, 1), (50, .imul, 1), (51, .iload_n 2, 1), (52, .iadd, 1), (53, .baload, 1), (54, .ifCond .eq 7, 3), (57, .iconst 1, 1), (58, .goto 4, 3)] = true := by decide +kernel
theorem dX12_spoiled_0 : decode cX12_spoiled 0 = .ok (.aload_n 0, 1) := dr9 dk9_dX12_spoiled_0_0.1 0 (0, .aload_n 0, 1) rfl
theorem dX12_spoiled_1 : decode cX12_spoiled 1 = .ok (.iconst 0, 1) := dr9 dk9_dX12_spoiled_0_0.1 1 (1, .iconst 0, 1) rfl
theorem dX12_spoiled_2 : decode cX12_spoiled 2 = .ok (.putfield 1, 3) := dr9 dk9_dX12_spoiled_0_0.1 2 (2, .putfield 1, 3) rfl
theorem dX12_spoiled_5 : decode cX12_spoiled 5 = .ok (.aload_n 0, 1) := dr9 dk9_dX12_spoiled_0_0.1 3 (5, .aload_n 0, 1) rfl
theorem dX12_spoiled_6 : decode cX12_spoiled 6 = .ok (.iload_n 1, 1) := dr9 dk9_dX12_spoiled_0_0.1 4 (6, .iload_n 1, 1) rfl
theorem dX12_spoiled_7 : decode cX12_spoiled 7 = .ok (.invokevirtual 574, 3) := dr9 dk9_dX12_spoiled_0_0.1 5 (7, .invokevirtual 574, 3) rfl
theorem dX12_spoiled_10 : decode cX12_spoiled 10 = .ok (.ifCond .eq 20, 3) := dr9 dk9_dX12_spoiled_0_0.1 6 (10, .ifCond .eq 20, 3) rfl
theorem dX12_spoiled_30 : decode cX12_spoiled 30 = .ok (.iconst (-1), 1) := dr9 dk9_dX12_spoiled_0_0.1 7 (30, .iconst (-1), 1) rfl
theorem dX12_spoiled_31 : decode cX12_spoiled 31 = .ok (.ireturn, 1) := dr9 dk9_dX12_spoiled_0_0.1 8 (31, .ireturn, 1) rfl
theorem dX12_spoiled_13 : decode cX12_spoiled 13 = .ok (.iload_n 2, 1) := dr9 dk9_dX12_spoiled_0_0.1 9 (13, .iload_n 2, 1) rfl
theorem dX12_spoiled_14 : decode cX12_spoiled 14 = .ok (.ifCond .lt 16, 3) := dr9 dk9_dX12_spoiled_0_0.1 10 (14, .ifCond .lt 16, 3) rfl
theorem dX12_spoiled_17 : decode cX12_spoiled 17 = .ok (.iload_n 2, 1) := dr9 dk9_dX12_spoiled_0_0.1 11 (17, .iload_n 2, 1) rfl
theorem dX12_spoiled_18 : decode cX12_spoiled 18 = .ok (.aload_n 0, 1) := dr9 dk9_dX12_spoiled_0_0.1 12 (18, .aload_n 0, 1) rfl
theorem dX12_spoiled_19 : decode cX12_spoiled 19 = .ok (.getfield 62, 3) := dr9 dk9_dX12_spoiled_0_0.1 13 (19, .getfield 62, 3) rfl
theorem dX12_spoiled_22 : decode cX12_spoiled 22 = .ok (.aload_n 0, 1) := dr9 dk9_dX12_spoiled_0_0.1 14 (22, .aload_n 0, 1) rfl
theorem dX12_spoiled_23 : decode cX12_spoiled 23 = .ok (.getfield 286, 3) := dr9 dk9_dX12_spoiled_0_0.1 15 (23, .getfield 286, 3) rfl
theorem dX12_spoiled_26 : decode cX12_spoiled 26 = .ok (.iaload, 1) := dr9 dk9_dX12_spoiled_0_0.1 16 (26, .iaload, 1) rfl
theorem dX12_spoiled_27 : decode cX12_spoiled 27 = .ok (.if_icmp .lt 5, 3) := dr9 dk9_dX12_spoiled_0_0.1 17 (27, .if_icmp .lt 5, 3) rfl
theorem dX12_spoiled_32 : decode cX12_spoiled 32 = .ok (.aload_n 0, 1) := dr9 dk9_dX12_spoiled_0_0.1 18 (32, .aload_n 0, 1) rfl
theorem dX12_spoiled_33 : decode cX12_spoiled 33 = .ok (.iload_n 2, 1) := dr9 dk9_dX12_spoiled_0_0.1 19 (33, .iload_n 2, 1) rfl
theorem dX12_spoiled_34 : decode cX12_spoiled 34 = .ok (.iload_n 1, 1) := dr9 dk9_dX12_spoiled_0_0.1 20 (34, .iload_n 1, 1) rfl
theorem dX12_spoiled_35 : decode cX12_spoiled 35 = .ok (.invokevirtual 481, 3) := dr9 dk9_dX12_spoiled_0_0.1 21 (35, .invokevirtual 481, 3) rfl
theorem dX12_spoiled_38 : decode cX12_spoiled 38 = .ok (.istore_n 3, 1) := dr9 dk9_dX12_spoiled_0_0.1 22 (38, .istore_n 3, 1) rfl
theorem dX12_spoiled_39 : decode cX12_spoiled 39 = .ok (.iload_n 3, 1) := dr9 dk9_dX12_spoiled_0_0.1 23 (39, .iload_n 3, 1) rfl
theorem dX12_spoiled_40 : decode cX12_spoiled 40 = .ok (.ifCond .lt 21, 3) := dr9 dk9_dX12_spoiled_0_0.2 0 (40, .ifCond .lt 21, 3) rfl
theorem dX12_spoiled_61 : decode cX12_spoiled 61 = .ok (.iconst 0, 1) := dr9 dk9_dX12_spoiled_0_0.2 1 (61, .iconst 0, 1) rfl
theorem dX12_spoiled_62 : decode cX12_spoiled 62 = .ok (.ireturn, 1) := dr9 dk9_dX12_spoiled_0_0.2 2 (62, .ireturn, 1) rfl
theorem dX12_spoiled_43 : decode cX12_spoiled 43 = .ok (.aload_n 0, 1) := dr9 dk9_dX12_spoiled_0_0.2 3 (43, .aload_n 0, 1) rfl
theorem dX12_spoiled_44 : decode cX12_spoiled 44 = .ok (.getfield 161, 3) := dr9 dk9_dX12_spoiled_0_0.2 4 (44, .getfield 161, 3) rfl
theorem dX12_spoiled_47 : decode cX12_spoiled 47 = .ok (.bipush 24, 2) := dr9 dk9_dX12_spoiled_0_0.2 5 (47, .bipush 24, 2) rfl
theorem dX12_spoiled_49 : decode cX12_spoiled 49 = .ok (.iload_n 3, 1) := dr9 dk9_dX12_spoiled_0_0.2 6 (49, .iload_n 3, 1) rfl
theorem dX12_spoiled_50 : decode cX12_spoiled 50 = .ok (.imul, 1) := dr9 dk9_dX12_spoiled_0_0.2 7 (50, .imul, 1) rfl
theorem dX12_spoiled_51 : decode cX12_spoiled 51 = .ok (.iload_n 2, 1) := dr9 dk9_dX12_spoiled_0_0.2 8 (51, .iload_n 2, 1) rfl
theorem dX12_spoiled_52 : decode cX12_spoiled 52 = .ok (.iadd, 1) := dr9 dk9_dX12_spoiled_0_0.2 9 (52, .iadd, 1) rfl
theorem dX12_spoiled_53 : decode cX12_spoiled 53 = .ok (.baload, 1) := dr9 dk9_dX12_spoiled_0_0.2 10 (53, .baload, 1) rfl
theorem dX12_spoiled_54 : decode cX12_spoiled 54 = .ok (.ifCond .eq 7, 3) := dr9 dk9_dX12_spoiled_0_0.2 11 (54, .ifCond .eq 7, 3) rfl
theorem dX12_spoiled_57 : decode cX12_spoiled 57 = .ok (.iconst 1, 1) := dr9 dk9_dX12_spoiled_0_0.2 12 (57, .iconst 1, 1) rfl
theorem dX12_spoiled_58 : decode cX12_spoiled 58 = .ok (.goto 4, 3) := dr9 dk9_dX12_spoiled_0_0.2 13 (58, .goto 4, 3) rfl
theorem dk9_dX12_component_0_0 : dOk cX12_component [(0, .aload_n 0, 1), (1, .iload_n 1, 1), (2, .ifCond .lt 29, 3), (31, .iconst 1, 1), (32, .putfield 1, 3), (35, .aload_n 0, 1), (36, .getfield 1, 3), (39, .ifCond .le 5, 3), (42, .iconst 0, 1), (43, .ireturn, 1), (5, .iload_n 1, 1), (6, .aload_n 0, 1), (7, .getfield 62, 3), (10, .aload_n 0, 1), (11, .getfield 286, 3), (14, .iaload, 1), (15, .if_icmp .ge 16, 3), (18, .iload_n 2, 1), (19, .ifCond .lt 12, 3), (22, .iload_n 2, 1), (23, .iconst 4, 1), (24, .if_icmp .gt 7, 3), (27, .iconst 0, 1), (28, .goto 4, 3)] = true ∧ dOk cX12_component [(44, .bipush 24, 2), (46, .aload_n 0, 1), (47, .getfield 286, 3), (50, .imul, 1), (51, .iload_n 1, 1), (52, .iadd, 1), (53, .istore_n 3, 1), (54, .iload_n 2, 1), (55, .ifCond .ne 12, 3), (67, .iload_n 2, 1), (68, .iconst 1, 1), (69, .if_icmp .ne 12, 3), (81, .iload_n 2, 1), (82, .iconst 2, 1), (83, .if_icmp .ne 19, 3), (102, .iload_n 2, 1), (103, .iconst 3, 1), (104, .if_icmp .ne 12, 3), (116, .aload_n 0, 1), (117, .getfield 74, 3), (120, .iload_n 3, 1), (121, .iaload, 1), (122, .ireturn, 1), (107, .aload_n 0, 1)] = true ∧ dOk cX12_component [(108, .getfield 86, 3), (111, .iload_n 3, 1), (112, .iaload, 1), (113, .goto 9, 3), (86, .aload_n 0, 1), (87, .iload_n 1, 1), (88, .invokevirtual 438, 3), (91, .ifCond .eq 7, 3), (98, .iconst 0, 1), (99, .goto 23, 3), (94, .iconst 1, 1), (95, .goto 27, 3), (72, .aload_n 0, 1), (73, .getfield 77, 3), (76, .iload_n 3, 1), (77, .iaload, 1), (78, .goto 44, 3), (58, .aload_n 0, 1), (59, .getfield 71, 3), (62, .iload_n 3, 1), (63, .iaload, 1), (64, .goto 58, 3)] = true := by decide +kernel
theorem dX12_component_0 : decode cX12_component 0 = .ok (.aload_n 0, 1) := dr9 dk9_dX12_component_0_0.1 0 (0, .aload_n 0, 1) rfl
theorem dX12_component_1 : decode cX12_component 1 = .ok (.iload_n 1, 1) := dr9 dk9_dX12_component_0_0.1 1 (1, .iload_n 1, 1) rfl
theorem dX12_component_2 : decode cX12_component 2 = .ok (.ifCond .lt 29, 3) := dr9 dk9_dX12_component_0_0.1 2 (2, .ifCond .lt 29, 3) rfl
theorem dX12_component_31 : decode cX12_component 31 = .ok (.iconst 1, 1) := dr9 dk9_dX12_component_0_0.1 3 (31, .iconst 1, 1) rfl
theorem dX12_component_32 : decode cX12_component 32 = .ok (.putfield 1, 3) := dr9 dk9_dX12_component_0_0.1 4 (32, .putfield 1, 3) rfl
theorem dX12_component_35 : decode cX12_component 35 = .ok (.aload_n 0, 1) := dr9 dk9_dX12_component_0_0.1 5 (35, .aload_n 0, 1) rfl
theorem dX12_component_36 : decode cX12_component 36 = .ok (.getfield 1, 3) := dr9 dk9_dX12_component_0_0.1 6 (36, .getfield 1, 3) rfl
theorem dX12_component_39 : decode cX12_component 39 = .ok (.ifCond .le 5, 3) := dr9 dk9_dX12_component_0_0.1 7 (39, .ifCond .le 5, 3) rfl
theorem dX12_component_42 : decode cX12_component 42 = .ok (.iconst 0, 1) := dr9 dk9_dX12_component_0_0.1 8 (42, .iconst 0, 1) rfl
theorem dX12_component_43 : decode cX12_component 43 = .ok (.ireturn, 1) := dr9 dk9_dX12_component_0_0.1 9 (43, .ireturn, 1) rfl
theorem dX12_component_5 : decode cX12_component 5 = .ok (.iload_n 1, 1) := dr9 dk9_dX12_component_0_0.1 10 (5, .iload_n 1, 1) rfl
theorem dX12_component_6 : decode cX12_component 6 = .ok (.aload_n 0, 1) := dr9 dk9_dX12_component_0_0.1 11 (6, .aload_n 0, 1) rfl
theorem dX12_component_7 : decode cX12_component 7 = .ok (.getfield 62, 3) := dr9 dk9_dX12_component_0_0.1 12 (7, .getfield 62, 3) rfl
theorem dX12_component_10 : decode cX12_component 10 = .ok (.aload_n 0, 1) := dr9 dk9_dX12_component_0_0.1 13 (10, .aload_n 0, 1) rfl
theorem dX12_component_11 : decode cX12_component 11 = .ok (.getfield 286, 3) := dr9 dk9_dX12_component_0_0.1 14 (11, .getfield 286, 3) rfl
theorem dX12_component_14 : decode cX12_component 14 = .ok (.iaload, 1) := dr9 dk9_dX12_component_0_0.1 15 (14, .iaload, 1) rfl
theorem dX12_component_15 : decode cX12_component 15 = .ok (.if_icmp .ge 16, 3) := dr9 dk9_dX12_component_0_0.1 16 (15, .if_icmp .ge 16, 3) rfl
theorem dX12_component_18 : decode cX12_component 18 = .ok (.iload_n 2, 1) := dr9 dk9_dX12_component_0_0.1 17 (18, .iload_n 2, 1) rfl
theorem dX12_component_19 : decode cX12_component 19 = .ok (.ifCond .lt 12, 3) := dr9 dk9_dX12_component_0_0.1 18 (19, .ifCond .lt 12, 3) rfl
theorem dX12_component_22 : decode cX12_component 22 = .ok (.iload_n 2, 1) := dr9 dk9_dX12_component_0_0.1 19 (22, .iload_n 2, 1) rfl
theorem dX12_component_23 : decode cX12_component 23 = .ok (.iconst 4, 1) := dr9 dk9_dX12_component_0_0.1 20 (23, .iconst 4, 1) rfl
theorem dX12_component_24 : decode cX12_component 24 = .ok (.if_icmp .gt 7, 3) := dr9 dk9_dX12_component_0_0.1 21 (24, .if_icmp .gt 7, 3) rfl
theorem dX12_component_27 : decode cX12_component 27 = .ok (.iconst 0, 1) := dr9 dk9_dX12_component_0_0.1 22 (27, .iconst 0, 1) rfl
theorem dX12_component_28 : decode cX12_component 28 = .ok (.goto 4, 3) := dr9 dk9_dX12_component_0_0.1 23 (28, .goto 4, 3) rfl
theorem dX12_component_44 : decode cX12_component 44 = .ok (.bipush 24, 2) := dr9 dk9_dX12_component_0_0.2.1 0 (44, .bipush 24, 2) rfl
theorem dX12_component_46 : decode cX12_component 46 = .ok (.aload_n 0, 1) := dr9 dk9_dX12_component_0_0.2.1 1 (46, .aload_n 0, 1) rfl
theorem dX12_component_47 : decode cX12_component 47 = .ok (.getfield 286, 3) := dr9 dk9_dX12_component_0_0.2.1 2 (47, .getfield 286, 3) rfl
theorem dX12_component_50 : decode cX12_component 50 = .ok (.imul, 1) := dr9 dk9_dX12_component_0_0.2.1 3 (50, .imul, 1) rfl
theorem dX12_component_51 : decode cX12_component 51 = .ok (.iload_n 1, 1) := dr9 dk9_dX12_component_0_0.2.1 4 (51, .iload_n 1, 1) rfl
theorem dX12_component_52 : decode cX12_component 52 = .ok (.iadd, 1) := dr9 dk9_dX12_component_0_0.2.1 5 (52, .iadd, 1) rfl
theorem dX12_component_53 : decode cX12_component 53 = .ok (.istore_n 3, 1) := dr9 dk9_dX12_component_0_0.2.1 6 (53, .istore_n 3, 1) rfl
theorem dX12_component_54 : decode cX12_component 54 = .ok (.iload_n 2, 1) := dr9 dk9_dX12_component_0_0.2.1 7 (54, .iload_n 2, 1) rfl
theorem dX12_component_55 : decode cX12_component 55 = .ok (.ifCond .ne 12, 3) := dr9 dk9_dX12_component_0_0.2.1 8 (55, .ifCond .ne 12, 3) rfl
theorem dX12_component_67 : decode cX12_component 67 = .ok (.iload_n 2, 1) := dr9 dk9_dX12_component_0_0.2.1 9 (67, .iload_n 2, 1) rfl
theorem dX12_component_68 : decode cX12_component 68 = .ok (.iconst 1, 1) := dr9 dk9_dX12_component_0_0.2.1 10 (68, .iconst 1, 1) rfl
theorem dX12_component_69 : decode cX12_component 69 = .ok (.if_icmp .ne 12, 3) := dr9 dk9_dX12_component_0_0.2.1 11 (69, .if_icmp .ne 12, 3) rfl
theorem dX12_component_81 : decode cX12_component 81 = .ok (.iload_n 2, 1) := dr9 dk9_dX12_component_0_0.2.1 12 (81, .iload_n 2, 1) rfl
theorem dX12_component_82 : decode cX12_component 82 = .ok (.iconst 2, 1) := dr9 dk9_dX12_component_0_0.2.1 13 (82, .iconst 2, 1) rfl
theorem dX12_component_83 : decode cX12_component 83 = .ok (.if_icmp .ne 19, 3) := dr9 dk9_dX12_component_0_0.2.1 14 (83, .if_icmp .ne 19, 3) rfl
theorem dX12_component_102 : decode cX12_component 102 = .ok (.iload_n 2, 1) := dr9 dk9_dX12_component_0_0.2.1 15 (102, .iload_n 2, 1) rfl
theorem dX12_component_103 : decode cX12_component 103 = .ok (.iconst 3, 1) := dr9 dk9_dX12_component_0_0.2.1 16 (103, .iconst 3, 1) rfl
theorem dX12_component_104 : decode cX12_component 104 = .ok (.if_icmp .ne 12, 3) := dr9 dk9_dX12_component_0_0.2.1 17 (104, .if_icmp .ne 12, 3) rfl
theorem dX12_component_116 : decode cX12_component 116 = .ok (.aload_n 0, 1) := dr9 dk9_dX12_component_0_0.2.1 18 (116, .aload_n 0, 1) rfl
theorem dX12_component_117 : decode cX12_component 117 = .ok (.getfield 74, 3) := dr9 dk9_dX12_component_0_0.2.1 19 (117, .getfield 74, 3) rfl
theorem dX12_component_120 : decode cX12_component 120 = .ok (.iload_n 3, 1) := dr9 dk9_dX12_component_0_0.2.1 20 (120, .iload_n 3, 1) rfl
theorem dX12_component_121 : decode cX12_component 121 = .ok (.iaload, 1) := dr9 dk9_dX12_component_0_0.2.1 21 (121, .iaload, 1) rfl
theorem dX12_component_122 : decode cX12_component 122 = .ok (.ireturn, 1) := dr9 dk9_dX12_component_0_0.2.1 22 (122, .ireturn, 1) rfl
theorem dX12_component_107 : decode cX12_component 107 = .ok (.aload_n 0, 1) := dr9 dk9_dX12_component_0_0.2.1 23 (107, .aload_n 0, 1) rfl
theorem dX12_component_108 : decode cX12_component 108 = .ok (.getfield 86, 3) := dr9 dk9_dX12_component_0_0.2.2 0 (108, .getfield 86, 3) rfl
theorem dX12_component_111 : decode cX12_component 111 = .ok (.iload_n 3, 1) := dr9 dk9_dX12_component_0_0.2.2 1 (111, .iload_n 3, 1) rfl
theorem dX12_component_112 : decode cX12_component 112 = .ok (.iaload, 1) := dr9 dk9_dX12_component_0_0.2.2 2 (112, .iaload, 1) rfl
theorem dX12_component_113 : decode cX12_component 113 = .ok (.goto 9, 3) := dr9 dk9_dX12_component_0_0.2.2 3 (113, .goto 9, 3) rfl
theorem dX12_component_86 : decode cX12_component 86 = .ok (.aload_n 0, 1) := dr9 dk9_dX12_component_0_0.2.2 4 (86, .aload_n 0, 1) rfl
theorem dX12_component_87 : decode cX12_component 87 = .ok (.iload_n 1, 1) := dr9 dk9_dX12_component_0_0.2.2 5 (87, .iload_n 1, 1) rfl
theorem dX12_component_88 : decode cX12_component 88 = .ok (.invokevirtual 438, 3) := dr9 dk9_dX12_component_0_0.2.2 6 (88, .invokevirtual 438, 3) rfl
theorem dX12_component_91 : decode cX12_component 91 = .ok (.ifCond .eq 7, 3) := dr9 dk9_dX12_component_0_0.2.2 7 (91, .ifCond .eq 7, 3) rfl
theorem dX12_component_98 : decode cX12_component 98 = .ok (.iconst 0, 1) := dr9 dk9_dX12_component_0_0.2.2 8 (98, .iconst 0, 1) rfl
theorem dX12_component_99 : decode cX12_component 99 = .ok (.goto 23, 3) := dr9 dk9_dX12_component_0_0.2.2 9 (99, .goto 23, 3) rfl
theorem dX12_component_94 : decode cX12_component 94 = .ok (.iconst 1, 1) := dr9 dk9_dX12_component_0_0.2.2 10 (94, .iconst 1, 1) rfl
theorem dX12_component_95 : decode cX12_component 95 = .ok (.goto 27, 3) := dr9 dk9_dX12_component_0_0.2.2 11 (95, .goto 27, 3) rfl
theorem dX12_component_72 : decode cX12_component 72 = .ok (.aload_n 0, 1) := dr9 dk9_dX12_component_0_0.2.2 12 (72, .aload_n 0, 1) rfl
theorem dX12_component_73 : decode cX12_component 73 = .ok (.getfield 77, 3) := dr9 dk9_dX12_component_0_0.2.2 13 (73, .getfield 77, 3) rfl
theorem dX12_component_76 : decode cX12_component 76 = .ok (.iload_n 3, 1) := dr9 dk9_dX12_component_0_0.2.2 14 (76, .iload_n 3, 1) rfl
theorem dX12_component_77 : decode cX12_component 77 = .ok (.iaload, 1) := dr9 dk9_dX12_component_0_0.2.2 15 (77, .iaload, 1) rfl
theorem dX12_component_78 : decode cX12_component 78 = .ok (.goto 44, 3) := dr9 dk9_dX12_component_0_0.2.2 16 (78, .goto 44, 3) rfl
theorem dX12_component_58 : decode cX12_component 58 = .ok (.aload_n 0, 1) := dr9 dk9_dX12_component_0_0.2.2 17 (58, .aload_n 0, 1) rfl
theorem dX12_component_59 : decode cX12_component 59 = .ok (.getfield 71, 3) := dr9 dk9_dX12_component_0_0.2.2 18 (59, .getfield 71, 3) rfl
theorem dX12_component_62 : decode cX12_component 62 = .ok (.iload_n 3, 1) := dr9 dk9_dX12_component_0_0.2.2 19 (62, .iload_n 3, 1) rfl
theorem dX12_component_63 : decode cX12_component 63 = .ok (.iaload, 1) := dr9 dk9_dX12_component_0_0.2.2 20 (63, .iaload, 1) rfl
theorem dX12_component_64 : decode cX12_component 64 = .ok (.goto 58, 3) := dr9 dk9_dX12_component_0_0.2.2 21 (64, .goto 58, 3) rfl
theorem dk9_dX12_count_0_0 : dOk cX12_count [(0, .aload_n 0, 1), (1, .iconst 0, 1), (2, .putfield 1, 3), (5, .iconst 0, 1), (6, .istore_n 2, 1), (7, .iconst 0, 1), (8, .istore_n 3, 1), (9, .iconst 0, 1), (10, .istore 4, 2), (12, .iload 4, 2), (14, .aload_n 0, 1), (15, .getfield 244, 3), (18, .if_icmp .ge 27, 3), (21, .iload_n 2, 1), (22, .aload_n 0, 1), (23, .getfield 152, 3), (26, .iload 4, 2), (28, .baload, 1), (29, .ifCond .eq 7, 3), (36, .iconst 0, 1), (37, .iadd, 1), (38, .istore_n 2, 1), (39, .iinc 4 1, 3), (42, .goto (-30), 3)] = true ∧ dOk cX12_count [(32, .iconst 1, 1), (33, .goto 4, 3), (45, .iconst 0, 1), (46, .istore 4, 2), (48, .iload 4, 2), (50, .aload_n 0, 1), (51, .getfield 411, 3), (54, .if_icmp .ge 28, 3), (57, .iload_n 3, 1), (58, .aload_n 0, 1), (59, .getfield 170, 3), (62, .iload 4, 2), (64, .iaload, 1), (65, .iconst 1, 1), (66, .if_icmp .ne 7, 3), (73, .iconst 0, 1), (74, .iadd, 1), (75, .istore_n 3, 1), (76, .iinc 4 1, 3), (79, .goto (-31), 3), (69, .iconst 1, 1), (70, .goto 4, 3), (82, .iload_n 1, 1), (83, .tableswitch 157 0 12 #[65, 75, 85, 95, 105, 115, 117, 122, 124, 137, 142, 147, 152], 65)] = true ∧ dOk cX12_count [(148, .aload_n 0, 1), (149, .getfield 43, 3), (152, .aload_n 0, 1), (153, .getfield 286, 3), (156, .iaload, 1), (157, .ireturn, 1), (158, .aload_n 0, 1), (159, .getfield 53, 3), (162, .aload_n 0, 1), (163, .getfield 286, 3), (166, .iaload, 1), (167, .ireturn, 1), (168, .aload_n 0, 1), (169, .getfield 62, 3), (172, .aload_n 0, 1), (173, .getfield 286, 3), (176, .iaload, 1), (177, .ireturn, 1), (178, .aload_n 0, 1), (179, .getfield 110, 3), (182, .aload_n 0, 1), (183, .getfield 286, 3), (186, .iaload, 1), (187, .ireturn, 1)] = true ∧ dOk cX12_count [(188, .aload_n 0, 1), (189, .getfield 122, 3), (192, .aload_n 0, 1), (193, .getfield 286, 3), (196, .iaload, 1), (197, .ireturn, 1), (198, .iload_n 2, 1), (199, .ireturn, 1), (200, .aload_n 0, 1), (201, .getfield 411, 3), (204, .ireturn, 1), (205, .iload_n 3, 1), (206, .ireturn, 1), (207, .aload_n 0, 1), (208, .getfield 408, 3), (211, .ifCond .eq 7, 3), (218, .iconst 0, 1), (219, .ireturn, 1), (214, .iconst 1, 1), (215, .goto 4, 3), (220, .aload_n 0, 1), (221, .getfield 477, 3), (224, .ireturn, 1), (225, .aload_n 0, 1)] = true ∧ dOk cX12_count [(226, .getfield 432, 3), (229, .ireturn, 1), (230, .aload_n 0, 1), (231, .getfield 435, 3), (234, .ireturn, 1), (235, .aload_n 0, 1), (236, .getfield 11, 3), (239, .ireturn, 1), (240, .iconst (-1), 1), (241, .ireturn, 1)] = true := by decide +kernel
theorem dX12_count_0 : decode cX12_count 0 = .ok (.aload_n 0, 1) := dr9 dk9_dX12_count_0_0.1 0 (0, .aload_n 0, 1) rfl
theorem dX12_count_1 : decode cX12_count 1 = .ok (.iconst 0, 1) := dr9 dk9_dX12_count_0_0.1 1 (1, .iconst 0, 1) rfl
theorem dX12_count_2 : decode cX12_count 2 = .ok (.putfield 1, 3) := dr9 dk9_dX12_count_0_0.1 2 (2, .putfield 1, 3) rfl
theorem dX12_count_5 : decode cX12_count 5 = .ok (.iconst 0, 1) := dr9 dk9_dX12_count_0_0.1 3 (5, .iconst 0, 1) rfl
theorem dX12_count_6 : decode cX12_count 6 = .ok (.istore_n 2, 1) := dr9 dk9_dX12_count_0_0.1 4 (6, .istore_n 2, 1) rfl
theorem dX12_count_7 : decode cX12_count 7 = .ok (.iconst 0, 1) := dr9 dk9_dX12_count_0_0.1 5 (7, .iconst 0, 1) rfl
theorem dX12_count_8 : decode cX12_count 8 = .ok (.istore_n 3, 1) := dr9 dk9_dX12_count_0_0.1 6 (8, .istore_n 3, 1) rfl
theorem dX12_count_9 : decode cX12_count 9 = .ok (.iconst 0, 1) := dr9 dk9_dX12_count_0_0.1 7 (9, .iconst 0, 1) rfl
theorem dX12_count_10 : decode cX12_count 10 = .ok (.istore 4, 2) := dr9 dk9_dX12_count_0_0.1 8 (10, .istore 4, 2) rfl
theorem dX12_count_12 : decode cX12_count 12 = .ok (.iload 4, 2) := dr9 dk9_dX12_count_0_0.1 9 (12, .iload 4, 2) rfl
theorem dX12_count_14 : decode cX12_count 14 = .ok (.aload_n 0, 1) := dr9 dk9_dX12_count_0_0.1 10 (14, .aload_n 0, 1) rfl
theorem dX12_count_15 : decode cX12_count 15 = .ok (.getfield 244, 3) := dr9 dk9_dX12_count_0_0.1 11 (15, .getfield 244, 3) rfl
theorem dX12_count_18 : decode cX12_count 18 = .ok (.if_icmp .ge 27, 3) := dr9 dk9_dX12_count_0_0.1 12 (18, .if_icmp .ge 27, 3) rfl
theorem dX12_count_21 : decode cX12_count 21 = .ok (.iload_n 2, 1) := dr9 dk9_dX12_count_0_0.1 13 (21, .iload_n 2, 1) rfl
theorem dX12_count_22 : decode cX12_count 22 = .ok (.aload_n 0, 1) := dr9 dk9_dX12_count_0_0.1 14 (22, .aload_n 0, 1) rfl
theorem dX12_count_23 : decode cX12_count 23 = .ok (.getfield 152, 3) := dr9 dk9_dX12_count_0_0.1 15 (23, .getfield 152, 3) rfl
theorem dX12_count_26 : decode cX12_count 26 = .ok (.iload 4, 2) := dr9 dk9_dX12_count_0_0.1 16 (26, .iload 4, 2) rfl
theorem dX12_count_28 : decode cX12_count 28 = .ok (.baload, 1) := dr9 dk9_dX12_count_0_0.1 17 (28, .baload, 1) rfl
theorem dX12_count_29 : decode cX12_count 29 = .ok (.ifCond .eq 7, 3) := dr9 dk9_dX12_count_0_0.1 18 (29, .ifCond .eq 7, 3) rfl
theorem dX12_count_36 : decode cX12_count 36 = .ok (.iconst 0, 1) := dr9 dk9_dX12_count_0_0.1 19 (36, .iconst 0, 1) rfl
theorem dX12_count_37 : decode cX12_count 37 = .ok (.iadd, 1) := dr9 dk9_dX12_count_0_0.1 20 (37, .iadd, 1) rfl
theorem dX12_count_38 : decode cX12_count 38 = .ok (.istore_n 2, 1) := dr9 dk9_dX12_count_0_0.1 21 (38, .istore_n 2, 1) rfl
theorem dX12_count_39 : decode cX12_count 39 = .ok (.iinc 4 1, 3) := dr9 dk9_dX12_count_0_0.1 22 (39, .iinc 4 1, 3) rfl
theorem dX12_count_42 : decode cX12_count 42 = .ok (.goto (-30), 3) := dr9 dk9_dX12_count_0_0.1 23 (42, .goto (-30), 3) rfl
theorem dX12_count_32 : decode cX12_count 32 = .ok (.iconst 1, 1) := dr9 dk9_dX12_count_0_0.2.1 0 (32, .iconst 1, 1) rfl
theorem dX12_count_33 : decode cX12_count 33 = .ok (.goto 4, 3) := dr9 dk9_dX12_count_0_0.2.1 1 (33, .goto 4, 3) rfl
theorem dX12_count_45 : decode cX12_count 45 = .ok (.iconst 0, 1) := dr9 dk9_dX12_count_0_0.2.1 2 (45, .iconst 0, 1) rfl
theorem dX12_count_46 : decode cX12_count 46 = .ok (.istore 4, 2) := dr9 dk9_dX12_count_0_0.2.1 3 (46, .istore 4, 2) rfl
theorem dX12_count_48 : decode cX12_count 48 = .ok (.iload 4, 2) := dr9 dk9_dX12_count_0_0.2.1 4 (48, .iload 4, 2) rfl
theorem dX12_count_50 : decode cX12_count 50 = .ok (.aload_n 0, 1) := dr9 dk9_dX12_count_0_0.2.1 5 (50, .aload_n 0, 1) rfl
theorem dX12_count_51 : decode cX12_count 51 = .ok (.getfield 411, 3) := dr9 dk9_dX12_count_0_0.2.1 6 (51, .getfield 411, 3) rfl
theorem dX12_count_54 : decode cX12_count 54 = .ok (.if_icmp .ge 28, 3) := dr9 dk9_dX12_count_0_0.2.1 7 (54, .if_icmp .ge 28, 3) rfl
theorem dX12_count_57 : decode cX12_count 57 = .ok (.iload_n 3, 1) := dr9 dk9_dX12_count_0_0.2.1 8 (57, .iload_n 3, 1) rfl
theorem dX12_count_58 : decode cX12_count 58 = .ok (.aload_n 0, 1) := dr9 dk9_dX12_count_0_0.2.1 9 (58, .aload_n 0, 1) rfl
theorem dX12_count_59 : decode cX12_count 59 = .ok (.getfield 170, 3) := dr9 dk9_dX12_count_0_0.2.1 10 (59, .getfield 170, 3) rfl
theorem dX12_count_62 : decode cX12_count 62 = .ok (.iload 4, 2) := dr9 dk9_dX12_count_0_0.2.1 11 (62, .iload 4, 2) rfl
theorem dX12_count_64 : decode cX12_count 64 = .ok (.iaload, 1) := dr9 dk9_dX12_count_0_0.2.1 12 (64, .iaload, 1) rfl
theorem dX12_count_65 : decode cX12_count 65 = .ok (.iconst 1, 1) := dr9 dk9_dX12_count_0_0.2.1 13 (65, .iconst 1, 1) rfl
theorem dX12_count_66 : decode cX12_count 66 = .ok (.if_icmp .ne 7, 3) := dr9 dk9_dX12_count_0_0.2.1 14 (66, .if_icmp .ne 7, 3) rfl
theorem dX12_count_73 : decode cX12_count 73 = .ok (.iconst 0, 1) := dr9 dk9_dX12_count_0_0.2.1 15 (73, .iconst 0, 1) rfl
theorem dX12_count_74 : decode cX12_count 74 = .ok (.iadd, 1) := dr9 dk9_dX12_count_0_0.2.1 16 (74, .iadd, 1) rfl
theorem dX12_count_75 : decode cX12_count 75 = .ok (.istore_n 3, 1) := dr9 dk9_dX12_count_0_0.2.1 17 (75, .istore_n 3, 1) rfl
theorem dX12_count_76 : decode cX12_count 76 = .ok (.iinc 4 1, 3) := dr9 dk9_dX12_count_0_0.2.1 18 (76, .iinc 4 1, 3) rfl
theorem dX12_count_79 : decode cX12_count 79 = .ok (.goto (-31), 3) := dr9 dk9_dX12_count_0_0.2.1 19 (79, .goto (-31), 3) rfl
theorem dX12_count_69 : decode cX12_count 69 = .ok (.iconst 1, 1) := dr9 dk9_dX12_count_0_0.2.1 20 (69, .iconst 1, 1) rfl
theorem dX12_count_70 : decode cX12_count 70 = .ok (.goto 4, 3) := dr9 dk9_dX12_count_0_0.2.1 21 (70, .goto 4, 3) rfl
theorem dX12_count_82 : decode cX12_count 82 = .ok (.iload_n 1, 1) := dr9 dk9_dX12_count_0_0.2.1 22 (82, .iload_n 1, 1) rfl
theorem dX12_count_83 : decode cX12_count 83 = .ok (.tableswitch 157 0 12 #[65, 75, 85, 95, 105, 115, 117, 122, 124, 137, 142, 147, 152], 65) := dr9 dk9_dX12_count_0_0.2.1 23 (83, .tableswitch 157 0 12 #[65, 75, 85, 95, 105, 115, 117, 122, 124, 137, 142, 147, 152], 65) rfl
theorem dX12_count_148 : decode cX12_count 148 = .ok (.aload_n 0, 1) := dr9 dk9_dX12_count_0_0.2.2.1 0 (148, .aload_n 0, 1) rfl
theorem dX12_count_149 : decode cX12_count 149 = .ok (.getfield 43, 3) := dr9 dk9_dX12_count_0_0.2.2.1 1 (149, .getfield 43, 3) rfl
theorem dX12_count_152 : decode cX12_count 152 = .ok (.aload_n 0, 1) := dr9 dk9_dX12_count_0_0.2.2.1 2 (152, .aload_n 0, 1) rfl
theorem dX12_count_153 : decode cX12_count 153 = .ok (.getfield 286, 3) := dr9 dk9_dX12_count_0_0.2.2.1 3 (153, .getfield 286, 3) rfl
theorem dX12_count_156 : decode cX12_count 156 = .ok (.iaload, 1) := dr9 dk9_dX12_count_0_0.2.2.1 4 (156, .iaload, 1) rfl
theorem dX12_count_157 : decode cX12_count 157 = .ok (.ireturn, 1) := dr9 dk9_dX12_count_0_0.2.2.1 5 (157, .ireturn, 1) rfl
theorem dX12_count_158 : decode cX12_count 158 = .ok (.aload_n 0, 1) := dr9 dk9_dX12_count_0_0.2.2.1 6 (158, .aload_n 0, 1) rfl
theorem dX12_count_159 : decode cX12_count 159 = .ok (.getfield 53, 3) := dr9 dk9_dX12_count_0_0.2.2.1 7 (159, .getfield 53, 3) rfl
theorem dX12_count_162 : decode cX12_count 162 = .ok (.aload_n 0, 1) := dr9 dk9_dX12_count_0_0.2.2.1 8 (162, .aload_n 0, 1) rfl
theorem dX12_count_163 : decode cX12_count 163 = .ok (.getfield 286, 3) := dr9 dk9_dX12_count_0_0.2.2.1 9 (163, .getfield 286, 3) rfl
theorem dX12_count_166 : decode cX12_count 166 = .ok (.iaload, 1) := dr9 dk9_dX12_count_0_0.2.2.1 10 (166, .iaload, 1) rfl
theorem dX12_count_167 : decode cX12_count 167 = .ok (.ireturn, 1) := dr9 dk9_dX12_count_0_0.2.2.1 11 (167, .ireturn, 1) rfl
theorem dX12_count_168 : decode cX12_count 168 = .ok (.aload_n 0, 1) := dr9 dk9_dX12_count_0_0.2.2.1 12 (168, .aload_n 0, 1) rfl
theorem dX12_count_169 : decode cX12_count 169 = .ok (.getfield 62, 3) := dr9 dk9_dX12_count_0_0.2.2.1 13 (169, .getfield 62, 3) rfl
theorem dX12_count_172 : decode cX12_count 172 = .ok (.aload_n 0, 1) := dr9 dk9_dX12_count_0_0.2.2.1 14 (172, .aload_n 0, 1) rfl
theorem dX12_count_173 : decode cX12_count 173 = .ok (.getfield 286, 3) := dr9 dk9_dX12_count_0_0.2.2.1 15 (173, .getfield 286, 3) rfl
theorem dX12_count_176 : decode cX12_count 176 = .ok (.iaload, 1) := dr9 dk9_dX12_count_0_0.2.2.1 16 (176, .iaload, 1) rfl
theorem dX12_count_177 : decode cX12_count 177 = .ok (.ireturn, 1) := dr9 dk9_dX12_count_0_0.2.2.1 17 (177, .ireturn, 1) rfl
theorem dX12_count_178 : decode cX12_count 178 = .ok (.aload_n 0, 1) := dr9 dk9_dX12_count_0_0.2.2.1 18 (178, .aload_n 0, 1) rfl
theorem dX12_count_179 : decode cX12_count 179 = .ok (.getfield 110, 3) := dr9 dk9_dX12_count_0_0.2.2.1 19 (179, .getfield 110, 3) rfl
theorem dX12_count_182 : decode cX12_count 182 = .ok (.aload_n 0, 1) := dr9 dk9_dX12_count_0_0.2.2.1 20 (182, .aload_n 0, 1) rfl
theorem dX12_count_183 : decode cX12_count 183 = .ok (.getfield 286, 3) := dr9 dk9_dX12_count_0_0.2.2.1 21 (183, .getfield 286, 3) rfl
theorem dX12_count_186 : decode cX12_count 186 = .ok (.iaload, 1) := dr9 dk9_dX12_count_0_0.2.2.1 22 (186, .iaload, 1) rfl
theorem dX12_count_187 : decode cX12_count 187 = .ok (.ireturn, 1) := dr9 dk9_dX12_count_0_0.2.2.1 23 (187, .ireturn, 1) rfl
theorem dX12_count_188 : decode cX12_count 188 = .ok (.aload_n 0, 1) := dr9 dk9_dX12_count_0_0.2.2.2.1 0 (188, .aload_n 0, 1) rfl
theorem dX12_count_189 : decode cX12_count 189 = .ok (.getfield 122, 3) := dr9 dk9_dX12_count_0_0.2.2.2.1 1 (189, .getfield 122, 3) rfl
theorem dX12_count_192 : decode cX12_count 192 = .ok (.aload_n 0, 1) := dr9 dk9_dX12_count_0_0.2.2.2.1 2 (192, .aload_n 0, 1) rfl
theorem dX12_count_193 : decode cX12_count 193 = .ok (.getfield 286, 3) := dr9 dk9_dX12_count_0_0.2.2.2.1 3 (193, .getfield 286, 3) rfl
theorem dX12_count_196 : decode cX12_count 196 = .ok (.iaload, 1) := dr9 dk9_dX12_count_0_0.2.2.2.1 4 (196, .iaload, 1) rfl
theorem dX12_count_197 : decode cX12_count 197 = .ok (.ireturn, 1) := dr9 dk9_dX12_count_0_0.2.2.2.1 5 (197, .ireturn, 1) rfl
theorem dX12_count_198 : decode cX12_count 198 = .ok (.iload_n 2, 1) := dr9 dk9_dX12_count_0_0.2.2.2.1 6 (198, .iload_n 2, 1) rfl
theorem dX12_count_199 : decode cX12_count 199 = .ok (.ireturn, 1) := dr9 dk9_dX12_count_0_0.2.2.2.1 7 (199, .ireturn, 1) rfl
theorem dX12_count_200 : decode cX12_count 200 = .ok (.aload_n 0, 1) := dr9 dk9_dX12_count_0_0.2.2.2.1 8 (200, .aload_n 0, 1) rfl
theorem dX12_count_201 : decode cX12_count 201 = .ok (.getfield 411, 3) := dr9 dk9_dX12_count_0_0.2.2.2.1 9 (201, .getfield 411, 3) rfl
theorem dX12_count_204 : decode cX12_count 204 = .ok (.ireturn, 1) := dr9 dk9_dX12_count_0_0.2.2.2.1 10 (204, .ireturn, 1) rfl
theorem dX12_count_205 : decode cX12_count 205 = .ok (.iload_n 3, 1) := dr9 dk9_dX12_count_0_0.2.2.2.1 11 (205, .iload_n 3, 1) rfl
theorem dX12_count_206 : decode cX12_count 206 = .ok (.ireturn, 1) := dr9 dk9_dX12_count_0_0.2.2.2.1 12 (206, .ireturn, 1) rfl
theorem dX12_count_207 : decode cX12_count 207 = .ok (.aload_n 0, 1) := dr9 dk9_dX12_count_0_0.2.2.2.1 13 (207, .aload_n 0, 1) rfl
theorem dX12_count_208 : decode cX12_count 208 = .ok (.getfield 408, 3) := dr9 dk9_dX12_count_0_0.2.2.2.1 14 (208, .getfield 408, 3) rfl
theorem dX12_count_211 : decode cX12_count 211 = .ok (.ifCond .eq 7, 3) := dr9 dk9_dX12_count_0_0.2.2.2.1 15 (211, .ifCond .eq 7, 3) rfl
theorem dX12_count_218 : decode cX12_count 218 = .ok (.iconst 0, 1) := dr9 dk9_dX12_count_0_0.2.2.2.1 16 (218, .iconst 0, 1) rfl
theorem dX12_count_219 : decode cX12_count 219 = .ok (.ireturn, 1) := dr9 dk9_dX12_count_0_0.2.2.2.1 17 (219, .ireturn, 1) rfl
theorem dX12_count_214 : decode cX12_count 214 = .ok (.iconst 1, 1) := dr9 dk9_dX12_count_0_0.2.2.2.1 18 (214, .iconst 1, 1) rfl
theorem dX12_count_215 : decode cX12_count 215 = .ok (.goto 4, 3) := dr9 dk9_dX12_count_0_0.2.2.2.1 19 (215, .goto 4, 3) rfl
theorem dX12_count_220 : decode cX12_count 220 = .ok (.aload_n 0, 1) := dr9 dk9_dX12_count_0_0.2.2.2.1 20 (220, .aload_n 0, 1) rfl
theorem dX12_count_221 : decode cX12_count 221 = .ok (.getfield 477, 3) := dr9 dk9_dX12_count_0_0.2.2.2.1 21 (221, .getfield 477, 3) rfl
theorem dX12_count_224 : decode cX12_count 224 = .ok (.ireturn, 1) := dr9 dk9_dX12_count_0_0.2.2.2.1 22 (224, .ireturn, 1) rfl
theorem dX12_count_225 : decode cX12_count 225 = .ok (.aload_n 0, 1) := dr9 dk9_dX12_count_0_0.2.2.2.1 23 (225, .aload_n 0, 1) rfl
theorem dX12_count_226 : decode cX12_count 226 = .ok (.getfield 432, 3) := dr9 dk9_dX12_count_0_0.2.2.2.2 0 (226, .getfield 432, 3) rfl
theorem dX12_count_229 : decode cX12_count 229 = .ok (.ireturn, 1) := dr9 dk9_dX12_count_0_0.2.2.2.2 1 (229, .ireturn, 1) rfl
theorem dX12_count_230 : decode cX12_count 230 = .ok (.aload_n 0, 1) := dr9 dk9_dX12_count_0_0.2.2.2.2 2 (230, .aload_n 0, 1) rfl
theorem dX12_count_231 : decode cX12_count 231 = .ok (.getfield 435, 3) := dr9 dk9_dX12_count_0_0.2.2.2.2 3 (231, .getfield 435, 3) rfl
theorem dX12_count_234 : decode cX12_count 234 = .ok (.ireturn, 1) := dr9 dk9_dX12_count_0_0.2.2.2.2 4 (234, .ireturn, 1) rfl
theorem dX12_count_235 : decode cX12_count 235 = .ok (.aload_n 0, 1) := dr9 dk9_dX12_count_0_0.2.2.2.2 5 (235, .aload_n 0, 1) rfl
theorem dX12_count_236 : decode cX12_count 236 = .ok (.getfield 11, 3) := dr9 dk9_dX12_count_0_0.2.2.2.2 6 (236, .getfield 11, 3) rfl
theorem dX12_count_239 : decode cX12_count 239 = .ok (.ireturn, 1) := dr9 dk9_dX12_count_0_0.2.2.2.2 7 (239, .ireturn, 1) rfl
theorem dX12_count_240 : decode cX12_count 240 = .ok (.iconst (-1), 1) := dr9 dk9_dX12_count_0_0.2.2.2.2 8 (240, .iconst (-1), 1) rfl
theorem dX12_count_241 : decode cX12_count 241 = .ok (.ireturn, 1) := dr9 dk9_dX12_count_0_0.2.2.2.2 9 (241, .ireturn, 1) rfl
theorem dk9_dX12_notes_0_0 : dOk cX12_notes [(0, .aload_n 0, 1), (1, .getfield 420, 3), (4, .bipush 100, 2), (6, .if_icmp .ge 33, 3), (9, .aload_n 0, 1), (10, .getfield 189, 3), (13, .aload_n 0, 1), (14, .getfield 420, 3), (17, .iload_n 1, 1), (18, .iastore, 1), (19, .aload_n 0, 1), (20, .getfield 192, 3), (23, .aload_n 0, 1), (24, .getfield 420, 3), (27, .iload_n 2, 1), (28, .iastore, 1), (29, .aload_n 0, 1), (30, .getfield 195, 3), (33, .aload_n 0, 1), (34, .getfield 420, 3), (37, .iload_n 3, 1), (38, .iastore, 1), (39, .aload_n 0, 1), (40, .dup, 1)] = true ∧ dOk cX12_notes [(41, .getfield 420, 3), (44, .iconst 1, 1), (45, .iadd, 1), (46, .putfield 420, 3), (49, .return_, 1)] = true := by decide +kernel
theorem dX12_notes_0 : decode cX12_notes 0 = .ok (.aload_n 0, 1) := dr9 dk9_dX12_notes_0_0.1 0 (0, .aload_n 0, 1) rfl
theorem dX12_notes_1 : decode cX12_notes 1 = .ok (.getfield 420, 3) := dr9 dk9_dX12_notes_0_0.1 1 (1, .getfield 420, 3) rfl
theorem dX12_notes_4 : decode cX12_notes 4 = .ok (.bipush 100, 2) := dr9 dk9_dX12_notes_0_0.1 2 (4, .bipush 100, 2) rfl
theorem dX12_notes_6 : decode cX12_notes 6 = .ok (.if_icmp .ge 33, 3) := dr9 dk9_dX12_notes_0_0.1 3 (6, .if_icmp .ge 33, 3) rfl
theorem dX12_notes_9 : decode cX12_notes 9 = .ok (.aload_n 0, 1) := dr9 dk9_dX12_notes_0_0.1 4 (9, .aload_n 0, 1) rfl
theorem dX12_notes_10 : decode cX12_notes 10 = .ok (.getfield 189, 3) := dr9 dk9_dX12_notes_0_0.1 5 (10, .getfield 189, 3) rfl
theorem dX12_notes_13 : decode cX12_notes 13 = .ok (.aload_n 0, 1) := dr9 dk9_dX12_notes_0_0.1 6 (13, .aload_n 0, 1) rfl
theorem dX12_notes_14 : decode cX12_notes 14 = .ok (.getfield 420, 3) := dr9 dk9_dX12_notes_0_0.1 7 (14, .getfield 420, 3) rfl
theorem dX12_notes_17 : decode cX12_notes 17 = .ok (.iload_n 1, 1) := dr9 dk9_dX12_notes_0_0.1 8 (17, .iload_n 1, 1) rfl
theorem dX12_notes_18 : decode cX12_notes 18 = .ok (.iastore, 1) := dr9 dk9_dX12_notes_0_0.1 9 (18, .iastore, 1) rfl
theorem dX12_notes_19 : decode cX12_notes 19 = .ok (.aload_n 0, 1) := dr9 dk9_dX12_notes_0_0.1 10 (19, .aload_n 0, 1) rfl
theorem dX12_notes_20 : decode cX12_notes 20 = .ok (.getfield 192, 3) := dr9 dk9_dX12_notes_0_0.1 11 (20, .getfield 192, 3) rfl
theorem dX12_notes_23 : decode cX12_notes 23 = .ok (.aload_n 0, 1) := dr9 dk9_dX12_notes_0_0.1 12 (23, .aload_n 0, 1) rfl
theorem dX12_notes_24 : decode cX12_notes 24 = .ok (.getfield 420, 3) := dr9 dk9_dX12_notes_0_0.1 13 (24, .getfield 420, 3) rfl
theorem dX12_notes_27 : decode cX12_notes 27 = .ok (.iload_n 2, 1) := dr9 dk9_dX12_notes_0_0.1 14 (27, .iload_n 2, 1) rfl
theorem dX12_notes_28 : decode cX12_notes 28 = .ok (.iastore, 1) := dr9 dk9_dX12_notes_0_0.1 15 (28, .iastore, 1) rfl
theorem dX12_notes_29 : decode cX12_notes 29 = .ok (.aload_n 0, 1) := dr9 dk9_dX12_notes_0_0.1 16 (29, .aload_n 0, 1) rfl
theorem dX12_notes_30 : decode cX12_notes 30 = .ok (.getfield 195, 3) := dr9 dk9_dX12_notes_0_0.1 17 (30, .getfield 195, 3) rfl
theorem dX12_notes_33 : decode cX12_notes 33 = .ok (.aload_n 0, 1) := dr9 dk9_dX12_notes_0_0.1 18 (33, .aload_n 0, 1) rfl
theorem dX12_notes_34 : decode cX12_notes 34 = .ok (.getfield 420, 3) := dr9 dk9_dX12_notes_0_0.1 19 (34, .getfield 420, 3) rfl
theorem dX12_notes_37 : decode cX12_notes 37 = .ok (.iload_n 3, 1) := dr9 dk9_dX12_notes_0_0.1 20 (37, .iload_n 3, 1) rfl
theorem dX12_notes_38 : decode cX12_notes 38 = .ok (.iastore, 1) := dr9 dk9_dX12_notes_0_0.1 21 (38, .iastore, 1) rfl
theorem dX12_notes_39 : decode cX12_notes 39 = .ok (.aload_n 0, 1) := dr9 dk9_dX12_notes_0_0.1 22 (39, .aload_n 0, 1) rfl
theorem dX12_notes_40 : decode cX12_notes 40 = .ok (.dup, 1) := dr9 dk9_dX12_notes_0_0.1 23 (40, .dup, 1) rfl
theorem dX12_notes_41 : decode cX12_notes 41 = .ok (.getfield 420, 3) := dr9 dk9_dX12_notes_0_0.2 0 (41, .getfield 420, 3) rfl
theorem dX12_notes_44 : decode cX12_notes 44 = .ok (.iconst 1, 1) := dr9 dk9_dX12_notes_0_0.2 1 (44, .iconst 1, 1) rfl
theorem dX12_notes_45 : decode cX12_notes 45 = .ok (.iadd, 1) := dr9 dk9_dX12_notes_0_0.2 2 (45, .iadd, 1) rfl
theorem dX12_notes_46 : decode cX12_notes 46 = .ok (.putfield 420, 3) := dr9 dk9_dX12_notes_0_0.2 3 (46, .putfield 420, 3) rfl
theorem dX12_notes_49 : decode cX12_notes 49 = .ok (.return_, 1) := dr9 dk9_dX12_notes_0_0.2 4 (49, .return_, 1) rfl
abbrev r_s_forget : Room := { frames := 0, cells := 0, slots := 0, locals := 0 }
abbrev q_s_forget (D : va_G) (ks : KS) (ad : Nat → Nat) (kk : Nat → ClassId) (V : Vf) (L : Lf) (A : Nat → Prop) : Array Value → State → Outcome → State → Prop := va_Qv (fun (u : Vf × Lf) => rgd bM u.1 ∧ agr [(0, 54), (0, 55), (0, 60), (0, 65), (0, 69), (0, 70), (0, 71), (0, 72), (0, 73), (0, 76), (0, 81)] [56, 57, 59] V u.1 ∧ u.2 = L) (fun u t => gq D A (mw ad kk ks.1 u.1 u.2) (mty kk) t) A
abbrev r_s_isThere : Room := { frames := 0, cells := 0, slots := 0, locals := 0 }
abbrev q_s_isThere (D : va_G) (ks : KS) (ad : Nat → Nat) (kk : Nat → ClassId) (V : Vf) (L : Lf) (p0 : Int32) (A : Nat → Prop) : Array Value → State → Outcome → State → Prop := va_Qi (fun (r : Int32) (_ : Unit) => (0 ≤ r.toInt ∧ r.toInt ≤ 1) ∧ (Imp (r.toInt = 1) (0 ≤ p0.toInt ∧ p0.toInt ≤ 23))) (fun _ t => gq D A (mw ad kk ks.1 V L) (mty kk) t) A
set_option maxHeartbeats 4000000 in
set_option maxRecDepth 100000 in
theorem s_isThere (l : Launch) (D : va_G) (ks : KS) (sz : Nat) (ad : Nat → Nat) (kk : Nat → ClassId) (V : Vf) (L : Lf) (p0 : Int32) (hMV : rgd bM V)  : Met l yX12_isThere (Cond.code yX12_isThere cX12_isThere 3 (some .boolean) :: GW) r_s_isThere (va_Pc [.ref (ad 0), .int p0] (gp D ks (mw ad kk ks.1 V L) (mty kk) sz)) (q_s_isThere D ks ad kk V L p0 (va_A (mw ad kk ks.1 V L) sz)) 0 0 (va_A (mw ad kk ks.1 V L) sz) := by
  refine g_met (q_s_isThere D ks ad kk V L p0) (by decide) (Nat.le_of_ble_eq_true rfl) ?_
  intro p e s m below meth c A ls H locs hx hb hr hml hown hg hlocks hin hnw hgk hP hK hD hS hA hl
  replace hown : s.vm.findClass RX12 = some m.cls := hown
  replace hl : lv_has ls 3 [(0, .ref (ad 0)), (1, .int p0)] := hl
  replace hP : va_P D vwCl (mw ad kk ks.1 V L) H := hP
  replace hD : va_D A (mw ad kk ks.1 V L) := hD
  replace hK : va_K D vwCl (mty kk) s := hK
  refine lv_bipush (v := 24) hx hb dX12_isThere_0 (by decide) ?_
  refine lv_aload_n hx hb dX12_isThere_2 rfl (lv_at hl 0 rfl) ?_
  refine va_get (D := D) (ci := 12) (v := .int (V 0 11)) (C := RX12) (T := TX12) (N := 100) hx hb hg inX12 hown hK hP 0 rfl rfl 11 (by decide) (hg _ w1717) (fun _ h9 => h9) rfl dX12_isThere_3 ?_
  have r1 : 0 ≤ ((V 0 11)).toInt ∧ ((V 0 11)).toInt ≤ 1 := hMV 0 11
  refine lv_imul hx hb dX12_isThere_6 ?_
  refine lv_topi (fun z2 ez2 => ?_)
  have hz2 : z2.toInt = 24 * ((V 0 11)).toInt := i_mul ez2 (by decide) rfl (by (first | exact om_3f8aba7b6ce1 r1.1 r1.2 | omega))
  refine lv_iload_n hx hb dX12_isThere_7 rfl (lv_at hl 1 rfl) ?_
  refine lv_iadd hx hb dX12_isThere_8 ?_
  have r3 := i_full p0
  refine lv_topi (fun z4 ez4 => ?_)
  have hz4 : Imp (-2147483648 ≤ z2.toInt + p0.toInt ∧ z2.toInt + p0.toInt ≤ 2147483647) (z4.toInt = z2.toInt + p0.toInt) := Imp.mk (fun hp => i_add ez4 rfl rfl hp)
  refine lv_istore_n (lv' := [(2, .int z4), (0, .ref (ad 0)), (1, .int p0)]) hx hb dX12_isThere_9 rfl hl (by decide) rfl (fun ls hl => ?_)
  refine lv_iload_n hx hb dX12_isThere_10 rfl (lv_at hl 2 rfl) ?_
  refine lv_if_lt (tgt := 68) hx hb dX12_isThere_11 (by decide) (fun c5 => ?_) (fun c5 => ?_)
  · skip
    have f6 : p0.toInt < 0 := b_lt rfl (by decide) c5
    refine lv_iconst (v := 0) hx hb dX12_isThere_68 (by decide) ?_
    exact W.zret (v := 0) hx hb hr rfl (fun t ht hW => ⟨⟨0, (), rfl, ⟨(by decide), (Imp.mk (fun hp => absurd hp (by decide)))⟩, by rw [ht]; exact hP, va_K.moved hW.alike hK, hD⟩, hS.F ht⟩) hS.2.2 dX12_isThere_69
  · skip
    have f7 : 0 ≤ p0.toInt := b_nlt rfl (by decide) c5
    refine lv_iload_n hx hb dX12_isThere_14 rfl (lv_at hl 2 rfl) ?_
    refine lv_aload_n hx hb dX12_isThere_15 rfl (lv_at hl 1 rfl) ?_
    refine va_get (D := D) (ci := 12) (v := .ref (ad 19)) (C := RX12) (T := TX12) (N := 100) hx hb hg inX12 hown hK hP 0 rfl rfl 19 (by decide) (hg _ w1725) (fun _ h9 => h9) rfl dX12_isThere_16 ?_
    refine lv_aload_n hx hb dX12_isThere_19 rfl (lv_at hl 1 rfl) ?_
    refine va_get (D := D) (ci := 12) (v := .int (V 0 11)) (C := RX12) (T := TX12) (N := 100) hx hb hg inX12 hown hK hP 0 rfl rfl 11 (by decide) (hg _ w1717) (fun _ h9 => h9) rfl dX12_isThere_20 ?_
    refine va_iald (D := D) (i := (V 0 11)) hx hb hK hP 12 11 rfl rfl (i_in (a := ((V 0 11)).toInt) rfl (by first | exact om_8367a84723c7 r1.1 r1.2 | first | omega | ((try (have i_hz4 := Imp.go hz4 (by omega))); omega))) dX12_isThere_23 ?_
    have r8 : 0 ≤ ((V 19 (Int32.toNatClampNeg (V 0 11)))).toInt ∧ ((V 19 (Int32.toNatClampNeg (V 0 11)))).toInt ≤ 24 := hMV 19 (Int32.toNatClampNeg (V 0 11))
    refine lv_icmp_ge (tgt := 68) hx hb dX12_isThere_24 (by decide) (fun c9 => ?_) (fun c9 => ?_)
    · skip
      have f10 : ((V 19 (Int32.toNatClampNeg (V 0 11)))).toInt ≤ p0.toInt := b_le rfl rfl c9
      refine lv_iconst (v := 0) hx hb dX12_isThere_68 (by decide) ?_
      exact W.zret (v := 0) hx hb hr rfl (fun t ht hW => ⟨⟨0, (), rfl, ⟨(by decide), (Imp.mk (fun hp => absurd hp (by decide)))⟩, by rw [ht]; exact hP, va_K.moved hW.alike hK, hD⟩, hS.F ht⟩) hS.2.2 dX12_isThere_69
    · skip
      have f11 : p0.toInt < ((V 19 (Int32.toNatClampNeg (V 0 11)))).toInt := b_nle rfl rfl c9
      refine lv_aload_n hx hb dX12_isThere_27 rfl (lv_at hl 1 rfl) ?_
      refine va_get (D := D) (ci := 12) (v := .ref (ad 25)) (C := RX12) (T := TX12) (N := 100) hx hb hg inX12 hown hK hP 0 rfl rfl 25 (by decide) (hg _ w1731) (fun _ h9 => h9) rfl dX12_isThere_28 ?_
      refine lv_iload_n hx hb dX12_isThere_31 rfl (lv_at hl 0 rfl) ?_
      refine va_iald (D := D) (i := z4) hx hb hK hP 18 17 rfl rfl (i_in (a := z4.toInt) rfl (by first | exact om_747bf2ae89bc r1.1 r1.2 hz2 f7 r8.2 f11 ((Imp.go hz4 (om_98652cffb46a r1.1 r1.2 hz2 f7 r8.2 f11))) | first | omega | ((try (have i_hz4 := Imp.go hz4 (by omega))); omega))) dX12_isThere_32 ?_
      have r12 : (-1) ≤ ((V 25 (Int32.toNatClampNeg z4))).toInt ∧ ((V 25 (Int32.toNatClampNeg z4))).toInt ≤ 11 := hMV 25 (Int32.toNatClampNeg z4)
      refine lv_if_lt (tgt := 64) hx hb dX12_isThere_33 (by decide) (fun c13 => ?_) (fun c13 => ?_)
      · skip
        have f14 : ((V 25 (Int32.toNatClampNeg z4))).toInt < 0 := b_lt rfl (by decide) c13
        refine lv_iconst (v := 1) hx hb dX12_isThere_64 (by decide) ?_
        refine lv_goto (tgt := 69) hx hb dX12_isThere_65 (by decide) ?_
        exact W.zret (v := 1) hx hb hr rfl (fun t ht hW => ⟨⟨1, (), rfl, ⟨(by decide), (Imp.mk (fun _ => (show 0 ≤ p0.toInt ∧ p0.toInt ≤ 23 from by first | exact om_ac7b8d4d9f10 f7 r8.2 f11 | first | omega | ((try (have i_hz4 := Imp.go hz4 (by omega))); omega))))⟩, by rw [ht]; exact hP, va_K.moved hW.alike hK, hD⟩, hS.F ht⟩) hS.2.2 dX12_isThere_69
      · skip
        have f15 : 0 ≤ ((V 25 (Int32.toNatClampNeg z4))).toInt := b_nlt rfl (by decide) c13
        refine lv_aload_n hx hb dX12_isThere_36 rfl (lv_at hl 1 rfl) ?_
        refine va_get (D := D) (ci := 12) (v := .ref (ad 18)) (C := RX12) (T := TX12) (N := 100) hx hb hg inX12 hown hK hP 0 rfl rfl 18 (by decide) (hg _ w1724) (fun _ h9 => h9) rfl dX12_isThere_37 ?_
        refine lv_bipush (v := 12) hx hb dX12_isThere_40 (by decide) ?_
        refine lv_aload_n hx hb dX12_isThere_42 rfl (lv_at hl 1 rfl) ?_
        refine va_get (D := D) (ci := 12) (v := .int (V 0 11)) (C := RX12) (T := TX12) (N := 100) hx hb hg inX12 hown hK hP 0 rfl rfl 11 (by decide) (hg _ w1717) (fun _ h9 => h9) rfl dX12_isThere_43 ?_
        refine lv_imul hx hb dX12_isThere_46 ?_
        refine lv_topi (fun z16 ez16 => ?_)
        have hz16 : z16.toInt = 12 * ((V 0 11)).toInt := i_mul ez16 (by decide) rfl (by (first | exact om_630bd6ee60c3 r1.1 r1.2 | omega))
        refine lv_aload_n hx hb dX12_isThere_47 rfl (lv_at hl 1 rfl) ?_
        refine va_get (D := D) (ci := 12) (v := .ref (ad 25)) (C := RX12) (T := TX12) (N := 100) hx hb hg inX12 hown hK hP 0 rfl rfl 25 (by decide) (hg _ w1731) (fun _ h9 => h9) rfl dX12_isThere_48 ?_
        refine lv_iload_n hx hb dX12_isThere_51 rfl (lv_at hl 0 rfl) ?_
        refine va_iald (D := D) (i := z4) hx hb hK hP 18 17 rfl rfl (i_in (a := z4.toInt) rfl (by first | exact om_747bf2ae89bc r1.1 r1.2 hz2 f7 r8.2 f11 ((Imp.go hz4 (om_98652cffb46a r1.1 r1.2 hz2 f7 r8.2 f11))) | first | omega | ((try (have i_hz4 := Imp.go hz4 (by omega))); omega))) dX12_isThere_52 ?_
        refine lv_iadd hx hb dX12_isThere_53 ?_
        refine lv_topi (fun z17 ez17 => ?_)
        have hz17 : z17.toInt = z16.toInt + ((V 25 (Int32.toNatClampNeg z4))).toInt := i_add ez17 rfl rfl (by (first | exact om_bb6d5a6aa1c4 r1.1 r1.2 r12.2 f15 hz16 | omega))
        refine va_iald (D := D) (i := z17) hx hb hK hP 11 10 rfl rfl (i_in (a := z17.toInt) rfl (by first | exact om_d783ef134178 r1.1 r1.2 r12.2 f15 hz16 hz17 | first | omega | ((try (have i_hz4 := Imp.go hz4 (by omega))); omega))) dX12_isThere_54 ?_
        refine lv_aload_n hx hb dX12_isThere_55 rfl (lv_at hl 1 rfl) ?_
        refine va_get (D := D) (ci := 12) (v := .ref (ad 26)) (C := RX12) (T := TX12) (N := 100) hx hb hg inX12 hown hK hP 0 rfl rfl 26 (by decide) (hg _ w1732) (fun _ h9 => h9) rfl dX12_isThere_56 ?_
        refine lv_iload_n hx hb dX12_isThere_59 rfl (lv_at hl 0 rfl) ?_
        refine va_iald (D := D) (i := z4) hx hb hK hP 19 18 rfl rfl (i_in (a := z4.toInt) rfl (by first | exact om_747bf2ae89bc r1.1 r1.2 hz2 f7 r8.2 f11 ((Imp.go hz4 (om_98652cffb46a r1.1 r1.2 hz2 f7 r8.2 f11))) | first | omega | ((try (have i_hz4 := Imp.go hz4 (by omega))); omega))) dX12_isThere_60 ?_
        refine lv_icmp_ne (tgt := 68) hx hb dX12_isThere_61 (by decide) (fun c18 => ?_) (fun c18 => ?_)
        · skip
          have f19 : ((V 18 (Int32.toNatClampNeg z17))).toInt ≠ ((V 26 (Int32.toNatClampNeg z4))).toInt := b_neq rfl rfl c18
          refine lv_iconst (v := 0) hx hb dX12_isThere_68 (by decide) ?_
          exact W.zret (v := 0) hx hb hr rfl (fun t ht hW => ⟨⟨0, (), rfl, ⟨(by decide), (Imp.mk (fun hp => absurd hp (by decide)))⟩, by rw [ht]; exact hP, va_K.moved hW.alike hK, hD⟩, hS.F ht⟩) hS.2.2 dX12_isThere_69
        · skip
          have f20 : ((V 18 (Int32.toNatClampNeg z17))).toInt = ((V 26 (Int32.toNatClampNeg z4))).toInt := b_eq rfl rfl c18
          refine lv_iconst (v := 1) hx hb dX12_isThere_64 (by decide) ?_
          refine lv_goto (tgt := 69) hx hb dX12_isThere_65 (by decide) ?_
          exact W.zret (v := 1) hx hb hr rfl (fun t ht hW => ⟨⟨1, (), rfl, ⟨(by decide), (Imp.mk (fun _ => (show 0 ≤ p0.toInt ∧ p0.toInt ≤ 23 from by first | exact om_ac7b8d4d9f10 f7 r8.2 f11 | first | omega | ((try (have i_hz4 := Imp.go hz4 (by omega))); omega))))⟩, by rw [ht]; exact hP, va_K.moved hW.alike hK, hD⟩, hS.F ht⟩) hS.2.2 dX12_isThere_69
abbrev r_s_placeOf : Room := { frames := 0, cells := 0, slots := 0, locals := 0 }
abbrev q_s_placeOf (D : va_G) (ks : KS) (ad : Nat → Nat) (kk : Nat → ClassId) (V : Vf) (L : Lf) (p0 : Int32) (p1 : Int32) (A : Nat → Prop) : Array Value → State → Outcome → State → Prop := va_Qi (fun (r : Int32) (_ : Unit) => ((-1) ≤ r.toInt ∧ r.toInt ≤ 39)) (fun _ t => gq D A (mw ad kk ks.1 V L) (mty kk) t) A
abbrev r_s_objectAt : Room := { frames := 0, cells := 0, slots := 0, locals := 0 }
abbrev q_s_objectAt (D : va_G) (ks : KS) (ad : Nat → Nat) (kk : Nat → ClassId) (V : Vf) (L : Lf) (p0 : Int32) (p1 : Int32) (A : Nat → Prop) : Array Value → State → Outcome → State → Prop := va_Qi (fun (r : Int32) (_ : Unit) => ((-1) ≤ r.toInt ∧ r.toInt ≤ 299) ∧ (r.toInt < (V 0 60).toInt)) (fun _ t => gq D A (mw ad kk ks.1 V L) (mty kk) t) A
abbrev r_s_latestIn : Room := { frames := 0, cells := 0, slots := 0, locals := 0 }
abbrev q_s_latestIn (D : va_G) (ks : KS) (ad : Nat → Nat) (kk : Nat → ClassId) (V : Vf) (L : Lf) (p0 : Int32) (A : Nat → Prop) : Array Value → State → Outcome → State → Prop := va_Qi (fun (r : Int32) (_ : Unit) => ((-1) ≤ r.toInt ∧ r.toInt ≤ 299) ∧ (r.toInt < (V 0 60).toInt)) (fun _ t => gq D A (mw ad kk ks.1 V L) (mty kk) t) A
abbrev r_s_isScope : Room := { frames := 0, cells := 0, slots := 0, locals := 0 }
abbrev q_s_isScope (D : va_G) (ks : KS) (ad : Nat → Nat) (kk : Nat → ClassId) (V : Vf) (L : Lf) (p0 : Int32) (A : Nat → Prop) : Array Value → State → Outcome → State → Prop := va_Qi (fun (r : Int32) (_ : Unit) => (0 ≤ r.toInt ∧ r.toInt ≤ 1) ∧ (Imp (r.toInt = 1) (0 ≤ p0.toInt ∧ p0.toInt < (V 0 55).toInt))) (fun _ t => gq D A (mw ad kk ks.1 V L) (mty kk) t) A
abbrev r_s_setting : Room := { frames := 0, cells := 0, slots := 0, locals := 0 }
abbrev q_s_setting (D : va_G) (ks : KS) (ad : Nat → Nat) (kk : Nat → ClassId) (V : Vf) (L : Lf) (p0 : Int32) (p1 : Int32) (A : Nat → Prop) : Array Value → State → Outcome → State → Prop := va_Qi (fun (r : Int32) (u : Vf × Lf) => rgd bM u.1 ∧ agr [(0, 0)] [18] V u.1 ∧ u.2 = L ∧ (0 ≤ r.toInt ∧ r.toInt ≤ 1)) (fun u t => gq D A (mw ad kk ks.1 u.1 u.2) (mty kk) t) A
abbrev r_s_scope : Room := { frames := 0, cells := 0, slots := 0, locals := 0 }
abbrev q_s_scope (D : va_G) (ks : KS) (ad : Nat → Nat) (kk : Nat → ClassId) (V : Vf) (L : Lf) (p0 : Int32) (p1 : Int32) (A : Nat → Prop) : Array Value → State → Outcome → State → Prop := va_Qi (fun (r : Int32) (u : Vf × Lf) => rgd bM u.1 ∧ agr [(0, 55)] [56, 57, 58, 59] V u.1 ∧ u.2 = L ∧ ((-1) ≤ r.toInt ∧ r.toInt ≤ 39)) (fun u t => gq D A (mw ad kk ks.1 u.1 u.2) (mty kk) t) A
abbrev r_s_day : Room := { frames := 1, cells := 0, slots := 0, locals := 23 }
abbrev q_s_day (D : va_G) (ks : KS) (ad : Nat → Nat) (kk : Nat → ClassId) (V : Vf) (L : Lf) (A : Nat → Prop) : Array Value → State → Outcome → State → Prop := va_Qi (fun (r : Int32) (u : Vf × Lf) => rgd bM u.1 ∧ agr [(0, 0), (0, 55)] [56, 57, 58, 59] V u.1 ∧ u.2 = L) (fun u t => gq D A (mw ad kk ks.1 u.1 u.2) (mty kk) t) A
abbrev r_s_meal : Room := { frames := 1, cells := 0, slots := 0, locals := 23 }
abbrev q_s_meal (D : va_G) (ks : KS) (ad : Nat → Nat) (kk : Nat → ClassId) (V : Vf) (L : Lf) (p0 : Int32) (A : Nat → Prop) : Array Value → State → Outcome → State → Prop := va_Qi (fun (r : Int32) (u : Vf × Lf) => rgd bM u.1 ∧ agr [(0, 0), (0, 55)] [56, 57, 58, 59] V u.1 ∧ u.2 = L) (fun u t => gq D A (mw ad kk ks.1 u.1 u.2) (mty kk) t) A
abbrev r_s_begins0 : Room := { frames := 0, cells := 0, slots := 0, locals := 0 }
abbrev q_s_begins0 (D : va_G) (ks : KS) (ad : Nat → Nat) (kk : Nat → ClassId) (V : Vf) (L : Lf) (A : Nat → Prop) : Array Value → State → Outcome → State → Prop := va_Qv (fun (u : Vf × Lf) => rgd bM u.1 ∧ agr [(0, 69), (0, 71), (0, 72), (0, 93), (0, 95), (0, 98)] [] V u.1 ∧ u.2 = L) (fun u t => gq D A (mw ad kk ks.1 u.1 u.2) (mty kk) t) A
abbrev r_s_ends : Room := { frames := 0, cells := 0, slots := 0, locals := 0 }
abbrev q_s_ends (D : va_G) (ks : KS) (ad : Nat → Nat) (kk : Nat → ClassId) (V : Vf) (L : Lf) (p0 : Int32) (A : Nat → Prop) : Array Value → State → Outcome → State → Prop := va_Qi (fun (r : Int32) (u : Vf × Lf) => rgd bM u.1 ∧ agr [(0, 70), (0, 71), (0, 72)] [] V u.1 ∧ u.2 = L ∧ (0 ≤ r.toInt ∧ r.toInt ≤ 1)) (fun u t => gq D A (mw ad kk ks.1 u.1 u.2) (mty kk) t) A
abbrev r_s_addFault : Room := { frames := 0, cells := 0, slots := 0, locals := 0 }
abbrev q_s_addFault (D : va_G) (ks : KS) (ad : Nat → Nat) (kk : Nat → ClassId) (V : Vf) (L : Lf) (p0 : Int32) (p1 : Int32) (p2 : Int32) (A : Nat → Prop) : Array Value → State → Outcome → State → Prop := va_Qv (fun (u : Vf × Lf) => rgd bM u.1 ∧ agr [(0, 81)] [82, 83, 84] V u.1 ∧ u.2 = L ∧ ((u.1 0 81).toInt = (V 0 81).toInt + 1)) (fun u t => gq D A (mw ad kk ks.1 u.1 u.2) (mty kk) t) A
set_option maxHeartbeats 4000000 in
set_option maxRecDepth 100000 in
theorem s_addFault (l : Launch) (D : va_G) (ks : KS) (sz : Nat) (ad : Nat → Nat) (kk : Nat → ClassId) (V : Vf) (L : Lf) (p0 : Int32) (p1 : Int32) (p2 : Int32) (hMV : rgd bM V) (rg_p2 : 0 ≤ p2.toInt ∧ p2.toInt ≤ 24) (y1 : (V 0 81).toInt ≤ 999999)  : Met l yX12_addFault (Cond.code yX12_addFault cX12_addFault 4 none :: GW) r_s_addFault (va_Pc [.ref (ad 0), .int p0, .int p1, .int p2] (gp D ks (mw ad kk ks.1 V L) (mty kk) sz)) (q_s_addFault D ks ad kk V L p0 p1 p2 (va_A (mw ad kk ks.1 V L) sz)) 0 0 (va_A (mw ad kk ks.1 V L) sz) := by
  refine g_met (q_s_addFault D ks ad kk V L p0 p1 p2) (by decide) (Nat.le_of_ble_eq_true rfl) ?_
  intro p e s m below meth c A ls H locs hx hb hr hml hown hg hlocks hin hnw hgk hP hK hD hS hA hl
  replace hown : s.vm.findClass RX12 = some m.cls := hown
  replace hl : lv_has ls 4 [(0, .ref (ad 0)), (1, .int p0), (2, .int p1), (3, .int p2)] := hl
  replace hP : va_P D vwCl (mw ad kk ks.1 V L) H := hP
  replace hD : va_D A (mw ad kk ks.1 V L) := hD
  replace hK : va_K D vwCl (mty kk) s := hK
  have agV : agr [(0, 81)] [82, 83, 84] V V := agr.rf
  have r1 : 0 ≤ ((V 0 81)).toInt ∧ ((V 0 81)).toInt ≤ 1000000 := hMV 0 81
  refine lv_aload_n hx hb dX12_addFault_0 rfl (lv_at hl 0 rfl) ?_
  refine va_get (D := D) (ci := 12) (v := .int (V 0 81)) (C := RX12) (T := TX12) (N := 100) hx hb hg inX12 hown hK hP 0 rfl rfl 81 (by decide) (hg _ w1787) (fun _ h9 => h9) rfl dX12_addFault_1 ?_
  refine lv_bipush (v := 100) hx hb dX12_addFault_4 (by decide) ?_
  have J2 : ∀ (V3 : Vf) (H : Heap) (locs : List Loc) (ls : Array Slot), agr [] [82, 83, 84] V V3 → rgd bM V3 → va_P D vwCl (mw ad kk ks.1 V3 L) H → va_D A (mw ad kk ks.1 V3 L) → va_S A s.heap H locs → lv_has ls 4 [(0, .ref (ad 0)), (1, .int p0), (2, .int p1), (3, .int p2)] → W p l e r_s_addFault s m ([.ref (ad 0), .int p0, .int p1, .int p2] : List Value).toArray below meth c H locs 0 0 (MQ below (q_s_addFault D ks ad kk V L p0 p1 p2 A) ([.ref (ad 0), .int p0, .int p1, .int p2] : List Value).toArray s 0 0 A) (F0 m 39 ls []) := by
    intro V3 H locs ls ajV3 hMV3 hP hD hS hl
    have agV3 : agr [(0, 81)] [82, 83, 84] V V3 := agV.tr ajV3 (by decide) (by decide)
    refine lv_aload_n hx hb dX12_addFault_39 rfl (lv_at hl 0 rfl) ?_
    refine lv_dup hx hb dX12_addFault_40 rfl ?_
    refine va_get (D := D) (ci := 12) (v := .int (V3 0 81)) (C := RX12) (T := TX12) (N := 100) hx hb hg inX12 hown hK hP 0 rfl rfl 81 (by decide) (hg _ w1787) (fun _ h9 => h9) rfl dX12_addFault_41 ?_
    refine g_top (v := (V 0 81)) (ajV3 0 81 rfl) ?_
    refine lv_iconst (v := 1) hx hb dX12_addFault_44 (by decide) ?_
    refine lv_iadd hx hb dX12_addFault_45 ?_
    refine lv_topi (fun z4 ez4 => ?_)
    have hz4 : z4.toInt = ((V 0 81)).toInt + 1 := i_add ez4 rfl (by decide) (by (first | exact om_6b8d59fe9db4 y1 r1.1 | omega))
    refine va_put (D := D) (ci := 12) (v := .int z4) (ty := tyX12 81) (C := RX12) (T := TX12) (N := 100) hx hb hg inX12 tyX12 tyX12_ok nmX12 hown hK hP hD hS 0 rfl rfl 81 (by decide) (hg _ w1787) (fun _ h9 => h9) rfl (tyX12_ok 81 (by decide)) rfl rfl (Nat.le_of_ble_eq_true rfl) dX12_addFault_46 (fun H locs hP hD hS => ?_)
    obtain ⟨V5, hV5⟩ : ∃ z, z = up2 V3 0 81 z4 := ⟨_, rfl⟩
    have hP : va_P D vwCl (mw ad kk ks.1 V5 L) H := by rw [hV5]; exact hP
    have hD : va_D A (mw ad kk ks.1 V5 L) := by rw [hV5]; exact hD
    have hMV5 : rgd bM V5 := hMV3.put hV5 (show 0 ≤ z4.toInt ∧ z4.toInt ≤ 1000000 from by (first | exact om_152c1e5d2fc6 y1 r1.1 hz4 | omega))
    have agV5 : agr [(0, 81)] [82, 83, 84] V V5 := agV3.up hV5 rfl
    have pq6 : (V5 0 81).toInt = z4.toInt := congrArg Int32.toInt (up2_s hV5)
    exact W.vret hx hb hr (fun t ht hW => ⟨⟨(V5, L), rfl, ⟨hMV5, agV5, rfl, (show (V5 0 81).toInt = (V 0 81).toInt + 1 from by (first | exact om_689eeacb6d53 hz4 pq6 | omega))⟩, by rw [ht]; exact hP, va_K.moved hW.alike hK, hD⟩, hS.F ht⟩) hS.2.2 dX12_addFault_49
  refine lv_icmp_ge (tgt := 39) hx hb dX12_addFault_6 (by decide) (fun c7 => ?_) (fun c7 => ?_)
  · skip
    have f8 : 100 ≤ ((V 0 81)).toInt := b_le (by decide) rfl c7
    exact J2 V H locs ls agr.rf hMV hP hD hS (lv_sub hl [0, 1, 2, 3] rfl)
  · skip
    have f9 : ((V 0 81)).toInt < 100 := b_nle (by decide) rfl c7
    refine lv_aload_n hx hb dX12_addFault_9 rfl (lv_at hl 0 rfl) ?_
    refine va_get (D := D) (ci := 12) (v := .ref (ad 82)) (C := RX12) (T := TX12) (N := 100) hx hb hg inX12 hown hK hP 0 rfl rfl 82 (by decide) (hg _ w1788) (fun _ h9 => h9) rfl dX12_addFault_10 ?_
    refine lv_aload_n hx hb dX12_addFault_13 rfl (lv_at hl 0 rfl) ?_
    refine va_get (D := D) (ci := 12) (v := .int (V 0 81)) (C := RX12) (T := TX12) (N := 100) hx hb hg inX12 hown hK hP 0 rfl rfl 81 (by decide) (hg _ w1787) (fun _ h9 => h9) rfl dX12_addFault_14 ?_
    refine lv_iload_n hx hb dX12_addFault_17 rfl (lv_at hl 1 rfl) ?_
    refine va_iast (D := D) (i := (V 0 81)) (x := p0) hx hb hK hP hD hS 58 57 rfl rfl (i_in (a := ((V 0 81)).toInt) rfl (by (first | exact om_84fa328245f5 r1.1 f9 | omega))) dX12_addFault_18 (fun H locs hP hD hS => ?_)
    obtain ⟨V10, hV10⟩ : ∃ z, z = up2 V 82 (Int32.toNatClampNeg (V 0 81)) p0 := ⟨_, rfl⟩
    have hP : va_P D vwCl (mw ad kk ks.1 V10 L) H := by rw [hV10]; exact hP
    have hD : va_D A (mw ad kk ks.1 V10 L) := by rw [hV10]; exact hD
    have hMV10 : rgd bM V10 := hMV.put hV10 (i_full _)
    have agV10 : agr [(0, 81)] [82, 83, 84] V V10 := agV.up hV10 rfl
    refine lv_aload_n hx hb dX12_addFault_19 rfl (lv_at hl 0 rfl) ?_
    refine va_get (D := D) (ci := 12) (v := .ref (ad 83)) (C := RX12) (T := TX12) (N := 100) hx hb hg inX12 hown hK hP 0 rfl rfl 83 (by decide) (hg _ w1789) (fun _ h9 => h9) rfl dX12_addFault_20 ?_
    refine lv_aload_n hx hb dX12_addFault_23 rfl (lv_at hl 0 rfl) ?_
    refine va_get (D := D) (ci := 12) (v := .int (V10 0 81)) (C := RX12) (T := TX12) (N := 100) hx hb hg inX12 hown hK hP 0 rfl rfl 81 (by decide) (hg _ w1787) (fun _ h9 => h9) rfl dX12_addFault_24 ?_
    refine g_top (v := (V 0 81)) (up2_o hV10 (by decide)) ?_
    refine lv_iload_n hx hb dX12_addFault_27 rfl (lv_at hl 2 rfl) ?_
    refine va_iast (D := D) (i := (V 0 81)) (x := p1) hx hb hK hP hD hS 59 58 rfl rfl (i_in (a := ((V 0 81)).toInt) rfl (by (first | exact om_84fa328245f5 r1.1 f9 | omega))) dX12_addFault_28 (fun H locs hP hD hS => ?_)
    obtain ⟨V11, hV11⟩ : ∃ z, z = up2 V10 83 (Int32.toNatClampNeg (V 0 81)) p1 := ⟨_, rfl⟩
    have hP : va_P D vwCl (mw ad kk ks.1 V11 L) H := by rw [hV11]; exact hP
    have hD : va_D A (mw ad kk ks.1 V11 L) := by rw [hV11]; exact hD
    have hMV11 : rgd bM V11 := hMV10.put hV11 (i_full _)
    have agV11 : agr [(0, 81)] [82, 83, 84] V V11 := agV10.up hV11 rfl
    refine lv_aload_n hx hb dX12_addFault_29 rfl (lv_at hl 0 rfl) ?_
    refine va_get (D := D) (ci := 12) (v := .ref (ad 84)) (C := RX12) (T := TX12) (N := 100) hx hb hg inX12 hown hK hP 0 rfl rfl 84 (by decide) (hg _ w1790) (fun _ h9 => h9) rfl dX12_addFault_30 ?_
    refine lv_aload_n hx hb dX12_addFault_33 rfl (lv_at hl 0 rfl) ?_
    refine va_get (D := D) (ci := 12) (v := .int (V11 0 81)) (C := RX12) (T := TX12) (N := 100) hx hb hg inX12 hown hK hP 0 rfl rfl 81 (by decide) (hg _ w1787) (fun _ h9 => h9) rfl dX12_addFault_34 ?_
    refine g_top (v := (V 0 81)) ((up2_o hV11 (by decide)).trans (up2_o hV10 (by decide))) ?_
    refine lv_iload_n hx hb dX12_addFault_37 rfl (lv_at hl 3 rfl) ?_
    refine va_iast (D := D) (i := (V 0 81)) (x := p2) hx hb hK hP hD hS 60 59 rfl rfl (i_in (a := ((V 0 81)).toInt) rfl (by (first | exact om_84fa328245f5 r1.1 f9 | omega))) dX12_addFault_38 (fun H locs hP hD hS => ?_)
    obtain ⟨V12, hV12⟩ : ∃ z, z = up2 V11 84 (Int32.toNatClampNeg (V 0 81)) p2 := ⟨_, rfl⟩
    have hP : va_P D vwCl (mw ad kk ks.1 V12 L) H := by rw [hV12]; exact hP
    have hD : va_D A (mw ad kk ks.1 V12 L) := by rw [hV12]; exact hD
    have hMV12 : rgd bM V12 := hMV11.put hV12 (show (-1) ≤ p2.toInt ∧ p2.toInt ≤ 24 from by (first | exact om_63ce7e8c4c16 rg_p2.1 rg_p2.2 | omega))
    have agV12 : agr [(0, 81)] [82, 83, 84] V V12 := agV11.up hV12 rfl
    exact J2 V12 H locs ls (agr.up (agr.up (agr.up agr.rf hV10 rfl) hV11 rfl) hV12 rfl) hMV12 hP hD hS (lv_sub hl [0, 1, 2, 3] rfl)
abbrev r_s_fault : Room := { frames := 0, cells := 0, slots := 0, locals := 0 }
abbrev q_s_fault (D : va_G) (ks : KS) (ad : Nat → Nat) (kk : Nat → ClassId) (V : Vf) (L : Lf) (p0 : Int32) (p1 : Int32) (A : Nat → Prop) : Array Value → State → Outcome → State → Prop := va_Qi (fun (r : Int32) (u : Vf × Lf) => rgd bM u.1 ∧ agr [(0, 0)] [] V u.1 ∧ u.2 = L) (fun u t => gq D A (mw ad kk ks.1 u.1 u.2) (mty kk) t) A
abbrev r_s_cycle : Room := { frames := 0, cells := 0, slots := 0, locals := 0 }
abbrev q_s_cycle (D : va_G) (ks : KS) (ad : Nat → Nat) (kk : Nat → ClassId) (V : Vf) (L : Lf) (p0 : Int32) (p1 : Int32) (A : Nat → Prop) : Array Value → State → Outcome → State → Prop := va_Qi (fun (r : Int32) (u : Vf × Lf) => rgd bM u.1 ∧ agr [(0, 0)] [] V u.1 ∧ u.2 = L) (fun u t => gq D A (mw ad kk ks.1 u.1 u.2) (mty kk) t) A
abbrev r_s_closed : Room := { frames := 0, cells := 0, slots := 0, locals := 0 }
abbrev q_s_closed (D : va_G) (ks : KS) (ad : Nat → Nat) (kk : Nat → ClassId) (V : Vf) (L : Lf) (p0 : Int32) (p1 : Int32) (A : Nat → Prop) : Array Value → State → Outcome → State → Prop := va_Qi (fun (r : Int32) (u : Vf × Lf) => rgd bM u.1 ∧ agr [(0, 0)] [] V u.1 ∧ u.2 = L) (fun u t => gq D A (mw ad kk ks.1 u.1 u.2) (mty kk) t) A
abbrev r_s_did : Room := { frames := 0, cells := 0, slots := 0, locals := 0 }
abbrev q_s_did (D : va_G) (ks : KS) (ad : Nat → Nat) (kk : Nat → ClassId) (V : Vf) (L : Lf) (p0 : Int32) (p1 : Int32) (A : Nat → Prop) : Array Value → State → Outcome → State → Prop := va_Qi (fun (r : Int32) (u : Vf × Lf) => rgd bM u.1 ∧ agr [(0, 0)] [] V u.1 ∧ u.2 = L) (fun u t => gq D A (mw ad kk ks.1 u.1 u.2) (mty kk) t) A
set_option maxHeartbeats 4000000 in
set_option maxRecDepth 100000 in
theorem s_did (l : Launch) (D : va_G) (ks : KS) (sz : Nat) (ad : Nat → Nat) (kk : Nat → ClassId) (V : Vf) (L : Lf) (p0 : Int32) (p1 : Int32) (hMV : rgd bM V)  : Met l yX12_did (Cond.code yX12_did cX12_did 3 (some .int) :: GW) r_s_did (va_Pc [.ref (ad 0), .int p0, .int p1] (gp D ks (mw ad kk ks.1 V L) (mty kk) sz)) (q_s_did D ks ad kk V L p0 p1 (va_A (mw ad kk ks.1 V L) sz)) 0 0 (va_A (mw ad kk ks.1 V L) sz) := by
  refine g_met (q_s_did D ks ad kk V L p0 p1) (by decide) (Nat.le_of_ble_eq_true rfl) ?_
  intro p e s m below meth c A ls H locs hx hb hr hml hown hg hlocks hin hnw hgk hP hK hD hS hA hl
  replace hown : s.vm.findClass RX12 = some m.cls := hown
  replace hl : lv_has ls 3 [(0, .ref (ad 0)), (1, .int p0), (2, .int p1)] := hl
  replace hP : va_P D vwCl (mw ad kk ks.1 V L) H := hP
  replace hD : va_D A (mw ad kk ks.1 V L) := hD
  replace hK : va_K D vwCl (mty kk) s := hK
  have agV : agr [(0, 0)] [] V V := agr.rf
  refine lv_aload_n hx hb dX12_did_0 rfl (lv_at hl 0 rfl) ?_
  refine lv_iconst (v := 0) hx hb dX12_did_1 (by decide) ?_
  refine va_put (D := D) (ci := 12) (v := .int 0) (ty := tyX12 0) (C := RX12) (T := TX12) (N := 100) hx hb hg inX12 tyX12 tyX12_ok nmX12 hown hK hP hD hS 0 rfl rfl 0 (by decide) (hg _ w1706) (fun _ h9 => h9) rfl (tyX12_ok 0 (by decide)) rfl rfl (Nat.le_of_ble_eq_true rfl) dX12_did_2 (fun H locs hP hD hS => ?_)
  obtain ⟨V1, hV1⟩ : ∃ z, z = up2 V 0 0 0 := ⟨_, rfl⟩
  have hP : va_P D vwCl (mw ad kk ks.1 V1 L) H := by rw [hV1]; exact hP
  have hD : va_D A (mw ad kk ks.1 V1 L) := by rw [hV1]; exact hD
  have hMV1 : rgd bM V1 := hMV.put hV1 (i_full _)
  have agV1 : agr [(0, 0)] [] V V1 := agV.up hV1 rfl
  refine lv_iload_n hx hb dX12_did_5 rfl (lv_at hl 1 rfl) ?_
  refine lv_if_lt (tgt := 23) hx hb dX12_did_6 (by decide) (fun c2 => ?_) (fun c2 => ?_)
  · skip
    have f3 : p0.toInt < 0 := b_lt rfl (by decide) c2
    refine lv_iconst (v := (-1)) hx hb dX12_did_23 (by decide) ?_
    exact W.iret (v := (-1)) hx hb hr (fun t ht hW => ⟨⟨(-1), (V1, L), rfl, ⟨hMV1, agV1, rfl⟩, by rw [ht]; exact hP, va_K.moved hW.alike hK, hD⟩, hS.F ht⟩) hS.2.2 dX12_did_24
  · skip
    have f4 : 0 ≤ p0.toInt := b_nlt rfl (by decide) c2
    refine lv_iload_n hx hb dX12_did_9 rfl (lv_at hl 1 rfl) ?_
    refine lv_aload_n hx hb dX12_did_10 rfl (lv_at hl 0 rfl) ?_
    refine va_get (D := D) (ci := 12) (v := .int (V1 0 76)) (C := RX12) (T := TX12) (N := 100) hx hb hg inX12 hown hK hP 0 rfl rfl 76 (by decide) (hg _ w1782) (fun _ h9 => h9) rfl dX12_did_11 ?_
    refine g_top (v := (V 0 76)) (up2_k hV1 (by decide)) ?_
    have r5 : 0 ≤ ((V 0 76)).toInt ∧ ((V 0 76)).toInt ≤ 2000000000 := hMV 0 76
    refine lv_icmp_ge (tgt := 23) hx hb dX12_did_14 (by decide) (fun c6 => ?_) (fun c6 => ?_)
    · skip
      have f7 : ((V 0 76)).toInt ≤ p0.toInt := b_le rfl rfl c6
      refine lv_iconst (v := (-1)) hx hb dX12_did_23 (by decide) ?_
      exact W.iret (v := (-1)) hx hb hr (fun t ht hW => ⟨⟨(-1), (V1, L), rfl, ⟨hMV1, agV1, rfl⟩, by rw [ht]; exact hP, va_K.moved hW.alike hK, hD⟩, hS.F ht⟩) hS.2.2 dX12_did_24
    · skip
      have f8 : p0.toInt < ((V 0 76)).toInt := b_nle rfl rfl c6
      refine lv_iload_n hx hb dX12_did_17 rfl (lv_at hl 1 rfl) ?_
      refine lv_bipush (v := 100) hx hb dX12_did_18 (by decide) ?_
      refine lv_icmp_lt (tgt := 25) hx hb dX12_did_20 (by decide) (fun c9 => ?_) (fun c9 => ?_)
      · skip
        have f10 : p0.toInt < 100 := b_lt rfl (by decide) c9
        refine lv_iload_n hx hb dX12_did_25 rfl (lv_at hl 2 rfl) ?_
        refine lv_if_ne (tgt := 38) hx hb dX12_did_26 (by decide) (fun c11 => ?_) (fun c11 => ?_)
        · skip
          have f12 : p1.toInt ≠ 0 := b_neq rfl (by decide) c11
          refine lv_iload_n hx hb dX12_did_38 rfl (lv_at hl 2 rfl) ?_
          refine lv_iconst (v := 1) hx hb dX12_did_39 (by decide) ?_
          refine lv_icmp_ne (tgt := 52) hx hb dX12_did_40 (by decide) (fun c13 => ?_) (fun c13 => ?_)
          · skip
            have f14 : p1.toInt ≠ 1 := b_neq rfl (by decide) c13
            refine lv_iload_n hx hb dX12_did_52 rfl (lv_at hl 2 rfl) ?_
            refine lv_iconst (v := 2) hx hb dX12_did_53 (by decide) ?_
            refine lv_icmp_ne (tgt := 66) hx hb dX12_did_54 (by decide) (fun c15 => ?_) (fun c15 => ?_)
            · skip
              have f16 : p1.toInt ≠ 2 := b_neq rfl (by decide) c15
              refine lv_iconst (v := (-1)) hx hb dX12_did_66 (by decide) ?_
              exact W.iret (v := (-1)) hx hb hr (fun t ht hW => ⟨⟨(-1), (V1, L), rfl, ⟨hMV1, agV1, rfl⟩, by rw [ht]; exact hP, va_K.moved hW.alike hK, hD⟩, hS.F ht⟩) hS.2.2 dX12_did_67
            · skip
              have f17 : p1.toInt = 2 := b_eq rfl (by decide) c15
              refine lv_aload_n hx hb dX12_did_57 rfl (lv_at hl 0 rfl) ?_
              refine va_get (D := D) (ci := 12) (v := .ref (ad 79)) (C := RX12) (T := TX12) (N := 100) hx hb hg inX12 hown hK hP 0 rfl rfl 79 (by decide) (hg _ w1785) (fun _ h9 => h9) rfl dX12_did_58 ?_
              refine lv_iload_n hx hb dX12_did_61 rfl (lv_at hl 1 rfl) ?_
              refine va_iald (D := D) (i := p0) hx hb hK hP 56 55 rfl rfl (i_in (a := p0.toInt) rfl (by (first | exact om_84fa328245f5 f4 f10 | omega))) dX12_did_62 ?_
              refine g_top (v := (V 79 (Int32.toNatClampNeg p0))) (up2_o hV1 (by decide)) ?_
              refine lv_goto (tgt := 67) hx hb dX12_did_63 (by decide) ?_
              exact W.iret (v := (V 79 (Int32.toNatClampNeg p0))) hx hb hr (fun t ht hW => ⟨⟨(V 79 (Int32.toNatClampNeg p0)), (V1, L), rfl, ⟨hMV1, agV1, rfl⟩, by rw [ht]; exact hP, va_K.moved hW.alike hK, hD⟩, hS.F ht⟩) hS.2.2 dX12_did_67
          · skip
            have f18 : p1.toInt = 1 := b_eq rfl (by decide) c13
            refine lv_aload_n hx hb dX12_did_43 rfl (lv_at hl 0 rfl) ?_
            refine va_get (D := D) (ci := 12) (v := .ref (ad 78)) (C := RX12) (T := TX12) (N := 100) hx hb hg inX12 hown hK hP 0 rfl rfl 78 (by decide) (hg _ w1784) (fun _ h9 => h9) rfl dX12_did_44 ?_
            refine lv_iload_n hx hb dX12_did_47 rfl (lv_at hl 1 rfl) ?_
            refine va_iald (D := D) (i := p0) hx hb hK hP 55 54 rfl rfl (i_in (a := p0.toInt) rfl (by (first | exact om_84fa328245f5 f4 f10 | omega))) dX12_did_48 ?_
            refine g_top (v := (V 78 (Int32.toNatClampNeg p0))) (up2_o hV1 (by decide)) ?_
            refine lv_goto (tgt := 67) hx hb dX12_did_49 (by decide) ?_
            exact W.iret (v := (V 78 (Int32.toNatClampNeg p0))) hx hb hr (fun t ht hW => ⟨⟨(V 78 (Int32.toNatClampNeg p0)), (V1, L), rfl, ⟨hMV1, agV1, rfl⟩, by rw [ht]; exact hP, va_K.moved hW.alike hK, hD⟩, hS.F ht⟩) hS.2.2 dX12_did_67
        · skip
          have f19 : p1.toInt = 0 := b_eq rfl (by decide) c11
          refine lv_aload_n hx hb dX12_did_29 rfl (lv_at hl 0 rfl) ?_
          refine va_get (D := D) (ci := 12) (v := .ref (ad 77)) (C := RX12) (T := TX12) (N := 100) hx hb hg inX12 hown hK hP 0 rfl rfl 77 (by decide) (hg _ w1783) (fun _ h9 => h9) rfl dX12_did_30 ?_
          refine lv_iload_n hx hb dX12_did_33 rfl (lv_at hl 1 rfl) ?_
          refine va_iald (D := D) (i := p0) hx hb hK hP 54 53 rfl rfl (i_in (a := p0.toInt) rfl (by (first | exact om_84fa328245f5 f4 f10 | omega))) dX12_did_34 ?_
          refine g_top (v := (V 77 (Int32.toNatClampNeg p0))) (up2_o hV1 (by decide)) ?_
          refine lv_goto (tgt := 67) hx hb dX12_did_35 (by decide) ?_
          exact W.iret (v := (V 77 (Int32.toNatClampNeg p0))) hx hb hr (fun t ht hW => ⟨⟨(V 77 (Int32.toNatClampNeg p0)), (V1, L), rfl, ⟨hMV1, agV1, rfl⟩, by rw [ht]; exact hP, va_K.moved hW.alike hK, hD⟩, hS.F ht⟩) hS.2.2 dX12_did_67
      · skip
        have f20 : 100 ≤ p0.toInt := b_nlt rfl (by decide) c9
        refine lv_iconst (v := (-1)) hx hb dX12_did_23 (by decide) ?_
        exact W.iret (v := (-1)) hx hb hr (fun t ht hW => ⟨⟨(-1), (V1, L), rfl, ⟨hMV1, agV1, rfl⟩, by rw [ht]; exact hP, va_K.moved hW.alike hK, hD⟩, hS.F ht⟩) hS.2.2 dX12_did_24
abbrev r_s_object : Room := { frames := 0, cells := 0, slots := 0, locals := 0 }
abbrev q_s_object (D : va_G) (ks : KS) (ad : Nat → Nat) (kk : Nat → ClassId) (V : Vf) (L : Lf) (p0 : Int32) (p1 : Int32) (A : Nat → Prop) : Array Value → State → Outcome → State → Prop := va_Qi (fun (r : Int32) (u : Vf × Lf) => rgd bM u.1 ∧ agr [(0, 0)] [] V u.1 ∧ u.2 = L) (fun u t => gq D A (mw ad kk ks.1 u.1 u.2) (mty kk) t) A
set_option maxHeartbeats 4000000 in
set_option maxRecDepth 100000 in
theorem s_object (l : Launch) (D : va_G) (ks : KS) (sz : Nat) (ad : Nat → Nat) (kk : Nat → ClassId) (V : Vf) (L : Lf) (p0 : Int32) (p1 : Int32) (hMV : rgd bM V)  : Met l yX12_object (Cond.code yX12_object cX12_object 3 (some .int) :: GW) r_s_object (va_Pc [.ref (ad 0), .int p0, .int p1] (gp D ks (mw ad kk ks.1 V L) (mty kk) sz)) (q_s_object D ks ad kk V L p0 p1 (va_A (mw ad kk ks.1 V L) sz)) 0 0 (va_A (mw ad kk ks.1 V L) sz) := by
  refine g_met (q_s_object D ks ad kk V L p0 p1) (by decide) (Nat.le_of_ble_eq_true rfl) ?_
  intro p e s m below meth c A ls H locs hx hb hr hml hown hg hlocks hin hnw hgk hP hK hD hS hA hl
  replace hown : s.vm.findClass RX12 = some m.cls := hown
  replace hl : lv_has ls 3 [(0, .ref (ad 0)), (1, .int p0), (2, .int p1)] := hl
  replace hP : va_P D vwCl (mw ad kk ks.1 V L) H := hP
  replace hD : va_D A (mw ad kk ks.1 V L) := hD
  replace hK : va_K D vwCl (mty kk) s := hK
  have agV : agr [(0, 0)] [] V V := agr.rf
  refine lv_aload_n hx hb dX12_object_0 rfl (lv_at hl 0 rfl) ?_
  refine lv_iload_n hx hb dX12_object_1 rfl (lv_at hl 1 rfl) ?_
  refine lv_if_lt (tgt := 26) hx hb dX12_object_2 (by decide) (fun c1 => ?_) (fun c1 => ?_)
  · skip
    have f2 : p0.toInt < 0 := b_lt rfl (by decide) c1
    refine lv_iconst (v := 1) hx hb dX12_object_26 (by decide) ?_
    refine va_put (D := D) (ci := 12) (v := .int 1) (ty := tyX12 0) (C := RX12) (T := TX12) (N := 100) hx hb hg inX12 tyX12 tyX12_ok nmX12 hown hK hP hD hS 0 rfl rfl 0 (by decide) (hg _ w1706) (fun _ h9 => h9) rfl (tyX12_ok 0 (by decide)) rfl rfl (Nat.le_of_ble_eq_true rfl) dX12_object_27 (fun H locs hP hD hS => ?_)
    obtain ⟨V3, hV3⟩ : ∃ z, z = up2 V 0 0 1 := ⟨_, rfl⟩
    have hP : va_P D vwCl (mw ad kk ks.1 V3 L) H := by rw [hV3]; exact hP
    have hD : va_D A (mw ad kk ks.1 V3 L) := by rw [hV3]; exact hD
    have hMV3 : rgd bM V3 := hMV.put hV3 (i_full _)
    have agV3 : agr [(0, 0)] [] V V3 := agV.up hV3 rfl
    refine lv_aload_n hx hb dX12_object_30 rfl (lv_at hl 0 rfl) ?_
    refine va_get (D := D) (ci := 12) (v := .int (V3 0 0)) (C := RX12) (T := TX12) (N := 100) hx hb hg inX12 hown hK hP 0 rfl rfl 0 (by decide) (hg _ w1706) (fun _ h9 => h9) rfl dX12_object_31 ?_
    refine g_top (v := 1) (up2_s hV3) ?_
    refine lv_if_le (tgt := 41) hx hb dX12_object_34 (by decide) (fun q => absurd q (by decide)) (fun _ => ?_)
    refine lv_iconst (v := 0) hx hb dX12_object_37 (by decide) ?_
    refine lv_goto (tgt := 74) hx hb dX12_object_38 (by decide) ?_
    exact W.iret (v := 0) hx hb hr (fun t ht hW => ⟨⟨0, (V3, L), rfl, ⟨hMV3, agV3, rfl⟩, by rw [ht]; exact hP, va_K.moved hW.alike hK, hD⟩, hS.F ht⟩) hS.2.2 dX12_object_74
  · skip
    have f4 : 0 ≤ p0.toInt := b_nlt rfl (by decide) c1
    refine lv_iload_n hx hb dX12_object_5 rfl (lv_at hl 1 rfl) ?_
    refine lv_aload_n hx hb dX12_object_6 rfl (lv_at hl 0 rfl) ?_
    refine va_get (D := D) (ci := 12) (v := .int (V 0 60)) (C := RX12) (T := TX12) (N := 100) hx hb hg inX12 hown hK hP 0 rfl rfl 60 (by decide) (hg _ w1766) (fun _ h9 => h9) rfl dX12_object_7 ?_
    have r5 : 0 ≤ ((V 0 60)).toInt ∧ ((V 0 60)).toInt ≤ 300 := hMV 0 60
    refine lv_icmp_ge (tgt := 26) hx hb dX12_object_10 (by decide) (fun c6 => ?_) (fun c6 => ?_)
    · skip
      have f7 : ((V 0 60)).toInt ≤ p0.toInt := b_le rfl rfl c6
      refine lv_iconst (v := 1) hx hb dX12_object_26 (by decide) ?_
      refine va_put (D := D) (ci := 12) (v := .int 1) (ty := tyX12 0) (C := RX12) (T := TX12) (N := 100) hx hb hg inX12 tyX12 tyX12_ok nmX12 hown hK hP hD hS 0 rfl rfl 0 (by decide) (hg _ w1706) (fun _ h9 => h9) rfl (tyX12_ok 0 (by decide)) rfl rfl (Nat.le_of_ble_eq_true rfl) dX12_object_27 (fun H locs hP hD hS => ?_)
      obtain ⟨V8, hV8⟩ : ∃ z, z = up2 V 0 0 1 := ⟨_, rfl⟩
      have hP : va_P D vwCl (mw ad kk ks.1 V8 L) H := by rw [hV8]; exact hP
      have hD : va_D A (mw ad kk ks.1 V8 L) := by rw [hV8]; exact hD
      have hMV8 : rgd bM V8 := hMV.put hV8 (i_full _)
      have agV8 : agr [(0, 0)] [] V V8 := agV.up hV8 rfl
      refine lv_aload_n hx hb dX12_object_30 rfl (lv_at hl 0 rfl) ?_
      refine va_get (D := D) (ci := 12) (v := .int (V8 0 0)) (C := RX12) (T := TX12) (N := 100) hx hb hg inX12 hown hK hP 0 rfl rfl 0 (by decide) (hg _ w1706) (fun _ h9 => h9) rfl dX12_object_31 ?_
      refine g_top (v := 1) (up2_s hV8) ?_
      refine lv_if_le (tgt := 41) hx hb dX12_object_34 (by decide) (fun q => absurd q (by decide)) (fun _ => ?_)
      refine lv_iconst (v := 0) hx hb dX12_object_37 (by decide) ?_
      refine lv_goto (tgt := 74) hx hb dX12_object_38 (by decide) ?_
      exact W.iret (v := 0) hx hb hr (fun t ht hW => ⟨⟨0, (V8, L), rfl, ⟨hMV8, agV8, rfl⟩, by rw [ht]; exact hP, va_K.moved hW.alike hK, hD⟩, hS.F ht⟩) hS.2.2 dX12_object_74
    · skip
      have f9 : p0.toInt < ((V 0 60)).toInt := b_nle rfl rfl c6
      refine lv_iload_n hx hb dX12_object_13 rfl (lv_at hl 2 rfl) ?_
      refine lv_if_lt (tgt := 26) hx hb dX12_object_14 (by decide) (fun c10 => ?_) (fun c10 => ?_)
      · skip
        have f11 : p1.toInt < 0 := b_lt rfl (by decide) c10
        refine lv_iconst (v := 1) hx hb dX12_object_26 (by decide) ?_
        refine va_put (D := D) (ci := 12) (v := .int 1) (ty := tyX12 0) (C := RX12) (T := TX12) (N := 100) hx hb hg inX12 tyX12 tyX12_ok nmX12 hown hK hP hD hS 0 rfl rfl 0 (by decide) (hg _ w1706) (fun _ h9 => h9) rfl (tyX12_ok 0 (by decide)) rfl rfl (Nat.le_of_ble_eq_true rfl) dX12_object_27 (fun H locs hP hD hS => ?_)
        obtain ⟨V12, hV12⟩ : ∃ z, z = up2 V 0 0 1 := ⟨_, rfl⟩
        have hP : va_P D vwCl (mw ad kk ks.1 V12 L) H := by rw [hV12]; exact hP
        have hD : va_D A (mw ad kk ks.1 V12 L) := by rw [hV12]; exact hD
        have hMV12 : rgd bM V12 := hMV.put hV12 (i_full _)
        have agV12 : agr [(0, 0)] [] V V12 := agV.up hV12 rfl
        refine lv_aload_n hx hb dX12_object_30 rfl (lv_at hl 0 rfl) ?_
        refine va_get (D := D) (ci := 12) (v := .int (V12 0 0)) (C := RX12) (T := TX12) (N := 100) hx hb hg inX12 hown hK hP 0 rfl rfl 0 (by decide) (hg _ w1706) (fun _ h9 => h9) rfl dX12_object_31 ?_
        refine g_top (v := 1) (up2_s hV12) ?_
        refine lv_if_le (tgt := 41) hx hb dX12_object_34 (by decide) (fun q => absurd q (by decide)) (fun _ => ?_)
        refine lv_iconst (v := 0) hx hb dX12_object_37 (by decide) ?_
        refine lv_goto (tgt := 74) hx hb dX12_object_38 (by decide) ?_
        exact W.iret (v := 0) hx hb hr (fun t ht hW => ⟨⟨0, (V12, L), rfl, ⟨hMV12, agV12, rfl⟩, by rw [ht]; exact hP, va_K.moved hW.alike hK, hD⟩, hS.F ht⟩) hS.2.2 dX12_object_74
      · skip
        have f13 : 0 ≤ p1.toInt := b_nlt rfl (by decide) c10
        refine lv_iload_n hx hb dX12_object_17 rfl (lv_at hl 2 rfl) ?_
        refine lv_iconst (v := 2) hx hb dX12_object_18 (by decide) ?_
        refine lv_icmp_gt (tgt := 26) hx hb dX12_object_19 (by decide) (fun c14 => ?_) (fun c14 => ?_)
        · skip
          have f15 : 2 < p1.toInt := b_lt (by decide) rfl c14
          refine lv_iconst (v := 1) hx hb dX12_object_26 (by decide) ?_
          refine va_put (D := D) (ci := 12) (v := .int 1) (ty := tyX12 0) (C := RX12) (T := TX12) (N := 100) hx hb hg inX12 tyX12 tyX12_ok nmX12 hown hK hP hD hS 0 rfl rfl 0 (by decide) (hg _ w1706) (fun _ h9 => h9) rfl (tyX12_ok 0 (by decide)) rfl rfl (Nat.le_of_ble_eq_true rfl) dX12_object_27 (fun H locs hP hD hS => ?_)
          obtain ⟨V16, hV16⟩ : ∃ z, z = up2 V 0 0 1 := ⟨_, rfl⟩
          have hP : va_P D vwCl (mw ad kk ks.1 V16 L) H := by rw [hV16]; exact hP
          have hD : va_D A (mw ad kk ks.1 V16 L) := by rw [hV16]; exact hD
          have hMV16 : rgd bM V16 := hMV.put hV16 (i_full _)
          have agV16 : agr [(0, 0)] [] V V16 := agV.up hV16 rfl
          refine lv_aload_n hx hb dX12_object_30 rfl (lv_at hl 0 rfl) ?_
          refine va_get (D := D) (ci := 12) (v := .int (V16 0 0)) (C := RX12) (T := TX12) (N := 100) hx hb hg inX12 hown hK hP 0 rfl rfl 0 (by decide) (hg _ w1706) (fun _ h9 => h9) rfl dX12_object_31 ?_
          refine g_top (v := 1) (up2_s hV16) ?_
          refine lv_if_le (tgt := 41) hx hb dX12_object_34 (by decide) (fun q => absurd q (by decide)) (fun _ => ?_)
          refine lv_iconst (v := 0) hx hb dX12_object_37 (by decide) ?_
          refine lv_goto (tgt := 74) hx hb dX12_object_38 (by decide) ?_
          exact W.iret (v := 0) hx hb hr (fun t ht hW => ⟨⟨0, (V16, L), rfl, ⟨hMV16, agV16, rfl⟩, by rw [ht]; exact hP, va_K.moved hW.alike hK, hD⟩, hS.F ht⟩) hS.2.2 dX12_object_74
        · skip
          have f17 : p1.toInt ≤ 2 := b_nlt (by decide) rfl c14
          refine lv_iconst (v := 0) hx hb dX12_object_22 (by decide) ?_
          refine lv_goto (tgt := 27) hx hb dX12_object_23 (by decide) ?_
          refine va_put (D := D) (ci := 12) (v := .int 0) (ty := tyX12 0) (C := RX12) (T := TX12) (N := 100) hx hb hg inX12 tyX12 tyX12_ok nmX12 hown hK hP hD hS 0 rfl rfl 0 (by decide) (hg _ w1706) (fun _ h9 => h9) rfl (tyX12_ok 0 (by decide)) rfl rfl (Nat.le_of_ble_eq_true rfl) dX12_object_27 (fun H locs hP hD hS => ?_)
          obtain ⟨V18, hV18⟩ : ∃ z, z = up2 V 0 0 0 := ⟨_, rfl⟩
          have hP : va_P D vwCl (mw ad kk ks.1 V18 L) H := by rw [hV18]; exact hP
          have hD : va_D A (mw ad kk ks.1 V18 L) := by rw [hV18]; exact hD
          have hMV18 : rgd bM V18 := hMV.put hV18 (i_full _)
          have agV18 : agr [(0, 0)] [] V V18 := agV.up hV18 rfl
          refine lv_aload_n hx hb dX12_object_30 rfl (lv_at hl 0 rfl) ?_
          refine va_get (D := D) (ci := 12) (v := .int (V18 0 0)) (C := RX12) (T := TX12) (N := 100) hx hb hg inX12 hown hK hP 0 rfl rfl 0 (by decide) (hg _ w1706) (fun _ h9 => h9) rfl dX12_object_31 ?_
          refine g_top (v := 0) (up2_s hV18) ?_
          refine lv_if_le (tgt := 41) hx hb dX12_object_34 (by decide) (fun _ => ?_) (fun q => absurd (by decide) q)
          refine lv_iload_n hx hb dX12_object_41 rfl (lv_at hl 2 rfl) ?_
          refine lv_if_ne (tgt := 54) hx hb dX12_object_42 (by decide) (fun c19 => ?_) (fun c19 => ?_)
          · skip
            have f20 : p1.toInt ≠ 0 := b_neq rfl (by decide) c19
            refine lv_iload_n hx hb dX12_object_54 rfl (lv_at hl 2 rfl) ?_
            refine lv_iconst (v := 1) hx hb dX12_object_55 (by decide) ?_
            refine lv_icmp_ne (tgt := 68) hx hb dX12_object_56 (by decide) (fun c21 => ?_) (fun c21 => ?_)
            · skip
              have f22 : p1.toInt ≠ 1 := b_neq rfl (by decide) c21
              refine lv_aload_n hx hb dX12_object_68 rfl (lv_at hl 0 rfl) ?_
              refine va_get (D := D) (ci := 12) (v := .ref (ad 63)) (C := RX12) (T := TX12) (N := 100) hx hb hg inX12 hown hK hP 0 rfl rfl 63 (by decide) (hg _ w1769) (fun _ h9 => h9) rfl dX12_object_69 ?_
              refine lv_iload_n hx hb dX12_object_72 rfl (lv_at hl 1 rfl) ?_
              refine va_iald (D := D) (i := p0) hx hb hK hP 48 47 rfl rfl (i_in (a := p0.toInt) rfl (by (first | exact om_cd73be67f278 f4 r5.2 f9 | omega))) dX12_object_73 ?_
              refine g_top (v := (V 63 (Int32.toNatClampNeg p0))) (up2_o hV18 (by decide)) ?_
              have r23 : 0 ≤ ((V 63 (Int32.toNatClampNeg p0))).toInt ∧ ((V 63 (Int32.toNatClampNeg p0))).toInt ≤ 2 := hMV 63 (Int32.toNatClampNeg p0)
              exact W.iret (v := (V 63 (Int32.toNatClampNeg p0))) hx hb hr (fun t ht hW => ⟨⟨(V 63 (Int32.toNatClampNeg p0)), (V18, L), rfl, ⟨hMV18, agV18, rfl⟩, by rw [ht]; exact hP, va_K.moved hW.alike hK, hD⟩, hS.F ht⟩) hS.2.2 dX12_object_74
            · skip
              have f24 : p1.toInt = 1 := b_eq rfl (by decide) c21
              refine lv_aload_n hx hb dX12_object_59 rfl (lv_at hl 0 rfl) ?_
              refine va_get (D := D) (ci := 12) (v := .ref (ad 62)) (C := RX12) (T := TX12) (N := 100) hx hb hg inX12 hown hK hP 0 rfl rfl 62 (by decide) (hg _ w1768) (fun _ h9 => h9) rfl dX12_object_60 ?_
              refine lv_iload_n hx hb dX12_object_63 rfl (lv_at hl 1 rfl) ?_
              refine va_iald (D := D) (i := p0) hx hb hK hP 47 46 rfl rfl (i_in (a := p0.toInt) rfl (by (first | exact om_cd73be67f278 f4 r5.2 f9 | omega))) dX12_object_64 ?_
              refine g_top (v := (V 62 (Int32.toNatClampNeg p0))) (up2_o hV18 (by decide)) ?_
              have r25 : 0 ≤ ((V 62 (Int32.toNatClampNeg p0))).toInt ∧ ((V 62 (Int32.toNatClampNeg p0))).toInt ≤ 39 := hMV 62 (Int32.toNatClampNeg p0)
              refine lv_goto (tgt := 74) hx hb dX12_object_65 (by decide) ?_
              exact W.iret (v := (V 62 (Int32.toNatClampNeg p0))) hx hb hr (fun t ht hW => ⟨⟨(V 62 (Int32.toNatClampNeg p0)), (V18, L), rfl, ⟨hMV18, agV18, rfl⟩, by rw [ht]; exact hP, va_K.moved hW.alike hK, hD⟩, hS.F ht⟩) hS.2.2 dX12_object_74
          · skip
            have f26 : p1.toInt = 0 := b_eq rfl (by decide) c19
            refine lv_aload_n hx hb dX12_object_45 rfl (lv_at hl 0 rfl) ?_
            refine va_get (D := D) (ci := 12) (v := .ref (ad 61)) (C := RX12) (T := TX12) (N := 100) hx hb hg inX12 hown hK hP 0 rfl rfl 61 (by decide) (hg _ w1767) (fun _ h9 => h9) rfl dX12_object_46 ?_
            refine lv_iload_n hx hb dX12_object_49 rfl (lv_at hl 1 rfl) ?_
            refine va_iald (D := D) (i := p0) hx hb hK hP 46 45 rfl rfl (i_in (a := p0.toInt) rfl (by (first | exact om_cd73be67f278 f4 r5.2 f9 | omega))) dX12_object_50 ?_
            refine g_top (v := (V 61 (Int32.toNatClampNeg p0))) (up2_o hV18 (by decide)) ?_
            have r27 : 0 ≤ ((V 61 (Int32.toNatClampNeg p0))).toInt ∧ ((V 61 (Int32.toNatClampNeg p0))).toInt ≤ 23 := hMV 61 (Int32.toNatClampNeg p0)
            refine lv_goto (tgt := 74) hx hb dX12_object_51 (by decide) ?_
            exact W.iret (v := (V 61 (Int32.toNatClampNeg p0))) hx hb hr (fun t ht hW => ⟨⟨(V 61 (Int32.toNatClampNeg p0)), (V18, L), rfl, ⟨hMV18, agV18, rfl⟩, by rw [ht]; exact hP, va_K.moved hW.alike hK, hD⟩, hS.F ht⟩) hS.2.2 dX12_object_74
abbrev r_s_spoiled : Room := { frames := 1, cells := 0, slots := 0, locals := 23 }
abbrev q_s_spoiled (D : va_G) (ks : KS) (ad : Nat → Nat) (kk : Nat → ClassId) (V : Vf) (L : Lf) (p0 : Int32) (p1 : Int32) (A : Nat → Prop) : Array Value → State → Outcome → State → Prop := va_Qi (fun (r : Int32) (u : Vf × Lf) => rgd bM u.1 ∧ agr [(0, 0)] [] V u.1 ∧ u.2 = L) (fun u t => gq D A (mw ad kk ks.1 u.1 u.2) (mty kk) t) A
abbrev r_s_component : Room := { frames := 1, cells := 0, slots := 0, locals := 22 }
abbrev q_s_component (D : va_G) (ks : KS) (ad : Nat → Nat) (kk : Nat → ClassId) (V : Vf) (L : Lf) (p0 : Int32) (p1 : Int32) (A : Nat → Prop) : Array Value → State → Outcome → State → Prop := va_Qi (fun (r : Int32) (u : Vf × Lf) => rgd bM u.1 ∧ agr [(0, 0)] [] V u.1 ∧ u.2 = L) (fun u t => gq D A (mw ad kk ks.1 u.1 u.2) (mty kk) t) A
set_option maxHeartbeats 4000000 in
set_option maxRecDepth 100000 in
theorem s_component (l : Launch) (D : va_G) (ks : KS) (sz : Nat) (ad : Nat → Nat) (kk : Nat → ClassId) (V : Vf) (L : Lf) (p0 : Int32) (p1 : Int32) (hMV : rgd bM V)  : Met l yX12_component (Cond.code yX12_component cX12_component 4 (some .int) :: GW) r_s_component (va_Pc [.ref (ad 0), .int p0, .int p1] (gp D ks (mw ad kk ks.1 V L) (mty kk) sz)) (q_s_component D ks ad kk V L p0 p1 (va_A (mw ad kk ks.1 V L) sz)) 0 0 (va_A (mw ad kk ks.1 V L) sz) := by
  refine g_met (q_s_component D ks ad kk V L p0 p1) (by decide) (Nat.le_of_ble_eq_true rfl) ?_
  intro p e s m below meth c A ls H locs hx hb hr hml hown hg hlocks hin hnw hgk hP hK hD hS hA hl
  replace hown : s.vm.findClass RX12 = some m.cls := hown
  replace hl : lv_has ls 4 [(0, .ref (ad 0)), (1, .int p0), (2, .int p1)] := hl
  replace hP : va_P D vwCl (mw ad kk ks.1 V L) H := hP
  replace hD : va_D A (mw ad kk ks.1 V L) := hD
  replace hK : va_K D vwCl (mty kk) s := hK
  have agV : agr [(0, 0)] [] V V := agr.rf
  refine lv_aload_n hx hb dX12_component_0 rfl (lv_at hl 0 rfl) ?_
  refine lv_iload_n hx hb dX12_component_1 rfl (lv_at hl 1 rfl) ?_
  refine lv_if_lt (tgt := 31) hx hb dX12_component_2 (by decide) (fun c1 => ?_) (fun c1 => ?_)
  · skip
    have f2 : p0.toInt < 0 := b_lt rfl (by decide) c1
    refine lv_iconst (v := 1) hx hb dX12_component_31 (by decide) ?_
    refine va_put (D := D) (ci := 12) (v := .int 1) (ty := tyX12 0) (C := RX12) (T := TX12) (N := 100) hx hb hg inX12 tyX12 tyX12_ok nmX12 hown hK hP hD hS 0 rfl rfl 0 (by decide) (hg _ w1706) (fun _ h9 => h9) rfl (tyX12_ok 0 (by decide)) rfl rfl (Nat.le_of_ble_eq_true rfl) dX12_component_32 (fun H locs hP hD hS => ?_)
    obtain ⟨V3, hV3⟩ : ∃ z, z = up2 V 0 0 1 := ⟨_, rfl⟩
    have hP : va_P D vwCl (mw ad kk ks.1 V3 L) H := by rw [hV3]; exact hP
    have hD : va_D A (mw ad kk ks.1 V3 L) := by rw [hV3]; exact hD
    have hMV3 : rgd bM V3 := hMV.put hV3 (i_full _)
    have agV3 : agr [(0, 0)] [] V V3 := agV.up hV3 rfl
    refine lv_aload_n hx hb dX12_component_35 rfl (lv_at hl 0 rfl) ?_
    refine va_get (D := D) (ci := 12) (v := .int (V3 0 0)) (C := RX12) (T := TX12) (N := 100) hx hb hg inX12 hown hK hP 0 rfl rfl 0 (by decide) (hg _ w1706) (fun _ h9 => h9) rfl dX12_component_36 ?_
    refine g_top (v := 1) (up2_s hV3) ?_
    refine lv_if_le (tgt := 44) hx hb dX12_component_39 (by decide) (fun q => absurd q (by decide)) (fun _ => ?_)
    refine lv_iconst (v := 0) hx hb dX12_component_42 (by decide) ?_
    exact W.iret (v := 0) hx hb hr (fun t ht hW => ⟨⟨0, (V3, L), rfl, ⟨hMV3, agV3, rfl⟩, by rw [ht]; exact hP, va_K.moved hW.alike hK, hD⟩, hS.F ht⟩) hS.2.2 dX12_component_43
  · skip
    have f4 : 0 ≤ p0.toInt := b_nlt rfl (by decide) c1
    refine lv_iload_n hx hb dX12_component_5 rfl (lv_at hl 1 rfl) ?_
    refine lv_aload_n hx hb dX12_component_6 rfl (lv_at hl 0 rfl) ?_
    refine va_get (D := D) (ci := 12) (v := .ref (ad 19)) (C := RX12) (T := TX12) (N := 100) hx hb hg inX12 hown hK hP 0 rfl rfl 19 (by decide) (hg _ w1725) (fun _ h9 => h9) rfl dX12_component_7 ?_
    refine lv_aload_n hx hb dX12_component_10 rfl (lv_at hl 0 rfl) ?_
    refine va_get (D := D) (ci := 12) (v := .int (V 0 11)) (C := RX12) (T := TX12) (N := 100) hx hb hg inX12 hown hK hP 0 rfl rfl 11 (by decide) (hg _ w1717) (fun _ h9 => h9) rfl dX12_component_11 ?_
    have r5 : 0 ≤ ((V 0 11)).toInt ∧ ((V 0 11)).toInt ≤ 1 := hMV 0 11
    refine va_iald (D := D) (i := (V 0 11)) hx hb hK hP 12 11 rfl rfl (i_in (a := ((V 0 11)).toInt) rfl (by (first | exact om_8367a84723c7 r5.1 r5.2 | omega))) dX12_component_14 ?_
    have r6 : 0 ≤ ((V 19 (Int32.toNatClampNeg (V 0 11)))).toInt ∧ ((V 19 (Int32.toNatClampNeg (V 0 11)))).toInt ≤ 24 := hMV 19 (Int32.toNatClampNeg (V 0 11))
    refine lv_icmp_ge (tgt := 31) hx hb dX12_component_15 (by decide) (fun c7 => ?_) (fun c7 => ?_)
    · skip
      have f8 : ((V 19 (Int32.toNatClampNeg (V 0 11)))).toInt ≤ p0.toInt := b_le rfl rfl c7
      refine lv_iconst (v := 1) hx hb dX12_component_31 (by decide) ?_
      refine va_put (D := D) (ci := 12) (v := .int 1) (ty := tyX12 0) (C := RX12) (T := TX12) (N := 100) hx hb hg inX12 tyX12 tyX12_ok nmX12 hown hK hP hD hS 0 rfl rfl 0 (by decide) (hg _ w1706) (fun _ h9 => h9) rfl (tyX12_ok 0 (by decide)) rfl rfl (Nat.le_of_ble_eq_true rfl) dX12_component_32 (fun H locs hP hD hS => ?_)
      obtain ⟨V9, hV9⟩ : ∃ z, z = up2 V 0 0 1 := ⟨_, rfl⟩
      have hP : va_P D vwCl (mw ad kk ks.1 V9 L) H := by rw [hV9]; exact hP
      have hD : va_D A (mw ad kk ks.1 V9 L) := by rw [hV9]; exact hD
      have hMV9 : rgd bM V9 := hMV.put hV9 (i_full _)
      have agV9 : agr [(0, 0)] [] V V9 := agV.up hV9 rfl
      refine lv_aload_n hx hb dX12_component_35 rfl (lv_at hl 0 rfl) ?_
      refine va_get (D := D) (ci := 12) (v := .int (V9 0 0)) (C := RX12) (T := TX12) (N := 100) hx hb hg inX12 hown hK hP 0 rfl rfl 0 (by decide) (hg _ w1706) (fun _ h9 => h9) rfl dX12_component_36 ?_
      refine g_top (v := 1) (up2_s hV9) ?_
      refine lv_if_le (tgt := 44) hx hb dX12_component_39 (by decide) (fun q => absurd q (by decide)) (fun _ => ?_)
      refine lv_iconst (v := 0) hx hb dX12_component_42 (by decide) ?_
      exact W.iret (v := 0) hx hb hr (fun t ht hW => ⟨⟨0, (V9, L), rfl, ⟨hMV9, agV9, rfl⟩, by rw [ht]; exact hP, va_K.moved hW.alike hK, hD⟩, hS.F ht⟩) hS.2.2 dX12_component_43
    · skip
      have f10 : p0.toInt < ((V 19 (Int32.toNatClampNeg (V 0 11)))).toInt := b_nle rfl rfl c7
      refine lv_iload_n hx hb dX12_component_18 rfl (lv_at hl 2 rfl) ?_
      refine lv_if_lt (tgt := 31) hx hb dX12_component_19 (by decide) (fun c11 => ?_) (fun c11 => ?_)
      · skip
        have f12 : p1.toInt < 0 := b_lt rfl (by decide) c11
        refine lv_iconst (v := 1) hx hb dX12_component_31 (by decide) ?_
        refine va_put (D := D) (ci := 12) (v := .int 1) (ty := tyX12 0) (C := RX12) (T := TX12) (N := 100) hx hb hg inX12 tyX12 tyX12_ok nmX12 hown hK hP hD hS 0 rfl rfl 0 (by decide) (hg _ w1706) (fun _ h9 => h9) rfl (tyX12_ok 0 (by decide)) rfl rfl (Nat.le_of_ble_eq_true rfl) dX12_component_32 (fun H locs hP hD hS => ?_)
        obtain ⟨V13, hV13⟩ : ∃ z, z = up2 V 0 0 1 := ⟨_, rfl⟩
        have hP : va_P D vwCl (mw ad kk ks.1 V13 L) H := by rw [hV13]; exact hP
        have hD : va_D A (mw ad kk ks.1 V13 L) := by rw [hV13]; exact hD
        have hMV13 : rgd bM V13 := hMV.put hV13 (i_full _)
        have agV13 : agr [(0, 0)] [] V V13 := agV.up hV13 rfl
        refine lv_aload_n hx hb dX12_component_35 rfl (lv_at hl 0 rfl) ?_
        refine va_get (D := D) (ci := 12) (v := .int (V13 0 0)) (C := RX12) (T := TX12) (N := 100) hx hb hg inX12 hown hK hP 0 rfl rfl 0 (by decide) (hg _ w1706) (fun _ h9 => h9) rfl dX12_component_36 ?_
        refine g_top (v := 1) (up2_s hV13) ?_
        refine lv_if_le (tgt := 44) hx hb dX12_component_39 (by decide) (fun q => absurd q (by decide)) (fun _ => ?_)
        refine lv_iconst (v := 0) hx hb dX12_component_42 (by decide) ?_
        exact W.iret (v := 0) hx hb hr (fun t ht hW => ⟨⟨0, (V13, L), rfl, ⟨hMV13, agV13, rfl⟩, by rw [ht]; exact hP, va_K.moved hW.alike hK, hD⟩, hS.F ht⟩) hS.2.2 dX12_component_43
      · skip
        have f14 : 0 ≤ p1.toInt := b_nlt rfl (by decide) c11
        refine lv_iload_n hx hb dX12_component_22 rfl (lv_at hl 2 rfl) ?_
        refine lv_iconst (v := 4) hx hb dX12_component_23 (by decide) ?_
        refine lv_icmp_gt (tgt := 31) hx hb dX12_component_24 (by decide) (fun c15 => ?_) (fun c15 => ?_)
        · skip
          have f16 : 4 < p1.toInt := b_lt (by decide) rfl c15
          refine lv_iconst (v := 1) hx hb dX12_component_31 (by decide) ?_
          refine va_put (D := D) (ci := 12) (v := .int 1) (ty := tyX12 0) (C := RX12) (T := TX12) (N := 100) hx hb hg inX12 tyX12 tyX12_ok nmX12 hown hK hP hD hS 0 rfl rfl 0 (by decide) (hg _ w1706) (fun _ h9 => h9) rfl (tyX12_ok 0 (by decide)) rfl rfl (Nat.le_of_ble_eq_true rfl) dX12_component_32 (fun H locs hP hD hS => ?_)
          obtain ⟨V17, hV17⟩ : ∃ z, z = up2 V 0 0 1 := ⟨_, rfl⟩
          have hP : va_P D vwCl (mw ad kk ks.1 V17 L) H := by rw [hV17]; exact hP
          have hD : va_D A (mw ad kk ks.1 V17 L) := by rw [hV17]; exact hD
          have hMV17 : rgd bM V17 := hMV.put hV17 (i_full _)
          have agV17 : agr [(0, 0)] [] V V17 := agV.up hV17 rfl
          refine lv_aload_n hx hb dX12_component_35 rfl (lv_at hl 0 rfl) ?_
          refine va_get (D := D) (ci := 12) (v := .int (V17 0 0)) (C := RX12) (T := TX12) (N := 100) hx hb hg inX12 hown hK hP 0 rfl rfl 0 (by decide) (hg _ w1706) (fun _ h9 => h9) rfl dX12_component_36 ?_
          refine g_top (v := 1) (up2_s hV17) ?_
          refine lv_if_le (tgt := 44) hx hb dX12_component_39 (by decide) (fun q => absurd q (by decide)) (fun _ => ?_)
          refine lv_iconst (v := 0) hx hb dX12_component_42 (by decide) ?_
          exact W.iret (v := 0) hx hb hr (fun t ht hW => ⟨⟨0, (V17, L), rfl, ⟨hMV17, agV17, rfl⟩, by rw [ht]; exact hP, va_K.moved hW.alike hK, hD⟩, hS.F ht⟩) hS.2.2 dX12_component_43
        · skip
          have f18 : p1.toInt ≤ 4 := b_nlt (by decide) rfl c15
          refine lv_iconst (v := 0) hx hb dX12_component_27 (by decide) ?_
          refine lv_goto (tgt := 32) hx hb dX12_component_28 (by decide) ?_
          refine va_put (D := D) (ci := 12) (v := .int 0) (ty := tyX12 0) (C := RX12) (T := TX12) (N := 100) hx hb hg inX12 tyX12 tyX12_ok nmX12 hown hK hP hD hS 0 rfl rfl 0 (by decide) (hg _ w1706) (fun _ h9 => h9) rfl (tyX12_ok 0 (by decide)) rfl rfl (Nat.le_of_ble_eq_true rfl) dX12_component_32 (fun H locs hP hD hS => ?_)
          obtain ⟨V19, hV19⟩ : ∃ z, z = up2 V 0 0 0 := ⟨_, rfl⟩
          have hP : va_P D vwCl (mw ad kk ks.1 V19 L) H := by rw [hV19]; exact hP
          have hD : va_D A (mw ad kk ks.1 V19 L) := by rw [hV19]; exact hD
          have hMV19 : rgd bM V19 := hMV.put hV19 (i_full _)
          have agV19 : agr [(0, 0)] [] V V19 := agV.up hV19 rfl
          refine lv_aload_n hx hb dX12_component_35 rfl (lv_at hl 0 rfl) ?_
          refine va_get (D := D) (ci := 12) (v := .int (V19 0 0)) (C := RX12) (T := TX12) (N := 100) hx hb hg inX12 hown hK hP 0 rfl rfl 0 (by decide) (hg _ w1706) (fun _ h9 => h9) rfl dX12_component_36 ?_
          refine g_top (v := 0) (up2_s hV19) ?_
          refine lv_if_le (tgt := 44) hx hb dX12_component_39 (by decide) (fun _ => ?_) (fun q => absurd (by decide) q)
          refine lv_bipush (v := 24) hx hb dX12_component_44 (by decide) ?_
          refine lv_aload_n hx hb dX12_component_46 rfl (lv_at hl 0 rfl) ?_
          refine va_get (D := D) (ci := 12) (v := .int (V19 0 11)) (C := RX12) (T := TX12) (N := 100) hx hb hg inX12 hown hK hP 0 rfl rfl 11 (by decide) (hg _ w1717) (fun _ h9 => h9) rfl dX12_component_47 ?_
          refine g_top (v := (V 0 11)) (up2_k hV19 (by decide)) ?_
          refine lv_imul hx hb dX12_component_50 ?_
          refine lv_topi (fun z20 ez20 => ?_)
          have hz20 : z20.toInt = 24 * ((V 0 11)).toInt := i_mul ez20 (by decide) rfl (by (first | exact om_3f8aba7b6ce1 r5.1 r5.2 | omega))
          refine lv_iload_n hx hb dX12_component_51 rfl (lv_at hl 1 rfl) ?_
          refine lv_iadd hx hb dX12_component_52 ?_
          refine lv_topi (fun z21 ez21 => ?_)
          have hz21 : z21.toInt = z20.toInt + p0.toInt := i_add ez21 rfl rfl (by (first | exact om_140f5757d01d f4 r5.1 r5.2 r6.2 f10 hz20 | omega))
          refine lv_istore_n (lv' := [(3, .int z21), (0, .ref (ad 0)), (1, .int p0), (2, .int p1)]) hx hb dX12_component_53 rfl hl (by decide) rfl (fun ls hl => ?_)
          refine lv_iload_n hx hb dX12_component_54 rfl (lv_at hl 3 rfl) ?_
          refine lv_if_ne (tgt := 67) hx hb dX12_component_55 (by decide) (fun c22 => ?_) (fun c22 => ?_)
          · skip
            have f23 : p1.toInt ≠ 0 := b_neq rfl (by decide) c22
            refine lv_iload_n hx hb dX12_component_67 rfl (lv_at hl 3 rfl) ?_
            refine lv_iconst (v := 1) hx hb dX12_component_68 (by decide) ?_
            refine lv_icmp_ne (tgt := 81) hx hb dX12_component_69 (by decide) (fun c24 => ?_) (fun c24 => ?_)
            · skip
              have f25 : p1.toInt ≠ 1 := b_neq rfl (by decide) c24
              refine lv_iload_n hx hb dX12_component_81 rfl (lv_at hl 3 rfl) ?_
              refine lv_iconst (v := 2) hx hb dX12_component_82 (by decide) ?_
              refine lv_icmp_ne (tgt := 102) hx hb dX12_component_83 (by decide) (fun c26 => ?_) (fun c26 => ?_)
              · skip
                have f27 : p1.toInt ≠ 2 := b_neq rfl (by decide) c26
                refine lv_iload_n hx hb dX12_component_102 rfl (lv_at hl 3 rfl) ?_
                refine lv_iconst (v := 3) hx hb dX12_component_103 (by decide) ?_
                refine lv_icmp_ne (tgt := 116) hx hb dX12_component_104 (by decide) (fun c28 => ?_) (fun c28 => ?_)
                · skip
                  have f29 : p1.toInt ≠ 3 := b_neq rfl (by decide) c28
                  refine lv_aload_n hx hb dX12_component_116 rfl (lv_at hl 1 rfl) ?_
                  refine va_get (D := D) (ci := 12) (v := .ref (ad 23)) (C := RX12) (T := TX12) (N := 100) hx hb hg inX12 hown hK hP 0 rfl rfl 23 (by decide) (hg _ w1729) (fun _ h9 => h9) rfl dX12_component_117 ?_
                  refine lv_iload_n hx hb dX12_component_120 rfl (lv_at hl 0 rfl) ?_
                  refine va_iald (D := D) (i := z21) hx hb hK hP 16 15 rfl rfl (i_in (a := z21.toInt) rfl (by (first | exact om_af63ae00f401 f4 r5.1 r5.2 r6.2 f10 hz20 hz21 | omega))) dX12_component_121 ?_
                  refine g_top (v := (V 23 (Int32.toNatClampNeg z21))) (up2_o hV19 (by decide)) ?_
                  exact W.iret (v := (V 23 (Int32.toNatClampNeg z21))) hx hb hr (fun t ht hW => ⟨⟨(V 23 (Int32.toNatClampNeg z21)), (V19, L), rfl, ⟨hMV19, agV19, rfl⟩, by rw [ht]; exact hP, va_K.moved hW.alike hK, hD⟩, hS.F ht⟩) hS.2.2 dX12_component_122
                · skip
                  have f30 : p1.toInt = 3 := b_eq rfl (by decide) c28
                  refine lv_aload_n hx hb dX12_component_107 rfl (lv_at hl 1 rfl) ?_
                  refine va_get (D := D) (ci := 12) (v := .ref (ad 27)) (C := RX12) (T := TX12) (N := 100) hx hb hg inX12 hown hK hP 0 rfl rfl 27 (by decide) (hg _ w1733) (fun _ h9 => h9) rfl dX12_component_108 ?_
                  refine lv_iload_n hx hb dX12_component_111 rfl (lv_at hl 0 rfl) ?_
                  refine va_iald (D := D) (i := z21) hx hb hK hP 20 19 rfl rfl (i_in (a := z21.toInt) rfl (by (first | exact om_af63ae00f401 f4 r5.1 r5.2 r6.2 f10 hz20 hz21 | omega))) dX12_component_112 ?_
                  refine g_top (v := (V 27 (Int32.toNatClampNeg z21))) (up2_o hV19 (by decide)) ?_
                  have r31 : 0 ≤ ((V 27 (Int32.toNatClampNeg z21))).toInt ∧ ((V 27 (Int32.toNatClampNeg z21))).toInt ≤ 8 := hMV 27 (Int32.toNatClampNeg z21)
                  refine lv_goto (tgt := 122) hx hb dX12_component_113 (by decide) ?_
                  exact W.iret (v := (V 27 (Int32.toNatClampNeg z21))) hx hb hr (fun t ht hW => ⟨⟨(V 27 (Int32.toNatClampNeg z21)), (V19, L), rfl, ⟨hMV19, agV19, rfl⟩, by rw [ht]; exact hP, va_K.moved hW.alike hK, hD⟩, hS.F ht⟩) hS.2.2 dX12_component_122
              · skip
                have f32 : p1.toInt = 2 := b_eq rfl (by decide) c26
                refine lv_aload_n hx hb dX12_component_86 rfl (lv_at hl 1 rfl) ?_
                refine lv_iload_n hx hb dX12_component_87 rfl (lv_at hl 2 rfl) ?_
                refine gA_int (gA_runV (As := [.int p0]) (rest := []) (ci := 12) (q0 := 0) hx hb hml hown hg hP hD hK hS hA hnw hgk (s_isThere l D ks H.size ad kk V19 L p0 hMV19 ) w2164 w2166 w117 w172 w2167 rfl rfl hdV_yX12_isThere ⟨Nat.le_of_ble_eq_true rfl, Nat.le_of_ble_eq_true rfl⟩ rfl hl.1 rfl (Nat.le_of_ble_eq_true rfl) dX12_component_88 ⟨Nat.le_of_ble_eq_true rfl, Nat.le_of_ble_eq_true rfl⟩) hP hD hK hS hA (fun z33 u34 H locs w35 hP hD hK hS => ?_)
                obtain ⟨rgz33, t36⟩ := w35
                replace rgz33 : 0 ≤ z33.toInt ∧ z33.toInt ≤ 1 := rgz33
                replace t36 : Imp (z33.toInt = 1) (0 ≤ p0.toInt ∧ p0.toInt ≤ 23) := t36
                refine lv_if_eq (tgt := 98) hx hb dX12_component_91 (by decide) (fun c37 => ?_) (fun c37 => ?_)
                · skip
                  have f38 : z33.toInt = 0 := b_eq rfl (by decide) c37
                  refine lv_iconst (v := 0) hx hb dX12_component_98 (by decide) ?_
                  refine lv_goto (tgt := 122) hx hb dX12_component_99 (by decide) ?_
                  exact W.iret (v := 0) hx hb hr (fun t ht hW => ⟨⟨0, (V19, L), rfl, ⟨hMV19, agV19, rfl⟩, by rw [ht]; exact hP, va_K.moved hW.alike hK, hD⟩, hS.F ht⟩) hS.2.2 dX12_component_122
                · skip
                  have f39 : z33.toInt ≠ 0 := b_neq rfl (by decide) c37
                  refine lv_iconst (v := 1) hx hb dX12_component_94 (by decide) ?_
                  refine lv_goto (tgt := 122) hx hb dX12_component_95 (by decide) ?_
                  exact W.iret (v := 1) hx hb hr (fun t ht hW => ⟨⟨1, (V19, L), rfl, ⟨hMV19, agV19, rfl⟩, by rw [ht]; exact hP, va_K.moved hW.alike hK, hD⟩, hS.F ht⟩) hS.2.2 dX12_component_122
            · skip
              have f40 : p1.toInt = 1 := b_eq rfl (by decide) c24
              refine lv_aload_n hx hb dX12_component_72 rfl (lv_at hl 1 rfl) ?_
              refine va_get (D := D) (ci := 12) (v := .ref (ad 24)) (C := RX12) (T := TX12) (N := 100) hx hb hg inX12 hown hK hP 0 rfl rfl 24 (by decide) (hg _ w1730) (fun _ h9 => h9) rfl dX12_component_73 ?_
              refine lv_iload_n hx hb dX12_component_76 rfl (lv_at hl 0 rfl) ?_
              refine va_iald (D := D) (i := z21) hx hb hK hP 17 16 rfl rfl (i_in (a := z21.toInt) rfl (by (first | exact om_af63ae00f401 f4 r5.1 r5.2 r6.2 f10 hz20 hz21 | omega))) dX12_component_77 ?_
              refine g_top (v := (V 24 (Int32.toNatClampNeg z21))) (up2_o hV19 (by decide)) ?_
              have r41 : 0 ≤ ((V 24 (Int32.toNatClampNeg z21))).toInt ∧ ((V 24 (Int32.toNatClampNeg z21))).toInt ≤ 9 := hMV 24 (Int32.toNatClampNeg z21)
              refine lv_goto (tgt := 122) hx hb dX12_component_78 (by decide) ?_
              exact W.iret (v := (V 24 (Int32.toNatClampNeg z21))) hx hb hr (fun t ht hW => ⟨⟨(V 24 (Int32.toNatClampNeg z21)), (V19, L), rfl, ⟨hMV19, agV19, rfl⟩, by rw [ht]; exact hP, va_K.moved hW.alike hK, hD⟩, hS.F ht⟩) hS.2.2 dX12_component_122
          · skip
            have f42 : p1.toInt = 0 := b_eq rfl (by decide) c22
            refine lv_aload_n hx hb dX12_component_58 rfl (lv_at hl 1 rfl) ?_
            refine va_get (D := D) (ci := 12) (v := .ref (ad 22)) (C := RX12) (T := TX12) (N := 100) hx hb hg inX12 hown hK hP 0 rfl rfl 22 (by decide) (hg _ w1728) (fun _ h9 => h9) rfl dX12_component_59 ?_
            refine lv_iload_n hx hb dX12_component_62 rfl (lv_at hl 0 rfl) ?_
            refine va_iald (D := D) (i := z21) hx hb hK hP 15 14 rfl rfl (i_in (a := z21.toInt) rfl (by (first | exact om_af63ae00f401 f4 r5.1 r5.2 r6.2 f10 hz20 hz21 | omega))) dX12_component_63 ?_
            refine g_top (v := (V 22 (Int32.toNatClampNeg z21))) (up2_o hV19 (by decide)) ?_
            refine lv_goto (tgt := 122) hx hb dX12_component_64 (by decide) ?_
            exact W.iret (v := (V 22 (Int32.toNatClampNeg z21))) hx hb hr (fun t ht hW => ⟨⟨(V 22 (Int32.toNatClampNeg z21)), (V19, L), rfl, ⟨hMV19, agV19, rfl⟩, by rw [ht]; exact hP, va_K.moved hW.alike hK, hD⟩, hS.F ht⟩) hS.2.2 dX12_component_122
abbrev r_s_count : Room := { frames := 0, cells := 0, slots := 0, locals := 0 }
abbrev q_s_count (D : va_G) (ks : KS) (ad : Nat → Nat) (kk : Nat → ClassId) (V : Vf) (L : Lf) (p0 : Int32) (A : Nat → Prop) : Array Value → State → Outcome → State → Prop := va_Qi (fun (r : Int32) (u : Vf × Lf) => rgd bM u.1 ∧ agr [(0, 0)] [] V u.1 ∧ u.2 = L) (fun u t => gq D A (mw ad kk ks.1 u.1 u.2) (mty kk) t) A
abbrev r_s_notes : Room := { frames := 0, cells := 0, slots := 0, locals := 0 }
abbrev q_s_notes (D : va_G) (ks : KS) (ad : Nat → Nat) (kk : Nat → ClassId) (V : Vf) (L : Lf) (p0 : Int32) (p1 : Int32) (p2 : Int32) (A : Nat → Prop) : Array Value → State → Outcome → State → Prop := va_Qv (fun (u : Vf × Lf) => rgd bM u.1 ∧ agr [(0, 76)] [77, 78, 79] V u.1 ∧ u.2 = L ∧ ((u.1 0 76).toInt = (V 0 76).toInt + 1)) (fun u t => gq D A (mw ad kk ks.1 u.1 u.2) (mty kk) t) A
end
section
theorem w1709 : Cond.fieldLink RX12 251 "WiringHouseModel" "size" "I" ∈ GW := gw_k tk9_7 114 (by decide +kernel) rfl
theorem w1707 : Cond.fieldLink RX12 14 "WiringHouseModel" "tape" "[I" ∈ GW := gw_k tk9_7 112 (by decide +kernel) rfl
theorem w1699 : Cond.constantLong RX12 238 37 ∈ GW := gw_k tk9_7 104 (by decide +kernel) rfl
theorem w1702 : Cond.code yX12_rank cX12_rank 1 (some .int) ∈ GW := gw_k tk9_7 107 (rfl) rfl
theorem w1700 : Cond.methodLink RX12 240 yX12_rank ∈ GW := gw_k tk9_7 105 (by decide +kernel) rfl
theorem w1701 : Cond.static yX12_rank ∈ GW := gw_k tk9_7 106 (by decide +kernel) rfl
theorem hdS_yX12_rank : yX12_rank.cls ≠ "java/lang/invoke/MethodHandle" ∧ yX12_rank.cls ≠ "java/lang/invoke/VarHandle" ∧ (parseMethodDescriptor yX12_rank.desc).map (fun d => d.parameters.length) = some 1 := by decide +kernel
theorem w2017 : Cond.code yX12_isDigit cX12_isDigit 1 (some .boolean) ∈ GW := gw_k tk9_8 182 (rfl) rfl
theorem w2015 : Cond.methodLink RX12 254 yX12_isDigit ∈ GW := gw_k tk9_8 180 (by decide +kernel) rfl
theorem w2016 : Cond.static yX12_isDigit ∈ GW := gw_k tk9_8 181 (by decide +kernel) rfl
theorem hdS_yX12_isDigit : yX12_isDigit.cls ≠ "java/lang/invoke/MethodHandle" ∧ yX12_isDigit.cls ≠ "java/lang/invoke/VarHandle" ∧ (parseMethodDescriptor yX12_isDigit.desc).map (fun d => d.parameters.length) = some 1 := by decide +kernel
theorem w2022 : Cond.code yX12_isSignOf cX12_isSignOf 1 (some .boolean) ∈ GW := gw_k tk9_8 187 (rfl) rfl
theorem w2020 : Cond.methodLink RX12 261 yX12_isSignOf ∈ GW := gw_k tk9_8 185 (by decide +kernel) rfl
theorem w2021 : Cond.static yX12_isSignOf ∈ GW := gw_k tk9_8 186 (by decide +kernel) rfl
theorem hdS_yX12_isSignOf : yX12_isSignOf.cls ≠ "java/lang/invoke/MethodHandle" ∧ yX12_isSignOf.cls ≠ "java/lang/invoke/VarHandle" ∧ (parseMethodDescriptor yX12_isSignOf.desc).map (fun d => d.parameters.length) = some 1 := by decide +kernel
theorem w2018 : Cond.constantLong RX12 257 10 ∈ GW := gw_k tk9_8 183 (by decide +kernel) rfl
theorem w2019 : Cond.constantLong RX12 259 48 ∈ GW := gw_k tk9_8 184 (by decide +kernel) rfl
theorem dk9_dX12_cutAll_0_0 : dOk cX12_cutAll [(0, .aload_n 0, 1), (1, .aload_n 0, 1), (2, .getfield 11, 3), (5, .putfield 251, 3), (8, .aload_n 0, 1), (9, .iconst 0, 1), (10, .putfield 11, 3), (13, .iconst 0, 1), (14, .istore_n 1, 1), (15, .iconst 0, 1), (16, .istore_n 2, 1), (17, .iload_n 2, 1), (18, .aload_n 0, 1), (19, .getfield 251, 3), (22, .if_icmp .ge 271, 3), (25, .aload_n 0, 1), (26, .getfield 14, 3), (29, .iload_n 2, 1), (30, .iaload, 1), (31, .istore_n 3, 1), (32, .iload_n 3, 1), (33, .bipush 10, 2), (35, .if_icmp .eq 9, 3), (44, .iinc 2 1, 3)] = true ∧ dOk cX12_cutAll [(47, .goto (-30), 3), (38, .iload_n 3, 1), (39, .bipush 32, 2), (41, .if_icmp .ne 9, 3), (50, .iload_n 2, 1), (51, .istore 4, 2), (53, .lconst 0, 1), (54, .lstore 5, 2), (56, .aload_n 0, 1), (57, .getfield 27, 3), (60, .iload_n 1, 1), (61, .iload_n 2, 1), (62, .iastore, 1), (63, .iload_n 3, 1), (64, .invokestatic 247, 3), (67, .ifCond .eq 97, 3), (70, .iload_n 2, 1), (71, .aload_n 0, 1), (72, .getfield 251, 3), (75, .if_icmp .ge 66, 3), (78, .aload_n 0, 1), (79, .getfield 14, 3), (82, .iload_n 2, 1), (83, .iaload, 1)] = true ∧ dOk cX12_cutAll [(84, .invokestatic 247, 3), (87, .ifCond .ne 15, 3), (102, .iload_n 2, 1), (103, .iload 4, 2), (105, .isub, 1), (106, .bipush 12, 2), (108, .if_icmp .ge 23, 3), (131, .lload 5, 2), (133, .lstore 5, 2), (135, .iinc 2 1, 3), (138, .goto (-68), 3), (111, .ldc2_w 238, 3), (114, .lload 5, 2), (116, .lmul, 1), (117, .aload_n 0, 1), (118, .getfield 14, 3), (121, .iload_n 2, 1), (122, .iaload, 1), (123, .invokestatic 240, 3), (126, .i2l, 1), (127, .ladd, 1), (128, .goto 5, 3), (90, .aload_n 0, 1), (91, .getfield 14, 3)] = true ∧ dOk cX12_cutAll [(94, .iload_n 2, 1), (95, .iaload, 1), (96, .invokestatic 254, 3), (99, .ifCond .eq 42, 3), (141, .aload_n 0, 1), (142, .getfield 24, 3), (145, .iload_n 1, 1), (146, .iload_n 2, 1), (147, .iload 4, 2), (149, .isub, 1), (150, .bipush 12, 2), (152, .if_icmp .le 7, 3), (155, .iconst 4, 1), (156, .goto 4, 3), (159, .iconst 1, 1), (160, .iastore, 1), (161, .goto 118, 3), (164, .iload_n 3, 1), (165, .invokestatic 254, 3), (168, .ifCond .eq 86, 3), (254, .iload_n 3, 1), (255, .i2l, 1), (256, .lstore 5, 2), (258, .aload_n 0, 1)] = true ∧ dOk cX12_cutAll [(259, .getfield 24, 3), (262, .iload_n 1, 1), (263, .iload_n 3, 1), (264, .invokestatic 261, 3), (267, .ifCond .eq 7, 3), (270, .iconst 3, 1), (271, .goto 4, 3), (274, .iconst 4, 1), (275, .iastore, 1), (276, .iinc 2 1, 3), (171, .iload_n 2, 1), (172, .aload_n 0, 1), (173, .getfield 251, 3), (176, .if_icmp .ge 55, 3), (179, .aload_n 0, 1), (180, .getfield 14, 3), (183, .iload_n 2, 1), (184, .iaload, 1), (185, .invokestatic 254, 3), (188, .ifCond .eq 43, 3), (191, .iload_n 2, 1), (192, .iload 4, 2), (194, .isub, 1), (195, .bipush 9, 2)] = true ∧ dOk cX12_cutAll [(197, .if_icmp .ge 24, 3), (221, .lload 5, 2), (223, .lstore 5, 2), (225, .iinc 2 1, 3), (228, .goto (-57), 3), (200, .ldc2_w 257, 3), (203, .lload 5, 2), (205, .lmul, 1), (206, .aload_n 0, 1), (207, .getfield 14, 3), (210, .iload_n 2, 1), (211, .iaload, 1), (212, .i2l, 1), (213, .ladd, 1), (214, .ldc2_w 259, 3), (217, .lsub, 1), (218, .goto 5, 3), (231, .aload_n 0, 1), (232, .getfield 24, 3), (235, .iload_n 1, 1), (236, .iload_n 2, 1), (237, .iload 4, 2), (239, .isub, 1), (240, .bipush 9, 2)] = true ∧ dOk cX12_cutAll [(242, .if_icmp .le 7, 3), (245, .iconst 4, 1), (246, .goto 4, 3), (249, .iconst 2, 1), (250, .iastore, 1), (251, .goto 28, 3), (279, .aload_n 0, 1), (280, .getfield 30, 3), (283, .iload_n 1, 1), (284, .lload 5, 2), (286, .lastore, 1), (287, .iinc 1 1, 3), (290, .goto (-273), 3), (293, .aload_n 0, 1), (294, .getfield 24, 3), (297, .iload_n 1, 1), (298, .iconst 0, 1), (299, .iastore, 1), (300, .aload_n 0, 1), (301, .getfield 27, 3), (304, .iload_n 1, 1), (305, .aload_n 0, 1), (306, .getfield 251, 3), (309, .iastore, 1)] = true ∧ dOk cX12_cutAll [(310, .aload_n 0, 1), (311, .iconst 0, 1), (312, .putfield 264, 3), (315, .aload_n 0, 1), (316, .iconst 0, 1), (317, .putfield 267, 3), (320, .return_, 1)] = true := by decide +kernel
theorem dX12_cutAll_0 : decode cX12_cutAll 0 = .ok (.aload_n 0, 1) := dr9 dk9_dX12_cutAll_0_0.1 0 (0, .aload_n 0, 1) rfl
theorem dX12_cutAll_1 : decode cX12_cutAll 1 = .ok (.aload_n 0, 1) := dr9 dk9_dX12_cutAll_0_0.1 1 (1, .aload_n 0, 1) rfl
theorem dX12_cutAll_2 : decode cX12_cutAll 2 = .ok (.getfield 11, 3) := dr9 dk9_dX12_cutAll_0_0.1 2 (2, .getfield 11, 3) rfl
theorem dX12_cutAll_5 : decode cX12_cutAll 5 = .ok (.putfield 251, 3) := dr9 dk9_dX12_cutAll_0_0.1 3 (5, .putfield 251, 3) rfl
theorem dX12_cutAll_8 : decode cX12_cutAll 8 = .ok (.aload_n 0, 1) := dr9 dk9_dX12_cutAll_0_0.1 4 (8, .aload_n 0, 1) rfl
theorem dX12_cutAll_9 : decode cX12_cutAll 9 = .ok (.iconst 0, 1) := dr9 dk9_dX12_cutAll_0_0.1 5 (9, .iconst 0, 1) rfl
theorem dX12_cutAll_10 : decode cX12_cutAll 10 = .ok (.putfield 11, 3) := dr9 dk9_dX12_cutAll_0_0.1 6 (10, .putfield 11, 3) rfl
theorem dX12_cutAll_13 : decode cX12_cutAll 13 = .ok (.iconst 0, 1) := dr9 dk9_dX12_cutAll_0_0.1 7 (13, .iconst 0, 1) rfl
theorem dX12_cutAll_14 : decode cX12_cutAll 14 = .ok (.istore_n 1, 1) := dr9 dk9_dX12_cutAll_0_0.1 8 (14, .istore_n 1, 1) rfl
theorem dX12_cutAll_15 : decode cX12_cutAll 15 = .ok (.iconst 0, 1) := dr9 dk9_dX12_cutAll_0_0.1 9 (15, .iconst 0, 1) rfl
theorem dX12_cutAll_16 : decode cX12_cutAll 16 = .ok (.istore_n 2, 1) := dr9 dk9_dX12_cutAll_0_0.1 10 (16, .istore_n 2, 1) rfl
theorem dX12_cutAll_17 : decode cX12_cutAll 17 = .ok (.iload_n 2, 1) := dr9 dk9_dX12_cutAll_0_0.1 11 (17, .iload_n 2, 1) rfl
theorem dX12_cutAll_18 : decode cX12_cutAll 18 = .ok (.aload_n 0, 1) := dr9 dk9_dX12_cutAll_0_0.1 12 (18, .aload_n 0, 1) rfl
theorem dX12_cutAll_19 : decode cX12_cutAll 19 = .ok (.getfield 251, 3) := dr9 dk9_dX12_cutAll_0_0.1 13 (19, .getfield 251, 3) rfl
theorem dX12_cutAll_22 : decode cX12_cutAll 22 = .ok (.if_icmp .ge 271, 3) := dr9 dk9_dX12_cutAll_0_0.1 14 (22, .if_icmp .ge 271, 3) rfl
theorem dX12_cutAll_25 : decode cX12_cutAll 25 = .ok (.aload_n 0, 1) := dr9 dk9_dX12_cutAll_0_0.1 15 (25, .aload_n 0, 1) rfl
theorem dX12_cutAll_26 : decode cX12_cutAll 26 = .ok (.getfield 14, 3) := dr9 dk9_dX12_cutAll_0_0.1 16 (26, .getfield 14, 3) rfl
theorem dX12_cutAll_29 : decode cX12_cutAll 29 = .ok (.iload_n 2, 1) := dr9 dk9_dX12_cutAll_0_0.1 17 (29, .iload_n 2, 1) rfl
theorem dX12_cutAll_30 : decode cX12_cutAll 30 = .ok (.iaload, 1) := dr9 dk9_dX12_cutAll_0_0.1 18 (30, .iaload, 1) rfl
theorem dX12_cutAll_31 : decode cX12_cutAll 31 = .ok (.istore_n 3, 1) := dr9 dk9_dX12_cutAll_0_0.1 19 (31, .istore_n 3, 1) rfl
theorem dX12_cutAll_32 : decode cX12_cutAll 32 = .ok (.iload_n 3, 1) := dr9 dk9_dX12_cutAll_0_0.1 20 (32, .iload_n 3, 1) rfl
theorem dX12_cutAll_33 : decode cX12_cutAll 33 = .ok (.bipush 10, 2) := dr9 dk9_dX12_cutAll_0_0.1 21 (33, .bipush 10, 2) rfl
theorem dX12_cutAll_35 : decode cX12_cutAll 35 = .ok (.if_icmp .eq 9, 3) := dr9 dk9_dX12_cutAll_0_0.1 22 (35, .if_icmp .eq 9, 3) rfl
theorem dX12_cutAll_44 : decode cX12_cutAll 44 = .ok (.iinc 2 1, 3) := dr9 dk9_dX12_cutAll_0_0.1 23 (44, .iinc 2 1, 3) rfl
theorem dX12_cutAll_47 : decode cX12_cutAll 47 = .ok (.goto (-30), 3) := dr9 dk9_dX12_cutAll_0_0.2.1 0 (47, .goto (-30), 3) rfl
theorem dX12_cutAll_38 : decode cX12_cutAll 38 = .ok (.iload_n 3, 1) := dr9 dk9_dX12_cutAll_0_0.2.1 1 (38, .iload_n 3, 1) rfl
theorem dX12_cutAll_39 : decode cX12_cutAll 39 = .ok (.bipush 32, 2) := dr9 dk9_dX12_cutAll_0_0.2.1 2 (39, .bipush 32, 2) rfl
theorem dX12_cutAll_41 : decode cX12_cutAll 41 = .ok (.if_icmp .ne 9, 3) := dr9 dk9_dX12_cutAll_0_0.2.1 3 (41, .if_icmp .ne 9, 3) rfl
theorem dX12_cutAll_50 : decode cX12_cutAll 50 = .ok (.iload_n 2, 1) := dr9 dk9_dX12_cutAll_0_0.2.1 4 (50, .iload_n 2, 1) rfl
theorem dX12_cutAll_51 : decode cX12_cutAll 51 = .ok (.istore 4, 2) := dr9 dk9_dX12_cutAll_0_0.2.1 5 (51, .istore 4, 2) rfl
theorem dX12_cutAll_53 : decode cX12_cutAll 53 = .ok (.lconst 0, 1) := dr9 dk9_dX12_cutAll_0_0.2.1 6 (53, .lconst 0, 1) rfl
theorem dX12_cutAll_54 : decode cX12_cutAll 54 = .ok (.lstore 5, 2) := dr9 dk9_dX12_cutAll_0_0.2.1 7 (54, .lstore 5, 2) rfl
theorem dX12_cutAll_56 : decode cX12_cutAll 56 = .ok (.aload_n 0, 1) := dr9 dk9_dX12_cutAll_0_0.2.1 8 (56, .aload_n 0, 1) rfl
theorem dX12_cutAll_57 : decode cX12_cutAll 57 = .ok (.getfield 27, 3) := dr9 dk9_dX12_cutAll_0_0.2.1 9 (57, .getfield 27, 3) rfl
theorem dX12_cutAll_60 : decode cX12_cutAll 60 = .ok (.iload_n 1, 1) := dr9 dk9_dX12_cutAll_0_0.2.1 10 (60, .iload_n 1, 1) rfl
theorem dX12_cutAll_61 : decode cX12_cutAll 61 = .ok (.iload_n 2, 1) := dr9 dk9_dX12_cutAll_0_0.2.1 11 (61, .iload_n 2, 1) rfl
theorem dX12_cutAll_62 : decode cX12_cutAll 62 = .ok (.iastore, 1) := dr9 dk9_dX12_cutAll_0_0.2.1 12 (62, .iastore, 1) rfl
theorem dX12_cutAll_63 : decode cX12_cutAll 63 = .ok (.iload_n 3, 1) := dr9 dk9_dX12_cutAll_0_0.2.1 13 (63, .iload_n 3, 1) rfl
theorem dX12_cutAll_64 : decode cX12_cutAll 64 = .ok (.invokestatic 247, 3) := dr9 dk9_dX12_cutAll_0_0.2.1 14 (64, .invokestatic 247, 3) rfl
theorem dX12_cutAll_67 : decode cX12_cutAll 67 = .ok (.ifCond .eq 97, 3) := dr9 dk9_dX12_cutAll_0_0.2.1 15 (67, .ifCond .eq 97, 3) rfl
theorem dX12_cutAll_70 : decode cX12_cutAll 70 = .ok (.iload_n 2, 1) := dr9 dk9_dX12_cutAll_0_0.2.1 16 (70, .iload_n 2, 1) rfl
theorem dX12_cutAll_71 : decode cX12_cutAll 71 = .ok (.aload_n 0, 1) := dr9 dk9_dX12_cutAll_0_0.2.1 17 (71, .aload_n 0, 1) rfl
theorem dX12_cutAll_72 : decode cX12_cutAll 72 = .ok (.getfield 251, 3) := dr9 dk9_dX12_cutAll_0_0.2.1 18 (72, .getfield 251, 3) rfl
theorem dX12_cutAll_75 : decode cX12_cutAll 75 = .ok (.if_icmp .ge 66, 3) := dr9 dk9_dX12_cutAll_0_0.2.1 19 (75, .if_icmp .ge 66, 3) rfl
theorem dX12_cutAll_78 : decode cX12_cutAll 78 = .ok (.aload_n 0, 1) := dr9 dk9_dX12_cutAll_0_0.2.1 20 (78, .aload_n 0, 1) rfl
theorem dX12_cutAll_79 : decode cX12_cutAll 79 = .ok (.getfield 14, 3) := dr9 dk9_dX12_cutAll_0_0.2.1 21 (79, .getfield 14, 3) rfl
theorem dX12_cutAll_82 : decode cX12_cutAll 82 = .ok (.iload_n 2, 1) := dr9 dk9_dX12_cutAll_0_0.2.1 22 (82, .iload_n 2, 1) rfl
theorem dX12_cutAll_83 : decode cX12_cutAll 83 = .ok (.iaload, 1) := dr9 dk9_dX12_cutAll_0_0.2.1 23 (83, .iaload, 1) rfl
theorem dX12_cutAll_84 : decode cX12_cutAll 84 = .ok (.invokestatic 247, 3) := dr9 dk9_dX12_cutAll_0_0.2.2.1 0 (84, .invokestatic 247, 3) rfl
theorem dX12_cutAll_87 : decode cX12_cutAll 87 = .ok (.ifCond .ne 15, 3) := dr9 dk9_dX12_cutAll_0_0.2.2.1 1 (87, .ifCond .ne 15, 3) rfl
theorem dX12_cutAll_102 : decode cX12_cutAll 102 = .ok (.iload_n 2, 1) := dr9 dk9_dX12_cutAll_0_0.2.2.1 2 (102, .iload_n 2, 1) rfl
theorem dX12_cutAll_103 : decode cX12_cutAll 103 = .ok (.iload 4, 2) := dr9 dk9_dX12_cutAll_0_0.2.2.1 3 (103, .iload 4, 2) rfl
theorem dX12_cutAll_105 : decode cX12_cutAll 105 = .ok (.isub, 1) := dr9 dk9_dX12_cutAll_0_0.2.2.1 4 (105, .isub, 1) rfl
theorem dX12_cutAll_106 : decode cX12_cutAll 106 = .ok (.bipush 12, 2) := dr9 dk9_dX12_cutAll_0_0.2.2.1 5 (106, .bipush 12, 2) rfl
theorem dX12_cutAll_108 : decode cX12_cutAll 108 = .ok (.if_icmp .ge 23, 3) := dr9 dk9_dX12_cutAll_0_0.2.2.1 6 (108, .if_icmp .ge 23, 3) rfl
theorem dX12_cutAll_131 : decode cX12_cutAll 131 = .ok (.lload 5, 2) := dr9 dk9_dX12_cutAll_0_0.2.2.1 7 (131, .lload 5, 2) rfl
theorem dX12_cutAll_133 : decode cX12_cutAll 133 = .ok (.lstore 5, 2) := dr9 dk9_dX12_cutAll_0_0.2.2.1 8 (133, .lstore 5, 2) rfl
theorem dX12_cutAll_135 : decode cX12_cutAll 135 = .ok (.iinc 2 1, 3) := dr9 dk9_dX12_cutAll_0_0.2.2.1 9 (135, .iinc 2 1, 3) rfl
theorem dX12_cutAll_138 : decode cX12_cutAll 138 = .ok (.goto (-68), 3) := dr9 dk9_dX12_cutAll_0_0.2.2.1 10 (138, .goto (-68), 3) rfl
theorem dX12_cutAll_111 : decode cX12_cutAll 111 = .ok (.ldc2_w 238, 3) := dr9 dk9_dX12_cutAll_0_0.2.2.1 11 (111, .ldc2_w 238, 3) rfl
theorem dX12_cutAll_114 : decode cX12_cutAll 114 = .ok (.lload 5, 2) := dr9 dk9_dX12_cutAll_0_0.2.2.1 12 (114, .lload 5, 2) rfl
theorem dX12_cutAll_116 : decode cX12_cutAll 116 = .ok (.lmul, 1) := dr9 dk9_dX12_cutAll_0_0.2.2.1 13 (116, .lmul, 1) rfl
theorem dX12_cutAll_117 : decode cX12_cutAll 117 = .ok (.aload_n 0, 1) := dr9 dk9_dX12_cutAll_0_0.2.2.1 14 (117, .aload_n 0, 1) rfl
theorem dX12_cutAll_118 : decode cX12_cutAll 118 = .ok (.getfield 14, 3) := dr9 dk9_dX12_cutAll_0_0.2.2.1 15 (118, .getfield 14, 3) rfl
theorem dX12_cutAll_121 : decode cX12_cutAll 121 = .ok (.iload_n 2, 1) := dr9 dk9_dX12_cutAll_0_0.2.2.1 16 (121, .iload_n 2, 1) rfl
theorem dX12_cutAll_122 : decode cX12_cutAll 122 = .ok (.iaload, 1) := dr9 dk9_dX12_cutAll_0_0.2.2.1 17 (122, .iaload, 1) rfl
theorem dX12_cutAll_123 : decode cX12_cutAll 123 = .ok (.invokestatic 240, 3) := dr9 dk9_dX12_cutAll_0_0.2.2.1 18 (123, .invokestatic 240, 3) rfl
theorem dX12_cutAll_126 : decode cX12_cutAll 126 = .ok (.i2l, 1) := dr9 dk9_dX12_cutAll_0_0.2.2.1 19 (126, .i2l, 1) rfl
theorem dX12_cutAll_127 : decode cX12_cutAll 127 = .ok (.ladd, 1) := dr9 dk9_dX12_cutAll_0_0.2.2.1 20 (127, .ladd, 1) rfl
theorem dX12_cutAll_128 : decode cX12_cutAll 128 = .ok (.goto 5, 3) := dr9 dk9_dX12_cutAll_0_0.2.2.1 21 (128, .goto 5, 3) rfl
theorem dX12_cutAll_90 : decode cX12_cutAll 90 = .ok (.aload_n 0, 1) := dr9 dk9_dX12_cutAll_0_0.2.2.1 22 (90, .aload_n 0, 1) rfl
theorem dX12_cutAll_91 : decode cX12_cutAll 91 = .ok (.getfield 14, 3) := dr9 dk9_dX12_cutAll_0_0.2.2.1 23 (91, .getfield 14, 3) rfl
theorem dX12_cutAll_94 : decode cX12_cutAll 94 = .ok (.iload_n 2, 1) := dr9 dk9_dX12_cutAll_0_0.2.2.2.1 0 (94, .iload_n 2, 1) rfl
theorem dX12_cutAll_95 : decode cX12_cutAll 95 = .ok (.iaload, 1) := dr9 dk9_dX12_cutAll_0_0.2.2.2.1 1 (95, .iaload, 1) rfl
theorem dX12_cutAll_96 : decode cX12_cutAll 96 = .ok (.invokestatic 254, 3) := dr9 dk9_dX12_cutAll_0_0.2.2.2.1 2 (96, .invokestatic 254, 3) rfl
theorem dX12_cutAll_99 : decode cX12_cutAll 99 = .ok (.ifCond .eq 42, 3) := dr9 dk9_dX12_cutAll_0_0.2.2.2.1 3 (99, .ifCond .eq 42, 3) rfl
theorem dX12_cutAll_141 : decode cX12_cutAll 141 = .ok (.aload_n 0, 1) := dr9 dk9_dX12_cutAll_0_0.2.2.2.1 4 (141, .aload_n 0, 1) rfl
theorem dX12_cutAll_142 : decode cX12_cutAll 142 = .ok (.getfield 24, 3) := dr9 dk9_dX12_cutAll_0_0.2.2.2.1 5 (142, .getfield 24, 3) rfl
theorem dX12_cutAll_145 : decode cX12_cutAll 145 = .ok (.iload_n 1, 1) := dr9 dk9_dX12_cutAll_0_0.2.2.2.1 6 (145, .iload_n 1, 1) rfl
theorem dX12_cutAll_146 : decode cX12_cutAll 146 = .ok (.iload_n 2, 1) := dr9 dk9_dX12_cutAll_0_0.2.2.2.1 7 (146, .iload_n 2, 1) rfl
theorem dX12_cutAll_147 : decode cX12_cutAll 147 = .ok (.iload 4, 2) := dr9 dk9_dX12_cutAll_0_0.2.2.2.1 8 (147, .iload 4, 2) rfl
theorem dX12_cutAll_149 : decode cX12_cutAll 149 = .ok (.isub, 1) := dr9 dk9_dX12_cutAll_0_0.2.2.2.1 9 (149, .isub, 1) rfl
theorem dX12_cutAll_150 : decode cX12_cutAll 150 = .ok (.bipush 12, 2) := dr9 dk9_dX12_cutAll_0_0.2.2.2.1 10 (150, .bipush 12, 2) rfl
theorem dX12_cutAll_152 : decode cX12_cutAll 152 = .ok (.if_icmp .le 7, 3) := dr9 dk9_dX12_cutAll_0_0.2.2.2.1 11 (152, .if_icmp .le 7, 3) rfl
theorem dX12_cutAll_155 : decode cX12_cutAll 155 = .ok (.iconst 4, 1) := dr9 dk9_dX12_cutAll_0_0.2.2.2.1 12 (155, .iconst 4, 1) rfl
theorem dX12_cutAll_156 : decode cX12_cutAll 156 = .ok (.goto 4, 3) := dr9 dk9_dX12_cutAll_0_0.2.2.2.1 13 (156, .goto 4, 3) rfl
theorem dX12_cutAll_159 : decode cX12_cutAll 159 = .ok (.iconst 1, 1) := dr9 dk9_dX12_cutAll_0_0.2.2.2.1 14 (159, .iconst 1, 1) rfl
theorem dX12_cutAll_160 : decode cX12_cutAll 160 = .ok (.iastore, 1) := dr9 dk9_dX12_cutAll_0_0.2.2.2.1 15 (160, .iastore, 1) rfl
theorem dX12_cutAll_161 : decode cX12_cutAll 161 = .ok (.goto 118, 3) := dr9 dk9_dX12_cutAll_0_0.2.2.2.1 16 (161, .goto 118, 3) rfl
theorem dX12_cutAll_164 : decode cX12_cutAll 164 = .ok (.iload_n 3, 1) := dr9 dk9_dX12_cutAll_0_0.2.2.2.1 17 (164, .iload_n 3, 1) rfl
theorem dX12_cutAll_165 : decode cX12_cutAll 165 = .ok (.invokestatic 254, 3) := dr9 dk9_dX12_cutAll_0_0.2.2.2.1 18 (165, .invokestatic 254, 3) rfl
theorem dX12_cutAll_168 : decode cX12_cutAll 168 = .ok (.ifCond .eq 86, 3) := dr9 dk9_dX12_cutAll_0_0.2.2.2.1 19 (168, .ifCond .eq 86, 3) rfl
theorem dX12_cutAll_254 : decode cX12_cutAll 254 = .ok (.iload_n 3, 1) := dr9 dk9_dX12_cutAll_0_0.2.2.2.1 20 (254, .iload_n 3, 1) rfl
theorem dX12_cutAll_255 : decode cX12_cutAll 255 = .ok (.i2l, 1) := dr9 dk9_dX12_cutAll_0_0.2.2.2.1 21 (255, .i2l, 1) rfl
theorem dX12_cutAll_256 : decode cX12_cutAll 256 = .ok (.lstore 5, 2) := dr9 dk9_dX12_cutAll_0_0.2.2.2.1 22 (256, .lstore 5, 2) rfl
theorem dX12_cutAll_258 : decode cX12_cutAll 258 = .ok (.aload_n 0, 1) := dr9 dk9_dX12_cutAll_0_0.2.2.2.1 23 (258, .aload_n 0, 1) rfl
theorem dX12_cutAll_259 : decode cX12_cutAll 259 = .ok (.getfield 24, 3) := dr9 dk9_dX12_cutAll_0_0.2.2.2.2.1 0 (259, .getfield 24, 3) rfl
theorem dX12_cutAll_262 : decode cX12_cutAll 262 = .ok (.iload_n 1, 1) := dr9 dk9_dX12_cutAll_0_0.2.2.2.2.1 1 (262, .iload_n 1, 1) rfl
theorem dX12_cutAll_263 : decode cX12_cutAll 263 = .ok (.iload_n 3, 1) := dr9 dk9_dX12_cutAll_0_0.2.2.2.2.1 2 (263, .iload_n 3, 1) rfl
theorem dX12_cutAll_264 : decode cX12_cutAll 264 = .ok (.invokestatic 261, 3) := dr9 dk9_dX12_cutAll_0_0.2.2.2.2.1 3 (264, .invokestatic 261, 3) rfl
theorem dX12_cutAll_267 : decode cX12_cutAll 267 = .ok (.ifCond .eq 7, 3) := dr9 dk9_dX12_cutAll_0_0.2.2.2.2.1 4 (267, .ifCond .eq 7, 3) rfl
theorem dX12_cutAll_270 : decode cX12_cutAll 270 = .ok (.iconst 3, 1) := dr9 dk9_dX12_cutAll_0_0.2.2.2.2.1 5 (270, .iconst 3, 1) rfl
theorem dX12_cutAll_271 : decode cX12_cutAll 271 = .ok (.goto 4, 3) := dr9 dk9_dX12_cutAll_0_0.2.2.2.2.1 6 (271, .goto 4, 3) rfl
theorem dX12_cutAll_274 : decode cX12_cutAll 274 = .ok (.iconst 4, 1) := dr9 dk9_dX12_cutAll_0_0.2.2.2.2.1 7 (274, .iconst 4, 1) rfl
theorem dX12_cutAll_275 : decode cX12_cutAll 275 = .ok (.iastore, 1) := dr9 dk9_dX12_cutAll_0_0.2.2.2.2.1 8 (275, .iastore, 1) rfl
theorem dX12_cutAll_276 : decode cX12_cutAll 276 = .ok (.iinc 2 1, 3) := dr9 dk9_dX12_cutAll_0_0.2.2.2.2.1 9 (276, .iinc 2 1, 3) rfl
theorem dX12_cutAll_171 : decode cX12_cutAll 171 = .ok (.iload_n 2, 1) := dr9 dk9_dX12_cutAll_0_0.2.2.2.2.1 10 (171, .iload_n 2, 1) rfl
theorem dX12_cutAll_172 : decode cX12_cutAll 172 = .ok (.aload_n 0, 1) := dr9 dk9_dX12_cutAll_0_0.2.2.2.2.1 11 (172, .aload_n 0, 1) rfl
theorem dX12_cutAll_173 : decode cX12_cutAll 173 = .ok (.getfield 251, 3) := dr9 dk9_dX12_cutAll_0_0.2.2.2.2.1 12 (173, .getfield 251, 3) rfl
theorem dX12_cutAll_176 : decode cX12_cutAll 176 = .ok (.if_icmp .ge 55, 3) := dr9 dk9_dX12_cutAll_0_0.2.2.2.2.1 13 (176, .if_icmp .ge 55, 3) rfl
theorem dX12_cutAll_179 : decode cX12_cutAll 179 = .ok (.aload_n 0, 1) := dr9 dk9_dX12_cutAll_0_0.2.2.2.2.1 14 (179, .aload_n 0, 1) rfl
theorem dX12_cutAll_180 : decode cX12_cutAll 180 = .ok (.getfield 14, 3) := dr9 dk9_dX12_cutAll_0_0.2.2.2.2.1 15 (180, .getfield 14, 3) rfl
theorem dX12_cutAll_183 : decode cX12_cutAll 183 = .ok (.iload_n 2, 1) := dr9 dk9_dX12_cutAll_0_0.2.2.2.2.1 16 (183, .iload_n 2, 1) rfl
theorem dX12_cutAll_184 : decode cX12_cutAll 184 = .ok (.iaload, 1) := dr9 dk9_dX12_cutAll_0_0.2.2.2.2.1 17 (184, .iaload, 1) rfl
theorem dX12_cutAll_185 : decode cX12_cutAll 185 = .ok (.invokestatic 254, 3) := dr9 dk9_dX12_cutAll_0_0.2.2.2.2.1 18 (185, .invokestatic 254, 3) rfl
theorem dX12_cutAll_188 : decode cX12_cutAll 188 = .ok (.ifCond .eq 43, 3) := dr9 dk9_dX12_cutAll_0_0.2.2.2.2.1 19 (188, .ifCond .eq 43, 3) rfl
theorem dX12_cutAll_191 : decode cX12_cutAll 191 = .ok (.iload_n 2, 1) := dr9 dk9_dX12_cutAll_0_0.2.2.2.2.1 20 (191, .iload_n 2, 1) rfl
theorem dX12_cutAll_192 : decode cX12_cutAll 192 = .ok (.iload 4, 2) := dr9 dk9_dX12_cutAll_0_0.2.2.2.2.1 21 (192, .iload 4, 2) rfl
theorem dX12_cutAll_194 : decode cX12_cutAll 194 = .ok (.isub, 1) := dr9 dk9_dX12_cutAll_0_0.2.2.2.2.1 22 (194, .isub, 1) rfl
theorem dX12_cutAll_195 : decode cX12_cutAll 195 = .ok (.bipush 9, 2) := dr9 dk9_dX12_cutAll_0_0.2.2.2.2.1 23 (195, .bipush 9, 2) rfl
theorem dX12_cutAll_197 : decode cX12_cutAll 197 = .ok (.if_icmp .ge 24, 3) := dr9 dk9_dX12_cutAll_0_0.2.2.2.2.2.1 0 (197, .if_icmp .ge 24, 3) rfl
theorem dX12_cutAll_221 : decode cX12_cutAll 221 = .ok (.lload 5, 2) := dr9 dk9_dX12_cutAll_0_0.2.2.2.2.2.1 1 (221, .lload 5, 2) rfl
theorem dX12_cutAll_223 : decode cX12_cutAll 223 = .ok (.lstore 5, 2) := dr9 dk9_dX12_cutAll_0_0.2.2.2.2.2.1 2 (223, .lstore 5, 2) rfl
theorem dX12_cutAll_225 : decode cX12_cutAll 225 = .ok (.iinc 2 1, 3) := dr9 dk9_dX12_cutAll_0_0.2.2.2.2.2.1 3 (225, .iinc 2 1, 3) rfl
theorem dX12_cutAll_228 : decode cX12_cutAll 228 = .ok (.goto (-57), 3) := dr9 dk9_dX12_cutAll_0_0.2.2.2.2.2.1 4 (228, .goto (-57), 3) rfl
theorem dX12_cutAll_200 : decode cX12_cutAll 200 = .ok (.ldc2_w 257, 3) := dr9 dk9_dX12_cutAll_0_0.2.2.2.2.2.1 5 (200, .ldc2_w 257, 3) rfl
theorem dX12_cutAll_203 : decode cX12_cutAll 203 = .ok (.lload 5, 2) := dr9 dk9_dX12_cutAll_0_0.2.2.2.2.2.1 6 (203, .lload 5, 2) rfl
theorem dX12_cutAll_205 : decode cX12_cutAll 205 = .ok (.lmul, 1) := dr9 dk9_dX12_cutAll_0_0.2.2.2.2.2.1 7 (205, .lmul, 1) rfl
theorem dX12_cutAll_206 : decode cX12_cutAll 206 = .ok (.aload_n 0, 1) := dr9 dk9_dX12_cutAll_0_0.2.2.2.2.2.1 8 (206, .aload_n 0, 1) rfl
theorem dX12_cutAll_207 : decode cX12_cutAll 207 = .ok (.getfield 14, 3) := dr9 dk9_dX12_cutAll_0_0.2.2.2.2.2.1 9 (207, .getfield 14, 3) rfl
theorem dX12_cutAll_210 : decode cX12_cutAll 210 = .ok (.iload_n 2, 1) := dr9 dk9_dX12_cutAll_0_0.2.2.2.2.2.1 10 (210, .iload_n 2, 1) rfl
theorem dX12_cutAll_211 : decode cX12_cutAll 211 = .ok (.iaload, 1) := dr9 dk9_dX12_cutAll_0_0.2.2.2.2.2.1 11 (211, .iaload, 1) rfl
theorem dX12_cutAll_212 : decode cX12_cutAll 212 = .ok (.i2l, 1) := dr9 dk9_dX12_cutAll_0_0.2.2.2.2.2.1 12 (212, .i2l, 1) rfl
theorem dX12_cutAll_213 : decode cX12_cutAll 213 = .ok (.ladd, 1) := dr9 dk9_dX12_cutAll_0_0.2.2.2.2.2.1 13 (213, .ladd, 1) rfl
theorem dX12_cutAll_214 : decode cX12_cutAll 214 = .ok (.ldc2_w 259, 3) := dr9 dk9_dX12_cutAll_0_0.2.2.2.2.2.1 14 (214, .ldc2_w 259, 3) rfl
theorem dX12_cutAll_217 : decode cX12_cutAll 217 = .ok (.lsub, 1) := dr9 dk9_dX12_cutAll_0_0.2.2.2.2.2.1 15 (217, .lsub, 1) rfl
theorem dX12_cutAll_218 : decode cX12_cutAll 218 = .ok (.goto 5, 3) := dr9 dk9_dX12_cutAll_0_0.2.2.2.2.2.1 16 (218, .goto 5, 3) rfl
theorem dX12_cutAll_231 : decode cX12_cutAll 231 = .ok (.aload_n 0, 1) := dr9 dk9_dX12_cutAll_0_0.2.2.2.2.2.1 17 (231, .aload_n 0, 1) rfl
theorem dX12_cutAll_232 : decode cX12_cutAll 232 = .ok (.getfield 24, 3) := dr9 dk9_dX12_cutAll_0_0.2.2.2.2.2.1 18 (232, .getfield 24, 3) rfl
theorem dX12_cutAll_235 : decode cX12_cutAll 235 = .ok (.iload_n 1, 1) := dr9 dk9_dX12_cutAll_0_0.2.2.2.2.2.1 19 (235, .iload_n 1, 1) rfl
theorem dX12_cutAll_236 : decode cX12_cutAll 236 = .ok (.iload_n 2, 1) := dr9 dk9_dX12_cutAll_0_0.2.2.2.2.2.1 20 (236, .iload_n 2, 1) rfl
theorem dX12_cutAll_237 : decode cX12_cutAll 237 = .ok (.iload 4, 2) := dr9 dk9_dX12_cutAll_0_0.2.2.2.2.2.1 21 (237, .iload 4, 2) rfl
theorem dX12_cutAll_239 : decode cX12_cutAll 239 = .ok (.isub, 1) := dr9 dk9_dX12_cutAll_0_0.2.2.2.2.2.1 22 (239, .isub, 1) rfl
theorem dX12_cutAll_240 : decode cX12_cutAll 240 = .ok (.bipush 9, 2) := dr9 dk9_dX12_cutAll_0_0.2.2.2.2.2.1 23 (240, .bipush 9, 2) rfl
theorem dX12_cutAll_242 : decode cX12_cutAll 242 = .ok (.if_icmp .le 7, 3) := dr9 dk9_dX12_cutAll_0_0.2.2.2.2.2.2.1 0 (242, .if_icmp .le 7, 3) rfl
theorem dX12_cutAll_245 : decode cX12_cutAll 245 = .ok (.iconst 4, 1) := dr9 dk9_dX12_cutAll_0_0.2.2.2.2.2.2.1 1 (245, .iconst 4, 1) rfl
theorem dX12_cutAll_246 : decode cX12_cutAll 246 = .ok (.goto 4, 3) := dr9 dk9_dX12_cutAll_0_0.2.2.2.2.2.2.1 2 (246, .goto 4, 3) rfl
theorem dX12_cutAll_249 : decode cX12_cutAll 249 = .ok (.iconst 2, 1) := dr9 dk9_dX12_cutAll_0_0.2.2.2.2.2.2.1 3 (249, .iconst 2, 1) rfl
theorem dX12_cutAll_250 : decode cX12_cutAll 250 = .ok (.iastore, 1) := dr9 dk9_dX12_cutAll_0_0.2.2.2.2.2.2.1 4 (250, .iastore, 1) rfl
theorem dX12_cutAll_251 : decode cX12_cutAll 251 = .ok (.goto 28, 3) := dr9 dk9_dX12_cutAll_0_0.2.2.2.2.2.2.1 5 (251, .goto 28, 3) rfl
theorem dX12_cutAll_279 : decode cX12_cutAll 279 = .ok (.aload_n 0, 1) := dr9 dk9_dX12_cutAll_0_0.2.2.2.2.2.2.1 6 (279, .aload_n 0, 1) rfl
theorem dX12_cutAll_280 : decode cX12_cutAll 280 = .ok (.getfield 30, 3) := dr9 dk9_dX12_cutAll_0_0.2.2.2.2.2.2.1 7 (280, .getfield 30, 3) rfl
theorem dX12_cutAll_283 : decode cX12_cutAll 283 = .ok (.iload_n 1, 1) := dr9 dk9_dX12_cutAll_0_0.2.2.2.2.2.2.1 8 (283, .iload_n 1, 1) rfl
theorem dX12_cutAll_284 : decode cX12_cutAll 284 = .ok (.lload 5, 2) := dr9 dk9_dX12_cutAll_0_0.2.2.2.2.2.2.1 9 (284, .lload 5, 2) rfl
theorem dX12_cutAll_286 : decode cX12_cutAll 286 = .ok (.lastore, 1) := dr9 dk9_dX12_cutAll_0_0.2.2.2.2.2.2.1 10 (286, .lastore, 1) rfl
theorem dX12_cutAll_287 : decode cX12_cutAll 287 = .ok (.iinc 1 1, 3) := dr9 dk9_dX12_cutAll_0_0.2.2.2.2.2.2.1 11 (287, .iinc 1 1, 3) rfl
theorem dX12_cutAll_290 : decode cX12_cutAll 290 = .ok (.goto (-273), 3) := dr9 dk9_dX12_cutAll_0_0.2.2.2.2.2.2.1 12 (290, .goto (-273), 3) rfl
theorem dX12_cutAll_293 : decode cX12_cutAll 293 = .ok (.aload_n 0, 1) := dr9 dk9_dX12_cutAll_0_0.2.2.2.2.2.2.1 13 (293, .aload_n 0, 1) rfl
theorem dX12_cutAll_294 : decode cX12_cutAll 294 = .ok (.getfield 24, 3) := dr9 dk9_dX12_cutAll_0_0.2.2.2.2.2.2.1 14 (294, .getfield 24, 3) rfl
theorem dX12_cutAll_297 : decode cX12_cutAll 297 = .ok (.iload_n 1, 1) := dr9 dk9_dX12_cutAll_0_0.2.2.2.2.2.2.1 15 (297, .iload_n 1, 1) rfl
theorem dX12_cutAll_298 : decode cX12_cutAll 298 = .ok (.iconst 0, 1) := dr9 dk9_dX12_cutAll_0_0.2.2.2.2.2.2.1 16 (298, .iconst 0, 1) rfl
theorem dX12_cutAll_299 : decode cX12_cutAll 299 = .ok (.iastore, 1) := dr9 dk9_dX12_cutAll_0_0.2.2.2.2.2.2.1 17 (299, .iastore, 1) rfl
theorem dX12_cutAll_300 : decode cX12_cutAll 300 = .ok (.aload_n 0, 1) := dr9 dk9_dX12_cutAll_0_0.2.2.2.2.2.2.1 18 (300, .aload_n 0, 1) rfl
theorem dX12_cutAll_301 : decode cX12_cutAll 301 = .ok (.getfield 27, 3) := dr9 dk9_dX12_cutAll_0_0.2.2.2.2.2.2.1 19 (301, .getfield 27, 3) rfl
theorem dX12_cutAll_304 : decode cX12_cutAll 304 = .ok (.iload_n 1, 1) := dr9 dk9_dX12_cutAll_0_0.2.2.2.2.2.2.1 20 (304, .iload_n 1, 1) rfl
theorem dX12_cutAll_305 : decode cX12_cutAll 305 = .ok (.aload_n 0, 1) := dr9 dk9_dX12_cutAll_0_0.2.2.2.2.2.2.1 21 (305, .aload_n 0, 1) rfl
theorem dX12_cutAll_306 : decode cX12_cutAll 306 = .ok (.getfield 251, 3) := dr9 dk9_dX12_cutAll_0_0.2.2.2.2.2.2.1 22 (306, .getfield 251, 3) rfl
theorem dX12_cutAll_309 : decode cX12_cutAll 309 = .ok (.iastore, 1) := dr9 dk9_dX12_cutAll_0_0.2.2.2.2.2.2.1 23 (309, .iastore, 1) rfl
theorem dX12_cutAll_310 : decode cX12_cutAll 310 = .ok (.aload_n 0, 1) := dr9 dk9_dX12_cutAll_0_0.2.2.2.2.2.2.2 0 (310, .aload_n 0, 1) rfl
theorem dX12_cutAll_311 : decode cX12_cutAll 311 = .ok (.iconst 0, 1) := dr9 dk9_dX12_cutAll_0_0.2.2.2.2.2.2.2 1 (311, .iconst 0, 1) rfl
theorem dX12_cutAll_312 : decode cX12_cutAll 312 = .ok (.putfield 264, 3) := dr9 dk9_dX12_cutAll_0_0.2.2.2.2.2.2.2 2 (312, .putfield 264, 3) rfl
theorem dX12_cutAll_315 : decode cX12_cutAll 315 = .ok (.aload_n 0, 1) := dr9 dk9_dX12_cutAll_0_0.2.2.2.2.2.2.2 3 (315, .aload_n 0, 1) rfl
theorem dX12_cutAll_316 : decode cX12_cutAll 316 = .ok (.iconst 0, 1) := dr9 dk9_dX12_cutAll_0_0.2.2.2.2.2.2.2 4 (316, .iconst 0, 1) rfl
theorem dX12_cutAll_317 : decode cX12_cutAll 317 = .ok (.putfield 267, 3) := dr9 dk9_dX12_cutAll_0_0.2.2.2.2.2.2.2 5 (317, .putfield 267, 3) rfl
theorem dX12_cutAll_320 : decode cX12_cutAll 320 = .ok (.return_, 1) := dr9 dk9_dX12_cutAll_0_0.2.2.2.2.2.2.2 6 (320, .return_, 1) rfl
abbrev r_s_cutAll : Room := { frames := 2, cells := 0, slots := 0, locals := 40 }
abbrev q_s_cutAll (D : va_G) (ks : KS) (ad : Nat → Nat) (kk : Nat → ClassId) (V : Vf) (L : Lf) (A : Nat → Prop) : Array Value → State → Outcome → State → Prop := va_Qv (fun (u : Vf × Lf) => rgd bM u.1 ∧ agr [(0, 2), (0, 3), (0, 7), (0, 8)] [4, 5, 6] V u.1 ∧ agL [4, 5, 6] L u.2 ∧ ((u.1 0 8).toInt = 0) ∧ ((u.1 0 7).toInt = 0) ∧ ((u.1 0 2).toInt = 0) ∧ (∃ n : Nat, n ≤ 4000 ∧ (u.1 4 n).toInt = 0)) (fun u t => gq D A (mw ad kk ks.1 u.1 u.2) (mty kk) t) A
set_option maxHeartbeats 4000000 in
set_option maxRecDepth 100000 in
theorem s_cutAll (l : Launch) (D : va_G) (ks : KS) (sz : Nat) (ad : Nat → Nat) (kk : Nat → ClassId) (V : Vf) (L : Lf)  (hMV : rgd bM V)  : Met l yX12_cutAll (Cond.code yX12_cutAll cX12_cutAll 7 none :: GW) r_s_cutAll (va_Pc [.ref (ad 0)] (gp D ks (mw ad kk ks.1 V L) (mty kk) sz)) (q_s_cutAll D ks ad kk V L  (va_A (mw ad kk ks.1 V L) sz)) 0 0 (va_A (mw ad kk ks.1 V L) sz) := by
  refine g_met (q_s_cutAll D ks ad kk V L) (by decide) (Nat.le_of_ble_eq_true rfl) ?_
  intro p e s m below meth c A ls H locs hx hb hr hml hown hg hlocks hin hnw hgk hP hK hD hS hA hl
  replace hown : s.vm.findClass RX12 = some m.cls := hown
  replace hl : lv_has ls 7 [(0, .ref (ad 0))] := hl
  replace hP : va_P D vwCl (mw ad kk ks.1 V L) H := hP
  replace hD : va_D A (mw ad kk ks.1 V L) := hD
  replace hK : va_K D vwCl (mty kk) s := hK
  have agV : agr [(0, 2), (0, 3), (0, 7), (0, 8)] [4, 5, 6] V V := agr.rf
  have alL : agL [4, 5, 6] L L := agL.rf
  refine lv_aload_n hx hb dX12_cutAll_0 rfl (lv_at hl 0 rfl) ?_
  refine lv_aload_n hx hb dX12_cutAll_1 rfl (lv_at hl 0 rfl) ?_
  refine va_get (D := D) (ci := 12) (v := .int (V 0 2)) (C := RX12) (T := TX12) (N := 100) hx hb hg inX12 hown hK hP 0 rfl rfl 2 (by decide) (hg _ w1708) (fun _ h9 => h9) rfl dX12_cutAll_2 ?_
  have r1 : 0 ≤ ((V 0 2)).toInt ∧ ((V 0 2)).toInt ≤ 4000 := hMV 0 2
  refine va_put (D := D) (ci := 12) (v := .int (V 0 2)) (ty := tyX12 3) (C := RX12) (T := TX12) (N := 100) hx hb hg inX12 tyX12 tyX12_ok nmX12 hown hK hP hD hS 0 rfl rfl 3 (by decide) (hg _ w1709) (fun _ h9 => h9) rfl (tyX12_ok 3 (by decide)) rfl rfl (Nat.le_of_ble_eq_true rfl) dX12_cutAll_5 (fun H locs hP hD hS => ?_)
  obtain ⟨V2, hV2⟩ : ∃ z, z = up2 V 0 3 (V 0 2) := ⟨_, rfl⟩
  have hP : va_P D vwCl (mw ad kk ks.1 V2 L) H := by rw [hV2]; exact hP
  have hD : va_D A (mw ad kk ks.1 V2 L) := by rw [hV2]; exact hD
  have hMV2 : rgd bM V2 := hMV.put hV2 (show 0 ≤ ((V 0 2)).toInt ∧ ((V 0 2)).toInt ≤ 4000 from by (first | exact om_1194ef72f15b r1.1 r1.2 | omega))
  have agV2 : agr [(0, 2), (0, 3), (0, 7), (0, 8)] [4, 5, 6] V V2 := agV.up hV2 rfl
  refine lv_aload_n hx hb dX12_cutAll_8 rfl (lv_at hl 0 rfl) ?_
  refine lv_iconst (v := 0) hx hb dX12_cutAll_9 (by decide) ?_
  refine va_put (D := D) (ci := 12) (v := .int 0) (ty := tyX12 2) (C := RX12) (T := TX12) (N := 100) hx hb hg inX12 tyX12 tyX12_ok nmX12 hown hK hP hD hS 0 rfl rfl 2 (by decide) (hg _ w1708) (fun _ h9 => h9) rfl (tyX12_ok 2 (by decide)) rfl rfl (Nat.le_of_ble_eq_true rfl) dX12_cutAll_10 (fun H locs hP hD hS => ?_)
  obtain ⟨V3, hV3⟩ : ∃ z, z = up2 V2 0 2 0 := ⟨_, rfl⟩
  have hP : va_P D vwCl (mw ad kk ks.1 V3 L) H := by rw [hV3]; exact hP
  have hD : va_D A (mw ad kk ks.1 V3 L) := by rw [hV3]; exact hD
  have hMV3 : rgd bM V3 := hMV2.put hV3 (by decide)
  have agV3 : agr [(0, 2), (0, 3), (0, 7), (0, 8)] [4, 5, 6] V V3 := agV2.up hV3 rfl
  refine lv_iconst (v := 0) hx hb dX12_cutAll_13 (by decide) ?_
  refine lv_istore_n (lv' := [(1, .int 0), (0, .ref (ad 0))]) hx hb dX12_cutAll_14 rfl hl (by decide) rfl (fun ls hl => ?_)
  refine lv_iconst (v := 0) hx hb dX12_cutAll_15 (by decide) ?_
  refine lv_istore_n (lv' := [(2, .int 0), (1, .int 0), (0, .ref (ad 0))]) hx hb dX12_cutAll_16 rfl hl (by decide) rfl (fun ls hl => ?_)
  have lp8 : ∀ (fulp8 : Nat) (y4 : Int32) (y5 : Int32) (V6 : Vf) (L7 : Lf) (H : Heap) (locs : List Loc) (ls : Array Slot), 0 ≤ y4.toInt ∧ y4.toInt ≤ 4000 → 0 ≤ y5.toInt ∧ y5.toInt ≤ 4000 → y5.toInt ≤ y4.toInt → y4.toInt ≤ (V6 0 3).toInt → (V6 0 3).toInt - y4.toInt < (fulp8 : Int) → agL [4, 5, 6] L L7 → agr [] [4, 5, 6] V3 V6 → rgd bM V6 → va_P D vwCl (mw ad kk ks.1 V6 L7) H → va_D A (mw ad kk ks.1 V6 L7) → va_S A s.heap H locs → lv_has ls 7 [(2, .int y4), (1, .int y5), (0, .ref (ad 0))] → W p l e r_s_cutAll s m ([.ref (ad 0)] : List Value).toArray below meth c H locs 0 0 (MQ below (q_s_cutAll D ks ad kk V L  A) ([.ref (ad 0)] : List Value).toArray s 0 0 A) (F0 m 17 ls []) := by
    intro fulp8
    induction fulp8 with
    | zero =>
      intro y4 y5 V6 L7 H locs ls klp8_0 klp8_1 xlp8_0 xlp8_1 hn alL7 ajV6 hMV6 hP hD hS hl
      exfalso; (first | exact om_4634b1278845 xlp8_1 hn | omega)
    | succ fulp8 ihlp8 =>
      intro y4 y5 V6 L7 H locs ls klp8_0 klp8_1 xlp8_0 xlp8_1 hn alL7 ajV6 hMV6 hP hD hS hl
      have agV6 : agr [(0, 2), (0, 3), (0, 7), (0, 8)] [4, 5, 6] V V6 := agV3.tr ajV6 (by decide) (by decide)
      have pq9 : (V6 0 3).toInt = ((V 0 2)).toInt := congrArg Int32.toInt ((ajV6 0 3 rfl).trans ((up2_k hV3 (by decide)).trans (up2_s hV2)))
      refine lv_iload_n hx hb dX12_cutAll_17 rfl (lv_at hl 0 rfl) ?_
      refine lv_aload_n hx hb dX12_cutAll_18 rfl (lv_at hl 2 rfl) ?_
      refine va_get (D := D) (ci := 12) (v := .int (V6 0 3)) (C := RX12) (T := TX12) (N := 100) hx hb hg inX12 hown hK hP 0 rfl rfl 3 (by decide) (hg _ w1709) (fun _ h9 => h9) rfl dX12_cutAll_19 ?_
      refine g_top (v := (V 0 2)) ((ajV6 0 3 rfl).trans ((up2_k hV3 (by decide)).trans (up2_s hV2))) ?_
      refine lv_icmp_ge (tgt := 293) hx hb dX12_cutAll_22 (by decide) (fun c10 => ?_) (fun c10 => ?_)
      · skip
        have f11 : ((V 0 2)).toInt ≤ y4.toInt := b_le rfl rfl c10
        refine lv_aload_n hx hb dX12_cutAll_293 rfl (lv_at hl 2 rfl) ?_
        refine va_get (D := D) (ci := 12) (v := .ref (ad 4)) (C := RX12) (T := TX12) (N := 100) hx hb hg inX12 hown hK hP 0 rfl rfl 4 (by decide) (hg _ w1710) (fun _ h9 => h9) rfl dX12_cutAll_294 ?_
        refine lv_iload_n hx hb dX12_cutAll_297 rfl (lv_at hl 1 rfl) ?_
        refine lv_iconst (v := 0) hx hb dX12_cutAll_298 (by decide) ?_
        refine va_iast (D := D) (i := y5) (x := 0) hx hb hK hP hD hS 2 1 rfl rfl (i_in (a := y5.toInt) rfl (by (first | exact om_8f19bcb79b8b klp8_0.2 klp8_1.1 xlp8_0 | omega))) dX12_cutAll_299 (fun H locs hP hD hS => ?_)
        obtain ⟨V12, hV12⟩ : ∃ z, z = up2 V6 4 (Int32.toNatClampNeg y5) 0 := ⟨_, rfl⟩
        have hP : va_P D vwCl (mw ad kk ks.1 V12 L7) H := by rw [hV12]; exact hP
        have hD : va_D A (mw ad kk ks.1 V12 L7) := by rw [hV12]; exact hD
        have hMV12 : rgd bM V12 := hMV6.put hV12 (i_full _)
        have agV12 : agr [(0, 2), (0, 3), (0, 7), (0, 8)] [4, 5, 6] V V12 := agV6.up hV12 rfl
        refine lv_aload_n hx hb dX12_cutAll_300 rfl (lv_at hl 2 rfl) ?_
        refine va_get (D := D) (ci := 12) (v := .ref (ad 5)) (C := RX12) (T := TX12) (N := 100) hx hb hg inX12 hown hK hP 0 rfl rfl 5 (by decide) (hg _ w1711) (fun _ h9 => h9) rfl dX12_cutAll_301 ?_
        refine lv_iload_n hx hb dX12_cutAll_304 rfl (lv_at hl 1 rfl) ?_
        refine lv_aload_n hx hb dX12_cutAll_305 rfl (lv_at hl 2 rfl) ?_
        refine va_get (D := D) (ci := 12) (v := .int (V12 0 3)) (C := RX12) (T := TX12) (N := 100) hx hb hg inX12 hown hK hP 0 rfl rfl 3 (by decide) (hg _ w1709) (fun _ h9 => h9) rfl dX12_cutAll_306 ?_
        refine g_top (v := (V 0 2)) ((up2_o hV12 (by decide)).trans ((ajV6 0 3 rfl).trans ((up2_k hV3 (by decide)).trans (up2_s hV2)))) ?_
        refine va_iast (D := D) (i := y5) (x := (V 0 2)) hx hb hK hP hD hS 3 2 rfl rfl (i_in (a := y5.toInt) rfl (by (first | exact om_8f19bcb79b8b klp8_0.2 klp8_1.1 xlp8_0 | omega))) dX12_cutAll_309 (fun H locs hP hD hS => ?_)
        obtain ⟨V13, hV13⟩ : ∃ z, z = up2 V12 5 (Int32.toNatClampNeg y5) (V 0 2) := ⟨_, rfl⟩
        have hP : va_P D vwCl (mw ad kk ks.1 V13 L7) H := by rw [hV13]; exact hP
        have hD : va_D A (mw ad kk ks.1 V13 L7) := by rw [hV13]; exact hD
        have hMV13 : rgd bM V13 := hMV12.put hV13 (show 0 ≤ ((V 0 2)).toInt ∧ ((V 0 2)).toInt ≤ 4000 from by (first | exact om_6860296b5c30 klp8_0.1 klp8_0.2 xlp8_1 pq9 f11 | omega))
        have agV13 : agr [(0, 2), (0, 3), (0, 7), (0, 8)] [4, 5, 6] V V13 := agV12.up hV13 rfl
        refine lv_aload_n hx hb dX12_cutAll_310 rfl (lv_at hl 2 rfl) ?_
        refine lv_iconst (v := 0) hx hb dX12_cutAll_311 (by decide) ?_
        refine va_put (D := D) (ci := 12) (v := .int 0) (ty := tyX12 7) (C := RX12) (T := TX12) (N := 100) hx hb hg inX12 tyX12 tyX12_ok nmX12 hown hK hP hD hS 0 rfl rfl 7 (by decide) (hg _ w1713) (fun _ h9 => h9) rfl (tyX12_ok 7 (by decide)) rfl rfl (Nat.le_of_ble_eq_true rfl) dX12_cutAll_312 (fun H locs hP hD hS => ?_)
        obtain ⟨V14, hV14⟩ : ∃ z, z = up2 V13 0 7 0 := ⟨_, rfl⟩
        have hP : va_P D vwCl (mw ad kk ks.1 V14 L7) H := by rw [hV14]; exact hP
        have hD : va_D A (mw ad kk ks.1 V14 L7) := by rw [hV14]; exact hD
        have hMV14 : rgd bM V14 := hMV13.put hV14 (i_full _)
        have agV14 : agr [(0, 2), (0, 3), (0, 7), (0, 8)] [4, 5, 6] V V14 := agV13.up hV14 rfl
        refine lv_aload_n hx hb dX12_cutAll_315 rfl (lv_at hl 2 rfl) ?_
        refine lv_iconst (v := 0) hx hb dX12_cutAll_316 (by decide) ?_
        refine va_put (D := D) (ci := 12) (v := .int 0) (ty := tyX12 8) (C := RX12) (T := TX12) (N := 100) hx hb hg inX12 tyX12 tyX12_ok nmX12 hown hK hP hD hS 0 rfl rfl 8 (by decide) (hg _ w1714) (fun _ h9 => h9) rfl (tyX12_ok 8 (by decide)) rfl rfl (Nat.le_of_ble_eq_true rfl) dX12_cutAll_317 (fun H locs hP hD hS => ?_)
        obtain ⟨V15, hV15⟩ : ∃ z, z = up2 V14 0 8 0 := ⟨_, rfl⟩
        have hP : va_P D vwCl (mw ad kk ks.1 V15 L7) H := by rw [hV15]; exact hP
        have hD : va_D A (mw ad kk ks.1 V15 L7) := by rw [hV15]; exact hD
        have hMV15 : rgd bM V15 := hMV14.put hV15 (by decide)
        have agV15 : agr [(0, 2), (0, 3), (0, 7), (0, 8)] [4, 5, 6] V V15 := agV14.up hV15 rfl
        have pq16 : (V15 0 8).toInt = 0 := (congrArg Int32.toInt (up2_s hV15)).trans (by decide)
        have pq17 : (V15 0 7).toInt = 0 := (congrArg Int32.toInt ((up2_k hV15 (by decide)).trans (up2_s hV14))).trans (by decide)
        have pq18 : (V15 0 2).toInt = 0 := (congrArg Int32.toInt ((up2_k hV15 (by decide)).trans ((up2_k hV14 (by decide)).trans ((up2_o hV13 (by decide)).trans ((up2_o hV12 (by decide)).trans ((ajV6 0 2 rfl).trans (up2_s hV3))))))).trans (by decide)
        have e19 : V15 4 (Int32.toNatClampNeg y5) = 0 := ((up2_o hV15 (by decide)).trans ((up2_o hV14 (by decide)).trans ((up2_o hV13 (by decide)).trans (up2_s hV12))))
        exact W.vret hx hb hr (fun t ht hW => ⟨⟨(V15, L7), rfl, ⟨hMV15, agV15, alL7, (show (V15 0 8).toInt = 0 from by (first | exact om_b66ba74381d5 pq16 | omega)), (show (V15 0 7).toInt = 0 from by (first | exact om_b66ba74381d5 pq17 | omega)), (show (V15 0 2).toInt = 0 from by (first | exact om_b66ba74381d5 pq18 | omega)), ⟨(Int32.toNatClampNeg y5), (by have h9 := i_clamp (x := y5) rfl (by (first | exact om_eafa9039069c klp8_1.1 | omega)); omega), (by show (V15 4 _).toInt = 0; rw [e19]; rfl)⟩⟩, by rw [ht]; exact hP, va_K.moved hW.alike hK, hD⟩, hS.F ht⟩) hS.2.2 dX12_cutAll_320
      · skip
        have f20 : y4.toInt < ((V 0 2)).toInt := b_nle rfl rfl c10
        refine lv_aload_n hx hb dX12_cutAll_25 rfl (lv_at hl 2 rfl) ?_
        refine va_get (D := D) (ci := 12) (v := .ref (ad 1)) (C := RX12) (T := TX12) (N := 100) hx hb hg inX12 hown hK hP 0 rfl rfl 1 (by decide) (hg _ w1707) (fun _ h9 => h9) rfl dX12_cutAll_26 ?_
        refine lv_iload_n hx hb dX12_cutAll_29 rfl (lv_at hl 0 rfl) ?_
        refine va_iald (D := D) (i := y4) hx hb hK hP 1 0 rfl rfl (i_in (a := y4.toInt) rfl (by (first | exact om_ae1ad81edeff r1.2 klp8_0.1 f20 | omega))) dX12_cutAll_30 ?_
        refine g_top (v := (V 1 (Int32.toNatClampNeg y4))) ((ajV6 1 (Int32.toNatClampNeg y4) rfl).trans ((up2_o hV3 (by decide)).trans (up2_o hV2 (by decide)))) ?_
        refine lv_istore_n (lv' := [(3, .int (V 1 (Int32.toNatClampNeg y4))), (2, .int y4), (1, .int y5), (0, .ref (ad 0))]) hx hb dX12_cutAll_31 rfl hl (by decide) rfl (fun ls hl => ?_)
        refine lv_iload_n hx hb dX12_cutAll_32 rfl (lv_at hl 0 rfl) ?_
        refine lv_bipush (v := 10) hx hb dX12_cutAll_33 (by decide) ?_
        refine lv_icmp_eq (tgt := 44) hx hb dX12_cutAll_35 (by decide) (fun c21 => ?_) (fun c21 => ?_)
        · skip
          have f22 : ((V 1 (Int32.toNatClampNeg y4))).toInt = 10 := b_eq rfl (by decide) c21
          obtain ⟨z23, ez23⟩ : ∃ y : Int32, y = y4 + 1 := ⟨_, rfl⟩
          have hz23 : z23.toInt = y4.toInt + 1 := i_add ez23 rfl (by decide) (by (first | exact om_60388b098aab r1.2 klp8_0.1 f20 | omega))
          refine lv_iinc (v := z23) (lv' := [(2, .int z23), (3, .int (V 1 (Int32.toNatClampNeg y4))), (1, .int y5), (0, .ref (ad 0))]) hx hb dX12_cutAll_44 hl (k := 1) rfl (by rw [ez23]; rfl) (by decide) rfl (fun ls hl => ?_)
          refine lv_goto (tgt := 17) hx hb dX12_cutAll_47 (by decide) ?_
          exact ihlp8 z23 y5 V6 L7 H locs ls (by (first | exact om_e23ddeb43246 r1.2 klp8_0.1 f20 hz23 | omega)) (by (first | exact om_c1fa050e69fd r1.2 klp8_1.1 xlp8_0 f20 | omega)) (show y5.toInt ≤ z23.toInt from by (first | exact om_f75a30b4c815 xlp8_0 hz23 | omega)) (show z23.toInt ≤ (V6 0 3).toInt from by (first | exact om_79347f38c257 pq9 f20 hz23 | omega)) (by (first | exact om_9e7d2b874257 hn hz23 | omega)) alL7 (agr.tr agr.rf ajV6 (by decide) (by decide)) hMV6 hP hD hS (lv_sub hl [0, 2, 3] rfl)
        · skip
          have f24 : ((V 1 (Int32.toNatClampNeg y4))).toInt ≠ 10 := b_neq rfl (by decide) c21
          refine lv_iload_n hx hb dX12_cutAll_38 rfl (lv_at hl 0 rfl) ?_
          refine lv_bipush (v := 32) hx hb dX12_cutAll_39 (by decide) ?_
          refine lv_icmp_ne (tgt := 50) hx hb dX12_cutAll_41 (by decide) (fun c25 => ?_) (fun c25 => ?_)
          · skip
            have f26 : ((V 1 (Int32.toNatClampNeg y4))).toInt ≠ 32 := b_neq rfl (by decide) c25
            refine lv_iload_n hx hb dX12_cutAll_50 rfl (lv_at hl 1 rfl) ?_
            refine lv_istore (lv' := [(4, .int y4), (3, .int (V 1 (Int32.toNatClampNeg y4))), (2, .int y4), (1, .int y5), (0, .ref (ad 0))]) hx hb dX12_cutAll_51 hl (by decide) rfl (fun ls hl => ?_)
            refine lv_lconst (v := 0) hx hb dX12_cutAll_53 (by decide) ?_
            refine lv_lstore (lv' := [(5, .long 0), (4, .int y4), (3, .int (V 1 (Int32.toNatClampNeg y4))), (2, .int y4), (1, .int y5), (0, .ref (ad 0))]) hx hb dX12_cutAll_54 hl (by decide) rfl (fun ls hl => ?_)
            refine lv_aload_n hx hb dX12_cutAll_56 rfl (lv_at hl 5 rfl) ?_
            refine va_get (D := D) (ci := 12) (v := .ref (ad 5)) (C := RX12) (T := TX12) (N := 100) hx hb hg inX12 hown hK hP 0 rfl rfl 5 (by decide) (hg _ w1711) (fun _ h9 => h9) rfl dX12_cutAll_57 ?_
            refine lv_iload_n hx hb dX12_cutAll_60 rfl (lv_at hl 4 rfl) ?_
            refine lv_iload_n hx hb dX12_cutAll_61 rfl (lv_at hl 3 rfl) ?_
            refine va_iast (D := D) (i := y5) (x := y4) hx hb hK hP hD hS 3 2 rfl rfl (i_in (a := y5.toInt) rfl (by (first | exact om_0b7a149ae3dd r1.2 klp8_1.1 xlp8_0 f20 | omega))) dX12_cutAll_62 (fun H locs hP hD hS => ?_)
            obtain ⟨V27, hV27⟩ : ∃ z, z = up2 V6 5 (Int32.toNatClampNeg y5) y4 := ⟨_, rfl⟩
            have hP : va_P D vwCl (mw ad kk ks.1 V27 L7) H := by rw [hV27]; exact hP
            have hD : va_D A (mw ad kk ks.1 V27 L7) := by rw [hV27]; exact hD
            have hMV27 : rgd bM V27 := hMV6.put hV27 (show 0 ≤ y4.toInt ∧ y4.toInt ≤ 4000 from by (first | exact om_fb8e2a868ece r1.2 klp8_0.1 f20 | omega))
            have agV27 : agr [(0, 2), (0, 3), (0, 7), (0, 8)] [4, 5, 6] V V27 := agV6.up hV27 rfl
            refine lv_iload_n hx hb dX12_cutAll_63 rfl (lv_at hl 2 rfl) ?_
            refine gE_int (g_runS (As := [.int (V 1 (Int32.toNatClampNeg y4))]) (rest := []) (wc := []) (tc := []) hx hb hml hown hg gw_self hP hD hK hS hA hnw hgk [] [] (by decide) rfl rfl (s_isLetter l D ks H.size (V 1 (Int32.toNatClampNeg y4)) ) w1703 w1704 w172 w1705 hdS_yX12_isLetter ⟨Nat.le_of_ble_eq_true rfl, Nat.le_of_ble_eq_true rfl⟩ rfl hl.1 rfl (Nat.le_of_ble_eq_true rfl) dX12_cutAll_64 ⟨Nat.le_of_ble_eq_true rfl, Nat.le_of_ble_eq_true rfl⟩) hP hD hK hS hA (fun z28 u29 H locs w30 hP hD hK hS => ?_)
            obtain ⟨rgz28, t31, t32⟩ := w30
            replace rgz28 : 0 ≤ z28.toInt ∧ z28.toInt ≤ 1 := rgz28
            replace t31 : Imp (z28.toInt = 1) (97 ≤ ((V 1 (Int32.toNatClampNeg y4))).toInt ∧ ((V 1 (Int32.toNatClampNeg y4))).toInt ≤ 122) := t31
            replace t32 : Imp (z28.toInt = 0) (((V 1 (Int32.toNatClampNeg y4))).toInt < 97 ∨ 122 < ((V 1 (Int32.toNatClampNeg y4))).toInt) := t32
            have J33 : ∀ (y34 : Int64) (y35 : Int32) (V36 : Vf) (H : Heap) (locs : List Loc) (ls : Array Slot), 0 ≤ y35.toInt ∧ y35.toInt ≤ 4000 → agr [] [4] V27 V36 → rgd bM V36 → y4.toInt + 1 ≤ y35.toInt → y35.toInt ≤ (V36 0 3).toInt → va_P D vwCl (mw ad kk ks.1 V36 L7) H → va_D A (mw ad kk ks.1 V36 L7) → va_S A s.heap H locs → lv_has ls 7 [(5, .long y34), (4, .int y4), (3, .int (V 1 (Int32.toNatClampNeg y4))), (2, .int y35), (1, .int y5), (0, .ref (ad 0))] → W p l e r_s_cutAll s m ([.ref (ad 0)] : List Value).toArray below meth c H locs 0 0 (MQ below (q_s_cutAll D ks ad kk V L  A) ([.ref (ad 0)] : List Value).toArray s 0 0 A) (F0 m 279 ls []) := by
              intro y34 y35 V36 H locs ls kJ33_0 ajV36 hMV36 xJ33_0 xJ33_1 hP hD hS hl
              have agV36 : agr [(0, 2), (0, 3), (0, 7), (0, 8)] [4, 5, 6] V V36 := agV27.tr ajV36 (by decide) (by decide)
              have pq37 : (V36 0 3).toInt = ((V 0 2)).toInt := congrArg Int32.toInt ((ajV36 0 3 rfl).trans ((up2_o hV27 (by decide)).trans ((ajV6 0 3 rfl).trans ((up2_k hV3 (by decide)).trans (up2_s hV2)))))
              refine lv_aload_n hx hb dX12_cutAll_279 rfl (lv_at hl 5 rfl) ?_
              refine va_get (D := D) (ci := 12) (v := .ref (ad 6)) (C := RX12) (T := TX12) (N := 100) hx hb hg inX12 hown hK hP 0 rfl rfl 6 (by decide) (hg _ w1712) (fun _ h9 => h9) rfl dX12_cutAll_280 ?_
              refine lv_iload_n hx hb dX12_cutAll_283 rfl (lv_at hl 4 rfl) ?_
              refine lv_lload hx hb dX12_cutAll_284 (lv_at hl 0 rfl) ?_
              refine va_last (D := D) (i := y5) (x := y34) hx hb hK hP hD hS 4 3 rfl rfl (i_in (a := y5.toInt) rfl (by first | exact om_0b7a149ae3dd r1.2 klp8_1.1 xlp8_0 f20 | first | omega | ((try (have i_t32 := Imp.go t32 (by omega))); (try (have i_t31 := Imp.go t31 (by omega))); (try (have i_t31 := Imp.go t31 (by omega))); (try (have i_t32 := Imp.go t32 (by omega))); omega))) dX12_cutAll_286 (fun H locs hP hD hS => ?_)
              obtain ⟨L38, hL38⟩ : ∃ z, z = upL L7 6 (Int32.toNatClampNeg y5) y34 := ⟨_, rfl⟩
              have hP : va_P D vwCl (mw ad kk ks.1 V36 L38) H := by rw [hL38]; exact hP
              have hD : va_D A (mw ad kk ks.1 V36 L38) := by rw [hL38]; exact hD
              have alL38 : agL [4, 5, 6] L L38 := agL.up alL7 hL38 rfl
              obtain ⟨z39, ez39⟩ : ∃ y : Int32, y = y5 + 1 := ⟨_, rfl⟩
              have hz39 : z39.toInt = y5.toInt + 1 := i_add ez39 rfl (by decide) (by (first | exact om_2a57709bda2c r1.2 klp8_1.1 xlp8_0 f20 | omega))
              refine lv_iinc (v := z39) (lv' := [(1, .int z39), (5, .long y34), (4, .int y4), (3, .int (V 1 (Int32.toNatClampNeg y4))), (2, .int y35), (0, .ref (ad 0))]) hx hb dX12_cutAll_287 hl (k := 4) rfl (by rw [ez39]; rfl) (by decide) rfl (fun ls hl => ?_)
              refine lv_goto (tgt := 17) hx hb dX12_cutAll_290 (by decide) ?_
              exact ihlp8 y35 z39 V36 L38 H locs ls (by first | exact om_3b8486baa068 klp8_0.1 kJ33_0.2 xJ33_0 | first | omega | ((try (have i_t32 := Imp.go t32 (by omega))); (try (have i_t31 := Imp.go t31 (by omega))); (try (have i_t31 := Imp.go t31 (by omega))); (try (have i_t32 := Imp.go t32 (by omega))); omega)) (by first | exact om_4a99a0b23375 r1.2 klp8_1.1 xlp8_0 f20 hz39 | first | omega | ((try (have i_t32 := Imp.go t32 (by omega))); (try (have i_t31 := Imp.go t31 (by omega))); (try (have i_t31 := Imp.go t31 (by omega))); (try (have i_t32 := Imp.go t32 (by omega))); omega)) (show z39.toInt ≤ y35.toInt from by first | exact om_9040f9b0dfde xlp8_0 xJ33_0 hz39 | first | omega | ((try (have i_t32 := Imp.go t32 (by omega))); (try (have i_t31 := Imp.go t31 (by omega))); (try (have i_t31 := Imp.go t31 (by omega))); (try (have i_t32 := Imp.go t32 (by omega))); omega)) (show y35.toInt ≤ (V36 0 3).toInt from by first | exact om_f4906d00fa52 xJ33_1 | first | omega | ((try (have i_t32 := Imp.go t32 (by omega))); (try (have i_t31 := Imp.go t31 (by omega))); (try (have i_t31 := Imp.go t31 (by omega))); (try (have i_t32 := Imp.go t32 (by omega))); omega)) (by first | exact om_8855991369a8 hn pq9 xJ33_0 pq37 | first | omega | ((try (have i_t32 := Imp.go t32 (by omega))); (try (have i_t31 := Imp.go t31 (by omega))); (try (have i_t31 := Imp.go t31 (by omega))); (try (have i_t32 := Imp.go t32 (by omega))); omega)) alL38 (agr.tr (agr.up (agr.tr agr.rf ajV6 (by decide) (by decide)) hV27 rfl) ajV36 (by decide) (by decide)) hMV36 hP hD hS (lv_sub hl [4, 0, 5] rfl)
            refine lv_if_eq (tgt := 164) hx hb dX12_cutAll_67 (by decide) (fun c40 => ?_) (fun c40 => ?_)
            · skip
              have f41 : z28.toInt = 0 := b_eq rfl (by decide) c40
              refine lv_iload_n hx hb dX12_cutAll_164 rfl (lv_at hl 2 rfl) ?_
              refine gE_int (g_runS (As := [.int (V 1 (Int32.toNatClampNeg y4))]) (rest := []) (wc := []) (tc := []) hx hb hml hown hg gw_self hP hD hK hS hA hnw hgk [] [] (by decide) rfl rfl (s_isDigit l D ks H.size (V 1 (Int32.toNatClampNeg y4)) ) w2015 w2016 w172 w2017 hdS_yX12_isDigit ⟨Nat.le_of_ble_eq_true rfl, Nat.le_of_ble_eq_true rfl⟩ rfl hl.1 rfl (Nat.le_of_ble_eq_true rfl) dX12_cutAll_165 ⟨Nat.le_of_ble_eq_true rfl, Nat.le_of_ble_eq_true rfl⟩) hP hD hK hS hA (fun z42 u43 H locs w44 hP hD hK hS => ?_)
              obtain ⟨rgz42, t45, t46⟩ := w44
              replace rgz42 : 0 ≤ z42.toInt ∧ z42.toInt ≤ 1 := rgz42
              replace t45 : Imp (z42.toInt = 1) (48 ≤ ((V 1 (Int32.toNatClampNeg y4))).toInt ∧ ((V 1 (Int32.toNatClampNeg y4))).toInt ≤ 57) := t45
              replace t46 : Imp (z42.toInt = 0) (((V 1 (Int32.toNatClampNeg y4))).toInt < 48 ∨ 57 < ((V 1 (Int32.toNatClampNeg y4))).toInt) := t46
              refine lv_if_eq (tgt := 254) hx hb dX12_cutAll_168 (by decide) (fun c47 => ?_) (fun c47 => ?_)
              · skip
                have f48 : z42.toInt = 0 := b_eq rfl (by decide) c47
                refine lv_iload_n hx hb dX12_cutAll_254 rfl (lv_at hl 2 rfl) ?_
                refine lv_i2l hx hb dX12_cutAll_255 rfl ?_
                refine lv_topl (fun w49 ew49 => ?_)
                refine lv_lstore (lv' := [(5, .long w49), (4, .int y4), (3, .int (V 1 (Int32.toNatClampNeg y4))), (2, .int y4), (1, .int y5), (0, .ref (ad 0))]) hx hb dX12_cutAll_256 hl (by decide) rfl (fun ls hl => ?_)
                refine lv_aload_n hx hb dX12_cutAll_258 rfl (lv_at hl 5 rfl) ?_
                refine va_get (D := D) (ci := 12) (v := .ref (ad 4)) (C := RX12) (T := TX12) (N := 100) hx hb hg inX12 hown hK hP 0 rfl rfl 4 (by decide) (hg _ w1710) (fun _ h9 => h9) rfl dX12_cutAll_259 ?_
                refine lv_iload_n hx hb dX12_cutAll_262 rfl (lv_at hl 4 rfl) ?_
                refine lv_iload_n hx hb dX12_cutAll_263 rfl (lv_at hl 2 rfl) ?_
                refine gE_int (g_runS (As := [.int (V 1 (Int32.toNatClampNeg y4))]) (rest := [.int y5, .ref (ad 4)]) (wc := []) (tc := []) hx hb hml hown hg gw_self hP hD hK hS hA hnw hgk [] [] (by decide) rfl rfl (s_isSignOf l D ks H.size (V 1 (Int32.toNatClampNeg y4)) ) w2020 w2021 w172 w2022 hdS_yX12_isSignOf ⟨Nat.le_of_ble_eq_true rfl, Nat.le_of_ble_eq_true rfl⟩ rfl hl.1 rfl (Nat.le_of_ble_eq_true rfl) dX12_cutAll_264 ⟨Nat.le_of_ble_eq_true rfl, Nat.le_of_ble_eq_true rfl⟩) hP hD hK hS hA (fun z50 u51 H locs w52 hP hD hK hS => ?_)
                have rgz50 := w52
                replace rgz50 : 0 ≤ z50.toInt ∧ z50.toInt ≤ 1 := rgz50
                have J53 : ∀ (y54 : Int32) (H : Heap) (locs : List Loc) (ls : Array Slot), 3 ≤ y54.toInt ∧ y54.toInt ≤ 4 → va_P D vwCl (mw ad kk ks.1 V27 L7) H → va_D A (mw ad kk ks.1 V27 L7) → va_S A s.heap H locs → lv_has ls 7 [(5, .long w49), (4, .int y4), (3, .int (V 1 (Int32.toNatClampNeg y4))), (2, .int y4), (1, .int y5), (0, .ref (ad 0))] → W p l e r_s_cutAll s m ([.ref (ad 0)] : List Value).toArray below meth c H locs 0 0 (MQ below (q_s_cutAll D ks ad kk V L  A) ([.ref (ad 0)] : List Value).toArray s 0 0 A) (F0 m 275 ls [.int y54, .int y5, .ref (ad 4)]) := by
                  intro y54 H locs ls kJ53_0 hP hD hS hl
                  refine va_iast (D := D) (i := y5) (x := y54) hx hb hK hP hD hS 2 1 rfl rfl (i_in (a := y5.toInt) rfl (by first | exact om_0b7a149ae3dd r1.2 klp8_1.1 xlp8_0 f20 | first | omega | ((try (have i_t46 := Imp.go t46 (f48))); (try (have i_t32 := Imp.go t32 (f41))); omega) | ((try (have i_t46 := Imp.go t46 (by omega))); (try (have i_t45 := Imp.go t45 (by omega))); (try (have i_t32 := Imp.go t32 (by omega))); (try (have i_t31 := Imp.go t31 (by omega))); first | omega | ((try (have i_t31 := Imp.go t31 (by omega))); (try (have i_t32 := Imp.go t32 (by omega))); (try (have i_t45 := Imp.go t45 (by omega))); (try (have i_t46 := Imp.go t46 (by omega))); omega)))) dX12_cutAll_275 (fun H locs hP hD hS => ?_)
                  obtain ⟨V55, hV55⟩ : ∃ z, z = up2 V27 4 (Int32.toNatClampNeg y5) y54 := ⟨_, rfl⟩
                  have hP : va_P D vwCl (mw ad kk ks.1 V55 L7) H := by rw [hV55]; exact hP
                  have hD : va_D A (mw ad kk ks.1 V55 L7) := by rw [hV55]; exact hD
                  have hMV55 : rgd bM V55 := hMV27.put hV55 (i_full _)
                  have agV55 : agr [(0, 2), (0, 3), (0, 7), (0, 8)] [4, 5, 6] V V55 := agV27.up hV55 rfl
                  obtain ⟨z56, ez56⟩ : ∃ y : Int32, y = y4 + 1 := ⟨_, rfl⟩
                  have hz56 : z56.toInt = y4.toInt + 1 := i_add ez56 rfl (by decide) (by (first | exact om_60388b098aab r1.2 klp8_0.1 f20 | omega))
                  refine lv_iinc (v := z56) (lv' := [(2, .int z56), (5, .long w49), (4, .int y4), (3, .int (V 1 (Int32.toNatClampNeg y4))), (1, .int y5), (0, .ref (ad 0))]) hx hb dX12_cutAll_276 hl (k := 3) rfl (by rw [ez56]; rfl) (by decide) rfl (fun ls hl => ?_)
                  have pq57 : (V55 0 3).toInt = ((V 0 2)).toInt := congrArg Int32.toInt ((up2_o hV55 (by decide)).trans ((up2_o hV27 (by decide)).trans ((ajV6 0 3 rfl).trans ((up2_k hV3 (by decide)).trans (up2_s hV2)))))
                  exact J33 w49 z56 V55 H locs ls (by first | exact om_e23ddeb43246 r1.2 klp8_0.1 f20 hz56 | first | omega | ((try (have i_t46 := Imp.go t46 (f48))); (try (have i_t32 := Imp.go t32 (f41))); omega) | ((try (have i_t46 := Imp.go t46 (by omega))); (try (have i_t45 := Imp.go t45 (by omega))); (try (have i_t32 := Imp.go t32 (by omega))); (try (have i_t31 := Imp.go t31 (by omega))); first | omega | ((try (have i_t31 := Imp.go t31 (by omega))); (try (have i_t32 := Imp.go t32 (by omega))); (try (have i_t45 := Imp.go t45 (by omega))); (try (have i_t46 := Imp.go t46 (by omega))); omega))) (agr.up agr.rf hV55 rfl) hMV55 (show y4.toInt + 1 ≤ z56.toInt from by first | exact om_25b4f1663f47 hz56 | first | omega | ((try (have i_t46 := Imp.go t46 (f48))); (try (have i_t32 := Imp.go t32 (f41))); omega) | ((try (have i_t46 := Imp.go t46 (by omega))); (try (have i_t45 := Imp.go t45 (by omega))); (try (have i_t32 := Imp.go t32 (by omega))); (try (have i_t31 := Imp.go t31 (by omega))); first | omega | ((try (have i_t31 := Imp.go t31 (by omega))); (try (have i_t32 := Imp.go t32 (by omega))); (try (have i_t45 := Imp.go t45 (by omega))); (try (have i_t46 := Imp.go t46 (by omega))); omega))) (show z56.toInt ≤ (V55 0 3).toInt from by first | exact om_f971e48495aa f20 hz56 pq57 | first | omega | ((try (have i_t46 := Imp.go t46 (f48))); (try (have i_t32 := Imp.go t32 (f41))); omega) | ((try (have i_t46 := Imp.go t46 (by omega))); (try (have i_t45 := Imp.go t45 (by omega))); (try (have i_t32 := Imp.go t32 (by omega))); (try (have i_t31 := Imp.go t31 (by omega))); first | omega | ((try (have i_t31 := Imp.go t31 (by omega))); (try (have i_t32 := Imp.go t32 (by omega))); (try (have i_t45 := Imp.go t45 (by omega))); (try (have i_t46 := Imp.go t46 (by omega))); omega))) hP hD hS (lv_sub hl [1, 2, 3, 0, 4, 5] rfl)
                refine lv_if_eq (tgt := 274) hx hb dX12_cutAll_267 (by decide) (fun c58 => ?_) (fun c58 => ?_)
                · skip
                  have f59 : z50.toInt = 0 := b_eq rfl (by decide) c58
                  refine lv_iconst (v := 4) hx hb dX12_cutAll_274 (by decide) ?_
                  have r60 : Int32.toInt 4 = 4 := by decide
                  exact J53 4 H locs ls (by decide) hP hD hS (lv_sub hl [0, 1, 2, 3, 4, 5] rfl)
                · skip
                  have f61 : z50.toInt ≠ 0 := b_neq rfl (by decide) c58
                  refine lv_iconst (v := 3) hx hb dX12_cutAll_270 (by decide) ?_
                  refine lv_goto (tgt := 275) hx hb dX12_cutAll_271 (by decide) ?_
                  have r62 : Int32.toInt 3 = 3 := by decide
                  exact J53 3 H locs ls (by decide) hP hD hS (lv_sub hl [0, 1, 2, 3, 4, 5] rfl)
              · skip
                have f63 : z42.toInt ≠ 0 := b_neq rfl (by decide) c47
                have lp66 : ∀ (fulp66 : Nat) (y64 : Int64) (y65 : Int32) (H : Heap) (locs : List Loc) (ls : Array Slot), 0 ≤ y65.toInt ∧ y65.toInt ≤ 4000 → y4.toInt ≤ y65.toInt → y65.toInt ≤ (V27 0 3).toInt → y4.toInt < y65.toInt ∨ (V27 1 (Int32.toNatClampNeg y65)).toInt = ((V 1 (Int32.toNatClampNeg y4))).toInt → (V27 0 3).toInt - y65.toInt < (fulp66 : Int) → va_P D vwCl (mw ad kk ks.1 V27 L7) H → va_D A (mw ad kk ks.1 V27 L7) → va_S A s.heap H locs → lv_has ls 7 [(5, .long y64), (4, .int y4), (3, .int (V 1 (Int32.toNatClampNeg y4))), (2, .int y65), (1, .int y5), (0, .ref (ad 0))] → W p l e r_s_cutAll s m ([.ref (ad 0)] : List Value).toArray below meth c H locs 0 0 (MQ below (q_s_cutAll D ks ad kk V L  A) ([.ref (ad 0)] : List Value).toArray s 0 0 A) (F0 m 171 ls []) := by
                  intro fulp66
                  induction fulp66 with
                  | zero =>
                    intro y64 y65 H locs ls klp66_0 xlp66_0 xlp66_1 xlp66_2 hn  hP hD hS hl
                    exfalso; (first | exact om_4634b1278845 xlp66_1 hn | omega)
                  | succ fulp66 ihlp66 =>
                    intro y64 y65 H locs ls klp66_0 xlp66_0 xlp66_1 xlp66_2 hn  hP hD hS hl
                    have pq67 : (V27 0 3).toInt = ((V 0 2)).toInt := congrArg Int32.toInt ((up2_o hV27 (by decide)).trans ((ajV6 0 3 rfl).trans ((up2_k hV3 (by decide)).trans (up2_s hV2))))
                    have pq68 : (V27 1 (Int32.toNatClampNeg y65)).toInt = ((V 1 (Int32.toNatClampNeg y65))).toInt := congrArg Int32.toInt ((up2_o hV27 (by decide)).trans ((ajV6 1 (Int32.toNatClampNeg y65) rfl).trans ((up2_o hV3 (by decide)).trans (up2_o hV2 (by decide)))))
                    refine lv_iload_n hx hb dX12_cutAll_171 rfl (lv_at hl 3 rfl) ?_
                    refine lv_aload_n hx hb dX12_cutAll_172 rfl (lv_at hl 5 rfl) ?_
                    refine va_get (D := D) (ci := 12) (v := .int (V27 0 3)) (C := RX12) (T := TX12) (N := 100) hx hb hg inX12 hown hK hP 0 rfl rfl 3 (by decide) (hg _ w1709) (fun _ h9 => h9) rfl dX12_cutAll_173 ?_
                    refine g_top (v := (V 0 2)) ((up2_o hV27 (by decide)).trans ((ajV6 0 3 rfl).trans ((up2_k hV3 (by decide)).trans (up2_s hV2)))) ?_
                    have J69 : ∀ (H : Heap) (locs : List Loc) (ls : Array Slot), y4.toInt + 1 ≤ y65.toInt → va_P D vwCl (mw ad kk ks.1 V27 L7) H → va_D A (mw ad kk ks.1 V27 L7) → va_S A s.heap H locs → lv_has ls 7 [(5, .long y64), (4, .int y4), (3, .int (V 1 (Int32.toNatClampNeg y4))), (2, .int y65), (1, .int y5), (0, .ref (ad 0))] → W p l e r_s_cutAll s m ([.ref (ad 0)] : List Value).toArray below meth c H locs 0 0 (MQ below (q_s_cutAll D ks ad kk V L  A) ([.ref (ad 0)] : List Value).toArray s 0 0 A) (F0 m 231 ls []) := by
                      intro H locs ls xJ69_0 hP hD hS hl
                      refine lv_aload_n hx hb dX12_cutAll_231 rfl (lv_at hl 5 rfl) ?_
                      refine va_get (D := D) (ci := 12) (v := .ref (ad 4)) (C := RX12) (T := TX12) (N := 100) hx hb hg inX12 hown hK hP 0 rfl rfl 4 (by decide) (hg _ w1710) (fun _ h9 => h9) rfl dX12_cutAll_232 ?_
                      refine lv_iload_n hx hb dX12_cutAll_235 rfl (lv_at hl 4 rfl) ?_
                      refine lv_iload_n hx hb dX12_cutAll_236 rfl (lv_at hl 3 rfl) ?_
                      refine lv_iload hx hb dX12_cutAll_237 (lv_at hl 1 rfl) ?_
                      refine lv_isub hx hb dX12_cutAll_239 ?_
                      refine lv_topi (fun z70 ez70 => ?_)
                      have hz70 : z70.toInt = y65.toInt - y4.toInt := i_sub ez70 rfl rfl (by (first | exact om_fd577cece0ff klp8_0.1 klp66_0.2 xJ69_0 | omega))
                      refine lv_bipush (v := 9) hx hb dX12_cutAll_240 (by decide) ?_
                      have J71 : ∀ (y72 : Int32) (H : Heap) (locs : List Loc) (ls : Array Slot), 2 ≤ y72.toInt ∧ y72.toInt ≤ 4 → va_P D vwCl (mw ad kk ks.1 V27 L7) H → va_D A (mw ad kk ks.1 V27 L7) → va_S A s.heap H locs → lv_has ls 7 [(5, .long y64), (4, .int y4), (3, .int (V 1 (Int32.toNatClampNeg y4))), (2, .int y65), (1, .int y5), (0, .ref (ad 0))] → W p l e r_s_cutAll s m ([.ref (ad 0)] : List Value).toArray below meth c H locs 0 0 (MQ below (q_s_cutAll D ks ad kk V L  A) ([.ref (ad 0)] : List Value).toArray s 0 0 A) (F0 m 250 ls [.int y72, .int y5, .ref (ad 4)]) := by
                        intro y72 H locs ls kJ71_0 hP hD hS hl
                        refine va_iast (D := D) (i := y5) (x := y72) hx hb hK hP hD hS 2 1 rfl rfl (i_in (a := y5.toInt) rfl (by first | exact om_0b7a149ae3dd r1.2 klp8_1.1 xlp8_0 f20 | first | omega | ((try (have i_t45 := Imp.go t45 (imp_a (rgz42.1) (rgz42.2) (f63)))); (try (have i_t32 := Imp.go t32 (f41))); omega) | ((try (have i_t46 := Imp.go t46 (by omega))); (try (have i_t45 := Imp.go t45 (by omega))); (try (have i_t32 := Imp.go t32 (by omega))); (try (have i_t31 := Imp.go t31 (by omega))); first | omega | ((try (have i_t31 := Imp.go t31 (by omega))); (try (have i_t32 := Imp.go t32 (by omega))); (try (have i_t45 := Imp.go t45 (by omega))); (try (have i_t46 := Imp.go t46 (by omega))); omega)))) dX12_cutAll_250 (fun H locs hP hD hS => ?_)
                        obtain ⟨V73, hV73⟩ : ∃ z, z = up2 V27 4 (Int32.toNatClampNeg y5) y72 := ⟨_, rfl⟩
                        have hP : va_P D vwCl (mw ad kk ks.1 V73 L7) H := by rw [hV73]; exact hP
                        have hD : va_D A (mw ad kk ks.1 V73 L7) := by rw [hV73]; exact hD
                        have hMV73 : rgd bM V73 := hMV27.put hV73 (i_full _)
                        have agV73 : agr [(0, 2), (0, 3), (0, 7), (0, 8)] [4, 5, 6] V V73 := agV27.up hV73 rfl
                        refine lv_goto (tgt := 279) hx hb dX12_cutAll_251 (by decide) ?_
                        have pq74 : (V73 0 3).toInt = ((V 0 2)).toInt := congrArg Int32.toInt ((up2_o hV73 (by decide)).trans ((up2_o hV27 (by decide)).trans ((ajV6 0 3 rfl).trans ((up2_k hV3 (by decide)).trans (up2_s hV2)))))
                        exact J33 y64 y65 V73 H locs ls (by first | exact om_3b8486baa068 klp8_0.1 klp66_0.2 xJ69_0 | first | omega | ((try (have i_t45 := Imp.go t45 (imp_a (rgz42.1) (rgz42.2) (f63)))); (try (have i_t32 := Imp.go t32 (f41))); omega) | ((try (have i_t46 := Imp.go t46 (by omega))); (try (have i_t45 := Imp.go t45 (by omega))); (try (have i_t32 := Imp.go t32 (by omega))); (try (have i_t31 := Imp.go t31 (by omega))); first | omega | ((try (have i_t31 := Imp.go t31 (by omega))); (try (have i_t32 := Imp.go t32 (by omega))); (try (have i_t45 := Imp.go t45 (by omega))); (try (have i_t46 := Imp.go t46 (by omega))); omega))) (agr.up agr.rf hV73 rfl) hMV73 (show y4.toInt + 1 ≤ y65.toInt from by first | exact om_e79a1b254bd1 xJ69_0 | first | omega | ((try (have i_t45 := Imp.go t45 (imp_a (rgz42.1) (rgz42.2) (f63)))); (try (have i_t32 := Imp.go t32 (f41))); omega) | ((try (have i_t46 := Imp.go t46 (by omega))); (try (have i_t45 := Imp.go t45 (by omega))); (try (have i_t32 := Imp.go t32 (by omega))); (try (have i_t31 := Imp.go t31 (by omega))); first | omega | ((try (have i_t31 := Imp.go t31 (by omega))); (try (have i_t32 := Imp.go t32 (by omega))); (try (have i_t45 := Imp.go t45 (by omega))); (try (have i_t46 := Imp.go t46 (by omega))); omega))) (show y65.toInt ≤ (V73 0 3).toInt from by first | exact om_550af7e7eacc xlp66_1 pq67 pq74 | first | omega | ((try (have i_t45 := Imp.go t45 (imp_a (rgz42.1) (rgz42.2) (f63)))); (try (have i_t32 := Imp.go t32 (f41))); omega) | ((try (have i_t46 := Imp.go t46 (by omega))); (try (have i_t45 := Imp.go t45 (by omega))); (try (have i_t32 := Imp.go t32 (by omega))); (try (have i_t31 := Imp.go t31 (by omega))); first | omega | ((try (have i_t31 := Imp.go t31 (by omega))); (try (have i_t32 := Imp.go t32 (by omega))); (try (have i_t45 := Imp.go t45 (by omega))); (try (have i_t46 := Imp.go t46 (by omega))); omega))) hP hD hS (lv_sub hl [0, 1, 2, 3, 4, 5] rfl)
                      refine lv_icmp_le (tgt := 249) hx hb dX12_cutAll_242 (by decide) (fun c75 => ?_) (fun c75 => ?_)
                      · skip
                        have f76 : z70.toInt ≤ 9 := b_le rfl (by decide) c75
                        refine lv_iconst (v := 2) hx hb dX12_cutAll_249 (by decide) ?_
                        have r77 : Int32.toInt 2 = 2 := by decide
                        exact J71 2 H locs ls (by decide) hP hD hS (lv_sub hl [0, 1, 2, 3, 4, 5] rfl)
                      · skip
                        have f78 : 9 < z70.toInt := b_nle rfl (by decide) c75
                        refine lv_iconst (v := 4) hx hb dX12_cutAll_245 (by decide) ?_
                        refine lv_goto (tgt := 250) hx hb dX12_cutAll_246 (by decide) ?_
                        have r79 : Int32.toInt 4 = 4 := by decide
                        exact J71 4 H locs ls (by decide) hP hD hS (lv_sub hl [0, 1, 2, 3, 4, 5] rfl)
                    refine lv_icmp_ge (tgt := 231) hx hb dX12_cutAll_176 (by decide) (fun c80 => ?_) (fun c80 => ?_)
                    · skip
                      have f81 : ((V 0 2)).toInt ≤ y65.toInt := b_le rfl rfl c80
                      exact J69  H locs ls (show y4.toInt + 1 ≤ y65.toInt from by first | exact om_f6ee04619897 f20 f81 | first | omega | ((try (have i_t45 := Imp.go t45 (imp_a (rgz42.1) (rgz42.2) (f63)))); (try (have i_t32 := Imp.go t32 (f41))); omega) | ((try (have i_t46 := Imp.go t46 (by omega))); (try (have i_t45 := Imp.go t45 (by omega))); (try (have i_t32 := Imp.go t32 (by omega))); (try (have i_t31 := Imp.go t31 (by omega))); first | omega | ((try (have i_t31 := Imp.go t31 (by omega))); (try (have i_t32 := Imp.go t32 (by omega))); (try (have i_t45 := Imp.go t45 (by omega))); (try (have i_t46 := Imp.go t46 (by omega))); omega))) hP hD hS (lv_sub hl [0, 1, 2, 3, 4, 5] rfl)
                    · skip
                      have f82 : y65.toInt < ((V 0 2)).toInt := b_nle rfl rfl c80
                      refine lv_aload_n hx hb dX12_cutAll_179 rfl (lv_at hl 5 rfl) ?_
                      refine va_get (D := D) (ci := 12) (v := .ref (ad 1)) (C := RX12) (T := TX12) (N := 100) hx hb hg inX12 hown hK hP 0 rfl rfl 1 (by decide) (hg _ w1707) (fun _ h9 => h9) rfl dX12_cutAll_180 ?_
                      refine lv_iload_n hx hb dX12_cutAll_183 rfl (lv_at hl 3 rfl) ?_
                      refine va_iald (D := D) (i := y65) hx hb hK hP 1 0 rfl rfl (i_in (a := y65.toInt) rfl (by first | exact om_ae1ad81edeff r1.2 klp66_0.1 f82 | first | omega | ((try (have i_t45 := Imp.go t45 (imp_a (rgz42.1) (rgz42.2) (f63)))); (try (have i_t32 := Imp.go t32 (f41))); omega) | ((try (have i_t46 := Imp.go t46 (by omega))); (try (have i_t45 := Imp.go t45 (by omega))); (try (have i_t32 := Imp.go t32 (by omega))); (try (have i_t31 := Imp.go t31 (by omega))); first | omega | ((try (have i_t31 := Imp.go t31 (by omega))); (try (have i_t32 := Imp.go t32 (by omega))); (try (have i_t45 := Imp.go t45 (by omega))); (try (have i_t46 := Imp.go t46 (by omega))); omega)))) dX12_cutAll_184 ?_
                      refine g_top (v := (V 1 (Int32.toNatClampNeg y65))) ((up2_o hV27 (by decide)).trans ((ajV6 1 (Int32.toNatClampNeg y65) rfl).trans ((up2_o hV3 (by decide)).trans (up2_o hV2 (by decide))))) ?_
                      refine gE_int (g_runS (As := [.int (V 1 (Int32.toNatClampNeg y65))]) (rest := []) (wc := []) (tc := []) hx hb hml hown hg gw_self hP hD hK hS hA hnw hgk [] [] (by decide) rfl rfl (s_isDigit l D ks H.size (V 1 (Int32.toNatClampNeg y65)) ) w2015 w2016 w172 w2017 hdS_yX12_isDigit ⟨Nat.le_of_ble_eq_true rfl, Nat.le_of_ble_eq_true rfl⟩ rfl hl.1 rfl (Nat.le_of_ble_eq_true rfl) dX12_cutAll_185 ⟨Nat.le_of_ble_eq_true rfl, Nat.le_of_ble_eq_true rfl⟩) hP hD hK hS hA (fun z83 u84 H locs w85 hP hD hK hS => ?_)
                      obtain ⟨rgz83, t86, t87⟩ := w85
                      replace rgz83 : 0 ≤ z83.toInt ∧ z83.toInt ≤ 1 := rgz83
                      replace t86 : Imp (z83.toInt = 1) (48 ≤ ((V 1 (Int32.toNatClampNeg y65))).toInt ∧ ((V 1 (Int32.toNatClampNeg y65))).toInt ≤ 57) := t86
                      replace t87 : Imp (z83.toInt = 0) (((V 1 (Int32.toNatClampNeg y65))).toInt < 48 ∨ 57 < ((V 1 (Int32.toNatClampNeg y65))).toInt) := t87
                      refine lv_if_eq (tgt := 231) hx hb dX12_cutAll_188 (by decide) (fun c88 => ?_) (fun c88 => ?_)
                      · skip
                        have f89 : z83.toInt = 0 := b_eq rfl (by decide) c88
                        exact J69  H locs ls (show y4.toInt + 1 ≤ y65.toInt from by first | omega | ((try (have i_t87 := Imp.go t87 (f89))); (try (have i_t45 := Imp.go t45 (imp_a (rgz42.1) (rgz42.2) (f63)))); (try (have i_t32 := Imp.go t32 (f41))); omega) | ((try (have i_t87 := Imp.go t87 (by omega))); (try (have i_t86 := Imp.go t86 (by omega))); (try (have i_t46 := Imp.go t46 (by omega))); (try (have i_t45 := Imp.go t45 (by omega))); first | omega | ((try (have i_t32 := Imp.go t32 (by omega))); (try (have i_t31 := Imp.go t31 (by omega))); (try (have i_t31 := Imp.go t31 (by omega))); (try (have i_t32 := Imp.go t32 (by omega))); first | omega | ((try (have i_t45 := Imp.go t45 (by omega))); (try (have i_t46 := Imp.go t46 (by omega))); (try (have i_t86 := Imp.go t86 (by omega))); (try (have i_t87 := Imp.go t87 (by omega))); omega)))) hP hD hS (lv_sub hl [0, 1, 2, 3, 4, 5] rfl)
                      · skip
                        have f90 : z83.toInt ≠ 0 := b_neq rfl (by decide) c88
                        refine lv_iload_n hx hb dX12_cutAll_191 rfl (lv_at hl 3 rfl) ?_
                        refine lv_iload hx hb dX12_cutAll_192 (lv_at hl 1 rfl) ?_
                        refine lv_isub hx hb dX12_cutAll_194 ?_
                        refine lv_topi (fun z91 ez91 => ?_)
                        have hz91 : z91.toInt = y65.toInt - y4.toInt := i_sub ez91 rfl rfl (by (first | exact om_3e0184275307 r1.2 klp8_0.1 xlp66_0 f82 | omega))
                        refine lv_bipush (v := 9) hx hb dX12_cutAll_195 (by decide) ?_
                        refine lv_icmp_ge (tgt := 221) hx hb dX12_cutAll_197 (by decide) (fun c92 => ?_) (fun c92 => ?_)
                        · skip
                          have f93 : 9 ≤ z91.toInt := b_le (by decide) rfl c92
                          refine lv_lload hx hb dX12_cutAll_221 (lv_at hl 0 rfl) ?_
                          refine lv_lstore (lv' := [(5, .long y64), (4, .int y4), (3, .int (V 1 (Int32.toNatClampNeg y4))), (2, .int y65), (1, .int y5), (0, .ref (ad 0))]) hx hb dX12_cutAll_223 hl (by decide) rfl (fun ls hl => ?_)
                          obtain ⟨z94, ez94⟩ : ∃ y : Int32, y = y65 + 1 := ⟨_, rfl⟩
                          have hz94 : z94.toInt = y65.toInt + 1 := i_add ez94 rfl (by decide) (by (first | exact om_80d5176ec034 r1.2 klp8_0.1 f82 hz91 f93 | omega))
                          refine lv_iinc (v := z94) (lv' := [(2, .int z94), (5, .long y64), (4, .int y4), (3, .int (V 1 (Int32.toNatClampNeg y4))), (1, .int y5), (0, .ref (ad 0))]) hx hb dX12_cutAll_225 hl (k := 3) rfl (by rw [ez94]; rfl) (by decide) rfl (fun ls hl => ?_)
                          refine lv_goto (tgt := 171) hx hb dX12_cutAll_228 (by decide) ?_
                          have pq95 : (V27 1 (Int32.toNatClampNeg z94)).toInt = ((V 1 (Int32.toNatClampNeg z94))).toInt := congrArg Int32.toInt ((up2_o hV27 (by decide)).trans ((ajV6 1 (Int32.toNatClampNeg z94) rfl).trans ((up2_o hV3 (by decide)).trans (up2_o hV2 (by decide)))))
                          exact ihlp66 y64 z94 H locs ls (by first | exact om_b233172a189d r1.2 klp8_0.1 f82 hz91 f93 hz94 | first | omega | ((try (have i_t86 := Imp.go t86 (imp_a (rgz83.1) (rgz83.2) (f90)))); (try (have i_t45 := Imp.go t45 (imp_a (rgz42.1) (rgz42.2) (f63)))); (try (have i_t32 := Imp.go t32 (f41))); omega) | ((try (have i_t87 := Imp.go t87 (by omega))); (try (have i_t86 := Imp.go t86 (by omega))); (try (have i_t46 := Imp.go t46 (by omega))); (try (have i_t45 := Imp.go t45 (by omega))); first | omega | ((try (have i_t32 := Imp.go t32 (by omega))); (try (have i_t31 := Imp.go t31 (by omega))); (try (have i_t31 := Imp.go t31 (by omega))); (try (have i_t32 := Imp.go t32 (by omega))); first | omega | ((try (have i_t45 := Imp.go t45 (by omega))); (try (have i_t46 := Imp.go t46 (by omega))); (try (have i_t86 := Imp.go t86 (by omega))); (try (have i_t87 := Imp.go t87 (by omega))); omega)))) (show y4.toInt ≤ z94.toInt from by first | exact om_5fbdce89d6c0 hz91 f93 hz94 | first | omega | ((try (have i_t86 := Imp.go t86 (imp_a (rgz83.1) (rgz83.2) (f90)))); (try (have i_t45 := Imp.go t45 (imp_a (rgz42.1) (rgz42.2) (f63)))); (try (have i_t32 := Imp.go t32 (f41))); omega) | ((try (have i_t87 := Imp.go t87 (by omega))); (try (have i_t86 := Imp.go t86 (by omega))); (try (have i_t46 := Imp.go t46 (by omega))); (try (have i_t45 := Imp.go t45 (by omega))); first | omega | ((try (have i_t32 := Imp.go t32 (by omega))); (try (have i_t31 := Imp.go t31 (by omega))); (try (have i_t31 := Imp.go t31 (by omega))); (try (have i_t32 := Imp.go t32 (by omega))); first | omega | ((try (have i_t45 := Imp.go t45 (by omega))); (try (have i_t46 := Imp.go t46 (by omega))); (try (have i_t86 := Imp.go t86 (by omega))); (try (have i_t87 := Imp.go t87 (by omega))); omega)))) (show z94.toInt ≤ (V27 0 3).toInt from by first | exact om_79347f38c257 pq67 f82 hz94 | first | omega | ((try (have i_t86 := Imp.go t86 (imp_a (rgz83.1) (rgz83.2) (f90)))); (try (have i_t45 := Imp.go t45 (imp_a (rgz42.1) (rgz42.2) (f63)))); (try (have i_t32 := Imp.go t32 (f41))); omega) | ((try (have i_t87 := Imp.go t87 (by omega))); (try (have i_t86 := Imp.go t86 (by omega))); (try (have i_t46 := Imp.go t46 (by omega))); (try (have i_t45 := Imp.go t45 (by omega))); first | omega | ((try (have i_t32 := Imp.go t32 (by omega))); (try (have i_t31 := Imp.go t31 (by omega))); (try (have i_t31 := Imp.go t31 (by omega))); (try (have i_t32 := Imp.go t32 (by omega))); first | omega | ((try (have i_t45 := Imp.go t45 (by omega))); (try (have i_t46 := Imp.go t46 (by omega))); (try (have i_t86 := Imp.go t86 (by omega))); (try (have i_t87 := Imp.go t87 (by omega))); omega)))) (show y4.toInt < z94.toInt ∨ (V27 1 (Int32.toNatClampNeg z94)).toInt = ((V 1 (Int32.toNatClampNeg y4))).toInt from by first | exact om_d146aa77c670 hz91 f93 hz94 | first | omega | ((try (have i_t86 := Imp.go t86 (imp_a (rgz83.1) (rgz83.2) (f90)))); (try (have i_t45 := Imp.go t45 (imp_a (rgz42.1) (rgz42.2) (f63)))); (try (have i_t32 := Imp.go t32 (f41))); omega) | ((try (have i_t87 := Imp.go t87 (by omega))); (try (have i_t86 := Imp.go t86 (by omega))); (try (have i_t46 := Imp.go t46 (by omega))); (try (have i_t45 := Imp.go t45 (by omega))); first | omega | ((try (have i_t32 := Imp.go t32 (by omega))); (try (have i_t31 := Imp.go t31 (by omega))); (try (have i_t31 := Imp.go t31 (by omega))); (try (have i_t32 := Imp.go t32 (by omega))); first | omega | ((try (have i_t45 := Imp.go t45 (by omega))); (try (have i_t46 := Imp.go t46 (by omega))); (try (have i_t86 := Imp.go t86 (by omega))); (try (have i_t87 := Imp.go t87 (by omega))); omega)))) (by first | exact om_9e7d2b874257 hn hz94 | first | omega | ((try (have i_t86 := Imp.go t86 (imp_a (rgz83.1) (rgz83.2) (f90)))); (try (have i_t45 := Imp.go t45 (imp_a (rgz42.1) (rgz42.2) (f63)))); (try (have i_t32 := Imp.go t32 (f41))); omega) | ((try (have i_t87 := Imp.go t87 (by omega))); (try (have i_t86 := Imp.go t86 (by omega))); (try (have i_t46 := Imp.go t46 (by omega))); (try (have i_t45 := Imp.go t45 (by omega))); first | omega | ((try (have i_t32 := Imp.go t32 (by omega))); (try (have i_t31 := Imp.go t31 (by omega))); (try (have i_t31 := Imp.go t31 (by omega))); (try (have i_t32 := Imp.go t32 (by omega))); first | omega | ((try (have i_t45 := Imp.go t45 (by omega))); (try (have i_t46 := Imp.go t46 (by omega))); (try (have i_t86 := Imp.go t86 (by omega))); (try (have i_t87 := Imp.go t87 (by omega))); omega)))) hP hD hS (lv_sub hl [1, 2, 3, 0, 4, 5] rfl)
                        · skip
                          have f96 : z91.toInt < 9 := b_nle (by decide) rfl c92
                          refine lv_ldc2 (v := 10) hx hb hown (hg _ w2018) dX12_cutAll_200 ?_
                          refine lv_lload hx hb dX12_cutAll_203 (lv_at hl 0 rfl) ?_
                          refine lv_lmul hx hb dX12_cutAll_205 ?_
                          refine lv_topl (fun w97 ew97 => ?_)
                          refine lv_aload_n hx hb dX12_cutAll_206 rfl (lv_at hl 5 rfl) ?_
                          refine va_get (D := D) (ci := 12) (v := .ref (ad 1)) (C := RX12) (T := TX12) (N := 100) hx hb hg inX12 hown hK hP 0 rfl rfl 1 (by decide) (hg _ w1707) (fun _ h9 => h9) rfl dX12_cutAll_207 ?_
                          refine lv_iload_n hx hb dX12_cutAll_210 rfl (lv_at hl 3 rfl) ?_
                          refine va_iald (D := D) (i := y65) hx hb hK hP 1 0 rfl rfl (i_in (a := y65.toInt) rfl (by first | exact om_f319e852899e r1.2 klp8_0.1 xlp66_0 f82 | first | omega | ((try (have i_t86 := Imp.go t86 (imp_a (rgz83.1) (rgz83.2) (f90)))); (try (have i_t45 := Imp.go t45 (imp_a (rgz42.1) (rgz42.2) (f63)))); (try (have i_t32 := Imp.go t32 (f41))); omega) | ((try (have i_t87 := Imp.go t87 (by omega))); (try (have i_t86 := Imp.go t86 (by omega))); (try (have i_t46 := Imp.go t46 (by omega))); (try (have i_t45 := Imp.go t45 (by omega))); first | omega | ((try (have i_t32 := Imp.go t32 (by omega))); (try (have i_t31 := Imp.go t31 (by omega))); (try (have i_t31 := Imp.go t31 (by omega))); (try (have i_t32 := Imp.go t32 (by omega))); first | omega | ((try (have i_t45 := Imp.go t45 (by omega))); (try (have i_t46 := Imp.go t46 (by omega))); (try (have i_t86 := Imp.go t86 (by omega))); (try (have i_t87 := Imp.go t87 (by omega))); omega))))) dX12_cutAll_211 ?_
                          refine g_top (v := (V 1 (Int32.toNatClampNeg y65))) ((up2_o hV27 (by decide)).trans ((ajV6 1 (Int32.toNatClampNeg y65) rfl).trans ((up2_o hV3 (by decide)).trans (up2_o hV2 (by decide))))) ?_
                          refine lv_i2l hx hb dX12_cutAll_212 rfl ?_
                          refine lv_topl (fun w98 ew98 => ?_)
                          refine lv_ladd hx hb dX12_cutAll_213 ?_
                          refine lv_topl (fun w99 ew99 => ?_)
                          refine lv_ldc2 (v := 48) hx hb hown (hg _ w2019) dX12_cutAll_214 ?_
                          refine lv_lsub hx hb dX12_cutAll_217 ?_
                          refine lv_topl (fun w100 ew100 => ?_)
                          refine lv_goto (tgt := 223) hx hb dX12_cutAll_218 (by decide) ?_
                          refine lv_lstore (lv' := [(5, .long w100), (4, .int y4), (3, .int (V 1 (Int32.toNatClampNeg y4))), (2, .int y65), (1, .int y5), (0, .ref (ad 0))]) hx hb dX12_cutAll_223 hl (by decide) rfl (fun ls hl => ?_)
                          obtain ⟨z101, ez101⟩ : ∃ y : Int32, y = y65 + 1 := ⟨_, rfl⟩
                          have hz101 : z101.toInt = y65.toInt + 1 := i_add ez101 rfl (by decide) (by (first | exact om_cf147208ce66 r1.2 klp8_0.1 xlp66_0 f82 | omega))
                          refine lv_iinc (v := z101) (lv' := [(2, .int z101), (5, .long w100), (4, .int y4), (3, .int (V 1 (Int32.toNatClampNeg y4))), (1, .int y5), (0, .ref (ad 0))]) hx hb dX12_cutAll_225 hl (k := 3) rfl (by rw [ez101]; rfl) (by decide) rfl (fun ls hl => ?_)
                          refine lv_goto (tgt := 171) hx hb dX12_cutAll_228 (by decide) ?_
                          have pq102 : (V27 1 (Int32.toNatClampNeg z101)).toInt = ((V 1 (Int32.toNatClampNeg z101))).toInt := congrArg Int32.toInt ((up2_o hV27 (by decide)).trans ((ajV6 1 (Int32.toNatClampNeg z101) rfl).trans ((up2_o hV3 (by decide)).trans (up2_o hV2 (by decide)))))
                          exact ihlp66 w100 z101 H locs ls (by first | exact om_324fc6cf93cf r1.2 klp8_0.1 xlp66_0 f82 hz101 | first | omega | ((try (have i_t86 := Imp.go t86 (imp_a (rgz83.1) (rgz83.2) (f90)))); (try (have i_t45 := Imp.go t45 (imp_a (rgz42.1) (rgz42.2) (f63)))); (try (have i_t32 := Imp.go t32 (f41))); omega) | ((try (have i_t87 := Imp.go t87 (by omega))); (try (have i_t86 := Imp.go t86 (by omega))); (try (have i_t46 := Imp.go t46 (by omega))); (try (have i_t45 := Imp.go t45 (by omega))); first | omega | ((try (have i_t32 := Imp.go t32 (by omega))); (try (have i_t31 := Imp.go t31 (by omega))); (try (have i_t31 := Imp.go t31 (by omega))); (try (have i_t32 := Imp.go t32 (by omega))); first | omega | ((try (have i_t45 := Imp.go t45 (by omega))); (try (have i_t46 := Imp.go t46 (by omega))); (try (have i_t86 := Imp.go t86 (by omega))); (try (have i_t87 := Imp.go t87 (by omega))); omega)))) (show y4.toInt ≤ z101.toInt from by first | exact om_f75a30b4c815 xlp66_0 hz101 | first | omega | ((try (have i_t86 := Imp.go t86 (imp_a (rgz83.1) (rgz83.2) (f90)))); (try (have i_t45 := Imp.go t45 (imp_a (rgz42.1) (rgz42.2) (f63)))); (try (have i_t32 := Imp.go t32 (f41))); omega) | ((try (have i_t87 := Imp.go t87 (by omega))); (try (have i_t86 := Imp.go t86 (by omega))); (try (have i_t46 := Imp.go t46 (by omega))); (try (have i_t45 := Imp.go t45 (by omega))); first | omega | ((try (have i_t32 := Imp.go t32 (by omega))); (try (have i_t31 := Imp.go t31 (by omega))); (try (have i_t31 := Imp.go t31 (by omega))); (try (have i_t32 := Imp.go t32 (by omega))); first | omega | ((try (have i_t45 := Imp.go t45 (by omega))); (try (have i_t46 := Imp.go t46 (by omega))); (try (have i_t86 := Imp.go t86 (by omega))); (try (have i_t87 := Imp.go t87 (by omega))); omega)))) (show z101.toInt ≤ (V27 0 3).toInt from by first | exact om_79347f38c257 pq67 f82 hz101 | first | omega | ((try (have i_t86 := Imp.go t86 (imp_a (rgz83.1) (rgz83.2) (f90)))); (try (have i_t45 := Imp.go t45 (imp_a (rgz42.1) (rgz42.2) (f63)))); (try (have i_t32 := Imp.go t32 (f41))); omega) | ((try (have i_t87 := Imp.go t87 (by omega))); (try (have i_t86 := Imp.go t86 (by omega))); (try (have i_t46 := Imp.go t46 (by omega))); (try (have i_t45 := Imp.go t45 (by omega))); first | omega | ((try (have i_t32 := Imp.go t32 (by omega))); (try (have i_t31 := Imp.go t31 (by omega))); (try (have i_t31 := Imp.go t31 (by omega))); (try (have i_t32 := Imp.go t32 (by omega))); first | omega | ((try (have i_t45 := Imp.go t45 (by omega))); (try (have i_t46 := Imp.go t46 (by omega))); (try (have i_t86 := Imp.go t86 (by omega))); (try (have i_t87 := Imp.go t87 (by omega))); omega)))) (show y4.toInt < z101.toInt ∨ (V27 1 (Int32.toNatClampNeg z101)).toInt = ((V 1 (Int32.toNatClampNeg y4))).toInt from by first | exact om_e78eabd0518c xlp66_0 hz101 | first | omega | ((try (have i_t86 := Imp.go t86 (imp_a (rgz83.1) (rgz83.2) (f90)))); (try (have i_t45 := Imp.go t45 (imp_a (rgz42.1) (rgz42.2) (f63)))); (try (have i_t32 := Imp.go t32 (f41))); omega) | ((try (have i_t87 := Imp.go t87 (by omega))); (try (have i_t86 := Imp.go t86 (by omega))); (try (have i_t46 := Imp.go t46 (by omega))); (try (have i_t45 := Imp.go t45 (by omega))); first | omega | ((try (have i_t32 := Imp.go t32 (by omega))); (try (have i_t31 := Imp.go t31 (by omega))); (try (have i_t31 := Imp.go t31 (by omega))); (try (have i_t32 := Imp.go t32 (by omega))); first | omega | ((try (have i_t45 := Imp.go t45 (by omega))); (try (have i_t46 := Imp.go t46 (by omega))); (try (have i_t86 := Imp.go t86 (by omega))); (try (have i_t87 := Imp.go t87 (by omega))); omega)))) (by first | exact om_9e7d2b874257 hn hz101 | first | omega | ((try (have i_t86 := Imp.go t86 (imp_a (rgz83.1) (rgz83.2) (f90)))); (try (have i_t45 := Imp.go t45 (imp_a (rgz42.1) (rgz42.2) (f63)))); (try (have i_t32 := Imp.go t32 (f41))); omega) | ((try (have i_t87 := Imp.go t87 (by omega))); (try (have i_t86 := Imp.go t86 (by omega))); (try (have i_t46 := Imp.go t46 (by omega))); (try (have i_t45 := Imp.go t45 (by omega))); first | omega | ((try (have i_t32 := Imp.go t32 (by omega))); (try (have i_t31 := Imp.go t31 (by omega))); (try (have i_t31 := Imp.go t31 (by omega))); (try (have i_t32 := Imp.go t32 (by omega))); first | omega | ((try (have i_t45 := Imp.go t45 (by omega))); (try (have i_t46 := Imp.go t46 (by omega))); (try (have i_t86 := Imp.go t86 (by omega))); (try (have i_t87 := Imp.go t87 (by omega))); omega)))) hP hD hS (lv_sub hl [1, 2, 3, 0, 4, 5] rfl)
                have pq103 : (V27 0 3).toInt = ((V 0 2)).toInt := congrArg Int32.toInt ((up2_o hV27 (by decide)).trans ((ajV6 0 3 rfl).trans ((up2_k hV3 (by decide)).trans (up2_s hV2))))
                have pq104 : (V27 1 (Int32.toNatClampNeg y4)).toInt = ((V 1 (Int32.toNatClampNeg y4))).toInt := congrArg Int32.toInt ((up2_o hV27 (by decide)).trans ((ajV6 1 (Int32.toNatClampNeg y4) rfl).trans ((up2_o hV3 (by decide)).trans (up2_o hV2 (by decide)))))
                exact lp66 (((V27 0 3).toInt - y4.toInt + 1 : Int).toNat) 0 y4 H locs ls (by first | exact om_fb8e2a868ece r1.2 klp8_0.1 f20 | first | omega | ((try (have i_t45 := Imp.go t45 (imp_a (rgz42.1) (rgz42.2) (f63)))); (try (have i_t32 := Imp.go t32 (f41))); omega) | ((try (have i_t46 := Imp.go t46 (by omega))); (try (have i_t45 := Imp.go t45 (by omega))); (try (have i_t32 := Imp.go t32 (by omega))); (try (have i_t31 := Imp.go t31 (by omega))); first | omega | ((try (have i_t31 := Imp.go t31 (by omega))); (try (have i_t32 := Imp.go t32 (by omega))); (try (have i_t45 := Imp.go t45 (by omega))); (try (have i_t46 := Imp.go t46 (by omega))); omega))) (show y4.toInt ≤ y4.toInt from by first | exact om_5977f3d8a10f | first | omega | ((try (have i_t45 := Imp.go t45 (imp_a (rgz42.1) (rgz42.2) (f63)))); (try (have i_t32 := Imp.go t32 (f41))); omega) | ((try (have i_t46 := Imp.go t46 (by omega))); (try (have i_t45 := Imp.go t45 (by omega))); (try (have i_t32 := Imp.go t32 (by omega))); (try (have i_t31 := Imp.go t31 (by omega))); first | omega | ((try (have i_t31 := Imp.go t31 (by omega))); (try (have i_t32 := Imp.go t32 (by omega))); (try (have i_t45 := Imp.go t45 (by omega))); (try (have i_t46 := Imp.go t46 (by omega))); omega))) (show y4.toInt ≤ (V27 0 3).toInt from by first | exact om_2c59d391d7ea f20 pq103 | first | omega | ((try (have i_t45 := Imp.go t45 (imp_a (rgz42.1) (rgz42.2) (f63)))); (try (have i_t32 := Imp.go t32 (f41))); omega) | ((try (have i_t46 := Imp.go t46 (by omega))); (try (have i_t45 := Imp.go t45 (by omega))); (try (have i_t32 := Imp.go t32 (by omega))); (try (have i_t31 := Imp.go t31 (by omega))); first | omega | ((try (have i_t31 := Imp.go t31 (by omega))); (try (have i_t32 := Imp.go t32 (by omega))); (try (have i_t45 := Imp.go t45 (by omega))); (try (have i_t46 := Imp.go t46 (by omega))); omega))) (show y4.toInt < y4.toInt ∨ (V27 1 (Int32.toNatClampNeg y4)).toInt = ((V 1 (Int32.toNatClampNeg y4))).toInt from by first | exact om_1790f370ae94 pq104 | first | omega | ((try (have i_t45 := Imp.go t45 (imp_a (rgz42.1) (rgz42.2) (f63)))); (try (have i_t32 := Imp.go t32 (f41))); omega) | ((try (have i_t46 := Imp.go t46 (by omega))); (try (have i_t45 := Imp.go t45 (by omega))); (try (have i_t32 := Imp.go t32 (by omega))); (try (have i_t31 := Imp.go t31 (by omega))); first | omega | ((try (have i_t31 := Imp.go t31 (by omega))); (try (have i_t32 := Imp.go t32 (by omega))); (try (have i_t45 := Imp.go t45 (by omega))); (try (have i_t46 := Imp.go t46 (by omega))); omega))) (by first | exact om_7441a7786481 | first | omega | ((try (have i_t45 := Imp.go t45 (imp_a (rgz42.1) (rgz42.2) (f63)))); (try (have i_t32 := Imp.go t32 (f41))); omega) | ((try (have i_t46 := Imp.go t46 (by omega))); (try (have i_t45 := Imp.go t45 (by omega))); (try (have i_t32 := Imp.go t32 (by omega))); (try (have i_t31 := Imp.go t31 (by omega))); first | omega | ((try (have i_t31 := Imp.go t31 (by omega))); (try (have i_t32 := Imp.go t32 (by omega))); (try (have i_t45 := Imp.go t45 (by omega))); (try (have i_t46 := Imp.go t46 (by omega))); omega))) hP hD hS (lv_sub hl [0, 1, 2, 3, 4, 5] rfl)
            · skip
              have f105 : z28.toInt ≠ 0 := b_neq rfl (by decide) c40
              have lp108 : ∀ (fulp108 : Nat) (y106 : Int64) (y107 : Int32) (H : Heap) (locs : List Loc) (ls : Array Slot), 0 ≤ y107.toInt ∧ y107.toInt ≤ 4000 → y4.toInt ≤ y107.toInt → y107.toInt ≤ (V27 0 3).toInt → y4.toInt < y107.toInt ∨ (V27 1 (Int32.toNatClampNeg y107)).toInt = ((V 1 (Int32.toNatClampNeg y4))).toInt → (V27 0 3).toInt - y107.toInt < (fulp108 : Int) → va_P D vwCl (mw ad kk ks.1 V27 L7) H → va_D A (mw ad kk ks.1 V27 L7) → va_S A s.heap H locs → lv_has ls 7 [(5, .long y106), (4, .int y4), (3, .int (V 1 (Int32.toNatClampNeg y4))), (2, .int y107), (1, .int y5), (0, .ref (ad 0))] → W p l e r_s_cutAll s m ([.ref (ad 0)] : List Value).toArray below meth c H locs 0 0 (MQ below (q_s_cutAll D ks ad kk V L  A) ([.ref (ad 0)] : List Value).toArray s 0 0 A) (F0 m 70 ls []) := by
                intro fulp108
                induction fulp108 with
                | zero =>
                  intro y106 y107 H locs ls klp108_0 xlp108_0 xlp108_1 xlp108_2 hn  hP hD hS hl
                  exfalso; (first | exact om_4634b1278845 xlp108_1 hn | omega)
                | succ fulp108 ihlp108 =>
                  intro y106 y107 H locs ls klp108_0 xlp108_0 xlp108_1 xlp108_2 hn  hP hD hS hl
                  have pq109 : (V27 0 3).toInt = ((V 0 2)).toInt := congrArg Int32.toInt ((up2_o hV27 (by decide)).trans ((ajV6 0 3 rfl).trans ((up2_k hV3 (by decide)).trans (up2_s hV2))))
                  have pq110 : (V27 1 (Int32.toNatClampNeg y107)).toInt = ((V 1 (Int32.toNatClampNeg y107))).toInt := congrArg Int32.toInt ((up2_o hV27 (by decide)).trans ((ajV6 1 (Int32.toNatClampNeg y107) rfl).trans ((up2_o hV3 (by decide)).trans (up2_o hV2 (by decide)))))
                  refine lv_iload_n hx hb dX12_cutAll_70 rfl (lv_at hl 3 rfl) ?_
                  refine lv_aload_n hx hb dX12_cutAll_71 rfl (lv_at hl 5 rfl) ?_
                  refine va_get (D := D) (ci := 12) (v := .int (V27 0 3)) (C := RX12) (T := TX12) (N := 100) hx hb hg inX12 hown hK hP 0 rfl rfl 3 (by decide) (hg _ w1709) (fun _ h9 => h9) rfl dX12_cutAll_72 ?_
                  refine g_top (v := (V 0 2)) ((up2_o hV27 (by decide)).trans ((ajV6 0 3 rfl).trans ((up2_k hV3 (by decide)).trans (up2_s hV2)))) ?_
                  have J111 : ∀ (H : Heap) (locs : List Loc) (ls : Array Slot), y4.toInt + 1 ≤ y107.toInt → va_P D vwCl (mw ad kk ks.1 V27 L7) H → va_D A (mw ad kk ks.1 V27 L7) → va_S A s.heap H locs → lv_has ls 7 [(5, .long y106), (4, .int y4), (3, .int (V 1 (Int32.toNatClampNeg y4))), (2, .int y107), (1, .int y5), (0, .ref (ad 0))] → W p l e r_s_cutAll s m ([.ref (ad 0)] : List Value).toArray below meth c H locs 0 0 (MQ below (q_s_cutAll D ks ad kk V L  A) ([.ref (ad 0)] : List Value).toArray s 0 0 A) (F0 m 141 ls []) := by
                    intro H locs ls xJ111_0 hP hD hS hl
                    refine lv_aload_n hx hb dX12_cutAll_141 rfl (lv_at hl 5 rfl) ?_
                    refine va_get (D := D) (ci := 12) (v := .ref (ad 4)) (C := RX12) (T := TX12) (N := 100) hx hb hg inX12 hown hK hP 0 rfl rfl 4 (by decide) (hg _ w1710) (fun _ h9 => h9) rfl dX12_cutAll_142 ?_
                    refine lv_iload_n hx hb dX12_cutAll_145 rfl (lv_at hl 4 rfl) ?_
                    refine lv_iload_n hx hb dX12_cutAll_146 rfl (lv_at hl 3 rfl) ?_
                    refine lv_iload hx hb dX12_cutAll_147 (lv_at hl 1 rfl) ?_
                    refine lv_isub hx hb dX12_cutAll_149 ?_
                    refine lv_topi (fun z112 ez112 => ?_)
                    have hz112 : z112.toInt = y107.toInt - y4.toInt := i_sub ez112 rfl rfl (by (first | exact om_fd577cece0ff klp8_0.1 klp108_0.2 xJ111_0 | omega))
                    refine lv_bipush (v := 12) hx hb dX12_cutAll_150 (by decide) ?_
                    have J113 : ∀ (y114 : Int32) (H : Heap) (locs : List Loc) (ls : Array Slot), 1 ≤ y114.toInt ∧ y114.toInt ≤ 4 → va_P D vwCl (mw ad kk ks.1 V27 L7) H → va_D A (mw ad kk ks.1 V27 L7) → va_S A s.heap H locs → lv_has ls 7 [(5, .long y106), (4, .int y4), (3, .int (V 1 (Int32.toNatClampNeg y4))), (2, .int y107), (1, .int y5), (0, .ref (ad 0))] → W p l e r_s_cutAll s m ([.ref (ad 0)] : List Value).toArray below meth c H locs 0 0 (MQ below (q_s_cutAll D ks ad kk V L  A) ([.ref (ad 0)] : List Value).toArray s 0 0 A) (F0 m 160 ls [.int y114, .int y5, .ref (ad 4)]) := by
                      intro y114 H locs ls kJ113_0 hP hD hS hl
                      refine va_iast (D := D) (i := y5) (x := y114) hx hb hK hP hD hS 2 1 rfl rfl (i_in (a := y5.toInt) rfl (by first | exact om_0b7a149ae3dd r1.2 klp8_1.1 xlp8_0 f20 | first | omega | ((try (have i_t32 := Imp.go t32 (by omega))); (try (have i_t31 := Imp.go t31 (by omega))); (try (have i_t31 := Imp.go t31 (by omega))); (try (have i_t32 := Imp.go t32 (by omega))); omega))) dX12_cutAll_160 (fun H locs hP hD hS => ?_)
                      obtain ⟨V115, hV115⟩ : ∃ z, z = up2 V27 4 (Int32.toNatClampNeg y5) y114 := ⟨_, rfl⟩
                      have hP : va_P D vwCl (mw ad kk ks.1 V115 L7) H := by rw [hV115]; exact hP
                      have hD : va_D A (mw ad kk ks.1 V115 L7) := by rw [hV115]; exact hD
                      have hMV115 : rgd bM V115 := hMV27.put hV115 (i_full _)
                      have agV115 : agr [(0, 2), (0, 3), (0, 7), (0, 8)] [4, 5, 6] V V115 := agV27.up hV115 rfl
                      refine lv_goto (tgt := 279) hx hb dX12_cutAll_161 (by decide) ?_
                      have pq116 : (V115 0 3).toInt = ((V 0 2)).toInt := congrArg Int32.toInt ((up2_o hV115 (by decide)).trans ((up2_o hV27 (by decide)).trans ((ajV6 0 3 rfl).trans ((up2_k hV3 (by decide)).trans (up2_s hV2)))))
                      exact J33 y106 y107 V115 H locs ls (by first | exact om_3b8486baa068 klp8_0.1 klp108_0.2 xJ111_0 | first | omega | ((try (have i_t32 := Imp.go t32 (by omega))); (try (have i_t31 := Imp.go t31 (by omega))); (try (have i_t31 := Imp.go t31 (by omega))); (try (have i_t32 := Imp.go t32 (by omega))); omega)) (agr.up agr.rf hV115 rfl) hMV115 (show y4.toInt + 1 ≤ y107.toInt from by first | exact om_e79a1b254bd1 xJ111_0 | first | omega | ((try (have i_t32 := Imp.go t32 (by omega))); (try (have i_t31 := Imp.go t31 (by omega))); (try (have i_t31 := Imp.go t31 (by omega))); (try (have i_t32 := Imp.go t32 (by omega))); omega)) (show y107.toInt ≤ (V115 0 3).toInt from by first | exact om_550af7e7eacc xlp108_1 pq109 pq116 | first | omega | ((try (have i_t32 := Imp.go t32 (by omega))); (try (have i_t31 := Imp.go t31 (by omega))); (try (have i_t31 := Imp.go t31 (by omega))); (try (have i_t32 := Imp.go t32 (by omega))); omega)) hP hD hS (lv_sub hl [0, 1, 2, 3, 4, 5] rfl)
                    refine lv_icmp_le (tgt := 159) hx hb dX12_cutAll_152 (by decide) (fun c117 => ?_) (fun c117 => ?_)
                    · skip
                      have f118 : z112.toInt ≤ 12 := b_le rfl (by decide) c117
                      refine lv_iconst (v := 1) hx hb dX12_cutAll_159 (by decide) ?_
                      have r119 : Int32.toInt 1 = 1 := by decide
                      exact J113 1 H locs ls (by decide) hP hD hS (lv_sub hl [0, 1, 2, 3, 4, 5] rfl)
                    · skip
                      have f120 : 12 < z112.toInt := b_nle rfl (by decide) c117
                      refine lv_iconst (v := 4) hx hb dX12_cutAll_155 (by decide) ?_
                      refine lv_goto (tgt := 160) hx hb dX12_cutAll_156 (by decide) ?_
                      have r121 : Int32.toInt 4 = 4 := by decide
                      exact J113 4 H locs ls (by decide) hP hD hS (lv_sub hl [0, 1, 2, 3, 4, 5] rfl)
                  refine lv_icmp_ge (tgt := 141) hx hb dX12_cutAll_75 (by decide) (fun c122 => ?_) (fun c122 => ?_)
                  · skip
                    have f123 : ((V 0 2)).toInt ≤ y107.toInt := b_le rfl rfl c122
                    exact J111  H locs ls (show y4.toInt + 1 ≤ y107.toInt from by first | exact om_f6ee04619897 f20 f123 | first | omega | ((try (have i_t32 := Imp.go t32 (by omega))); (try (have i_t31 := Imp.go t31 (by omega))); (try (have i_t31 := Imp.go t31 (by omega))); (try (have i_t32 := Imp.go t32 (by omega))); omega)) hP hD hS (lv_sub hl [0, 1, 2, 3, 4, 5] rfl)
                  · skip
                    have f124 : y107.toInt < ((V 0 2)).toInt := b_nle rfl rfl c122
                    refine lv_aload_n hx hb dX12_cutAll_78 rfl (lv_at hl 5 rfl) ?_
                    refine va_get (D := D) (ci := 12) (v := .ref (ad 1)) (C := RX12) (T := TX12) (N := 100) hx hb hg inX12 hown hK hP 0 rfl rfl 1 (by decide) (hg _ w1707) (fun _ h9 => h9) rfl dX12_cutAll_79 ?_
                    refine lv_iload_n hx hb dX12_cutAll_82 rfl (lv_at hl 3 rfl) ?_
                    refine va_iald (D := D) (i := y107) hx hb hK hP 1 0 rfl rfl (i_in (a := y107.toInt) rfl (by first | exact om_ae1ad81edeff r1.2 klp108_0.1 f124 | first | omega | ((try (have i_t32 := Imp.go t32 (by omega))); (try (have i_t31 := Imp.go t31 (by omega))); (try (have i_t31 := Imp.go t31 (by omega))); (try (have i_t32 := Imp.go t32 (by omega))); omega))) dX12_cutAll_83 ?_
                    refine g_top (v := (V 1 (Int32.toNatClampNeg y107))) ((up2_o hV27 (by decide)).trans ((ajV6 1 (Int32.toNatClampNeg y107) rfl).trans ((up2_o hV3 (by decide)).trans (up2_o hV2 (by decide))))) ?_
                    refine gE_int (g_runS (As := [.int (V 1 (Int32.toNatClampNeg y107))]) (rest := []) (wc := []) (tc := []) hx hb hml hown hg gw_self hP hD hK hS hA hnw hgk [] [] (by decide) rfl rfl (s_isLetter l D ks H.size (V 1 (Int32.toNatClampNeg y107)) ) w1703 w1704 w172 w1705 hdS_yX12_isLetter ⟨Nat.le_of_ble_eq_true rfl, Nat.le_of_ble_eq_true rfl⟩ rfl hl.1 rfl (Nat.le_of_ble_eq_true rfl) dX12_cutAll_84 ⟨Nat.le_of_ble_eq_true rfl, Nat.le_of_ble_eq_true rfl⟩) hP hD hK hS hA (fun z125 u126 H locs w127 hP hD hK hS => ?_)
                    obtain ⟨rgz125, t128, t129⟩ := w127
                    replace rgz125 : 0 ≤ z125.toInt ∧ z125.toInt ≤ 1 := rgz125
                    replace t128 : Imp (z125.toInt = 1) (97 ≤ ((V 1 (Int32.toNatClampNeg y107))).toInt ∧ ((V 1 (Int32.toNatClampNeg y107))).toInt ≤ 122) := t128
                    replace t129 : Imp (z125.toInt = 0) (((V 1 (Int32.toNatClampNeg y107))).toInt < 97 ∨ 122 < ((V 1 (Int32.toNatClampNeg y107))).toInt) := t129
                    refine lv_if_ne (tgt := 102) hx hb dX12_cutAll_87 (by decide) (fun c130 => ?_) (fun c130 => ?_)
                    · skip
                      have f131 : z125.toInt ≠ 0 := b_neq rfl (by decide) c130
                      refine lv_iload_n hx hb dX12_cutAll_102 rfl (lv_at hl 3 rfl) ?_
                      refine lv_iload hx hb dX12_cutAll_103 (lv_at hl 1 rfl) ?_
                      refine lv_isub hx hb dX12_cutAll_105 ?_
                      refine lv_topi (fun z132 ez132 => ?_)
                      have hz132 : z132.toInt = y107.toInt - y4.toInt := i_sub ez132 rfl rfl (by (first | exact om_3e0184275307 r1.2 klp8_0.1 xlp108_0 f124 | omega))
                      refine lv_bipush (v := 12) hx hb dX12_cutAll_106 (by decide) ?_
                      refine lv_icmp_ge (tgt := 131) hx hb dX12_cutAll_108 (by decide) (fun c133 => ?_) (fun c133 => ?_)
                      · skip
                        have f134 : 12 ≤ z132.toInt := b_le (by decide) rfl c133
                        refine lv_lload hx hb dX12_cutAll_131 (lv_at hl 0 rfl) ?_
                        refine lv_lstore (lv' := [(5, .long y106), (4, .int y4), (3, .int (V 1 (Int32.toNatClampNeg y4))), (2, .int y107), (1, .int y5), (0, .ref (ad 0))]) hx hb dX12_cutAll_133 hl (by decide) rfl (fun ls hl => ?_)
                        obtain ⟨z135, ez135⟩ : ∃ y : Int32, y = y107 + 1 := ⟨_, rfl⟩
                        have hz135 : z135.toInt = y107.toInt + 1 := i_add ez135 rfl (by decide) (by (first | exact om_1fb90afb766b r1.2 klp8_0.1 f124 hz132 f134 | omega))
                        refine lv_iinc (v := z135) (lv' := [(2, .int z135), (5, .long y106), (4, .int y4), (3, .int (V 1 (Int32.toNatClampNeg y4))), (1, .int y5), (0, .ref (ad 0))]) hx hb dX12_cutAll_135 hl (k := 3) rfl (by rw [ez135]; rfl) (by decide) rfl (fun ls hl => ?_)
                        refine lv_goto (tgt := 70) hx hb dX12_cutAll_138 (by decide) ?_
                        have pq136 : (V27 1 (Int32.toNatClampNeg z135)).toInt = ((V 1 (Int32.toNatClampNeg z135))).toInt := congrArg Int32.toInt ((up2_o hV27 (by decide)).trans ((ajV6 1 (Int32.toNatClampNeg z135) rfl).trans ((up2_o hV3 (by decide)).trans (up2_o hV2 (by decide)))))
                        exact ihlp108 y106 z135 H locs ls (by first | exact om_dccd5b7d6bc1 r1.2 klp8_0.1 f124 hz132 f134 hz135 | first | omega | ((try (have i_t128 := Imp.go t128 (imp_a (rgz125.1) (rgz125.2) (f131)))); (try (have i_t31 := Imp.go t31 (imp_a (rgz28.1) (rgz28.2) (f105)))); omega) | ((try (have i_t129 := Imp.go t129 (by omega))); (try (have i_t128 := Imp.go t128 (by omega))); (try (have i_t32 := Imp.go t32 (by omega))); (try (have i_t31 := Imp.go t31 (by omega))); first | omega | ((try (have i_t31 := Imp.go t31 (by omega))); (try (have i_t32 := Imp.go t32 (by omega))); (try (have i_t128 := Imp.go t128 (by omega))); (try (have i_t129 := Imp.go t129 (by omega))); omega))) (show y4.toInt ≤ z135.toInt from by first | exact om_d6b680963097 hz132 f134 hz135 | first | omega | ((try (have i_t128 := Imp.go t128 (imp_a (rgz125.1) (rgz125.2) (f131)))); (try (have i_t31 := Imp.go t31 (imp_a (rgz28.1) (rgz28.2) (f105)))); omega) | ((try (have i_t129 := Imp.go t129 (by omega))); (try (have i_t128 := Imp.go t128 (by omega))); (try (have i_t32 := Imp.go t32 (by omega))); (try (have i_t31 := Imp.go t31 (by omega))); first | omega | ((try (have i_t31 := Imp.go t31 (by omega))); (try (have i_t32 := Imp.go t32 (by omega))); (try (have i_t128 := Imp.go t128 (by omega))); (try (have i_t129 := Imp.go t129 (by omega))); omega))) (show z135.toInt ≤ (V27 0 3).toInt from by first | exact om_79347f38c257 pq109 f124 hz135 | first | omega | ((try (have i_t128 := Imp.go t128 (imp_a (rgz125.1) (rgz125.2) (f131)))); (try (have i_t31 := Imp.go t31 (imp_a (rgz28.1) (rgz28.2) (f105)))); omega) | ((try (have i_t129 := Imp.go t129 (by omega))); (try (have i_t128 := Imp.go t128 (by omega))); (try (have i_t32 := Imp.go t32 (by omega))); (try (have i_t31 := Imp.go t31 (by omega))); first | omega | ((try (have i_t31 := Imp.go t31 (by omega))); (try (have i_t32 := Imp.go t32 (by omega))); (try (have i_t128 := Imp.go t128 (by omega))); (try (have i_t129 := Imp.go t129 (by omega))); omega))) (show y4.toInt < z135.toInt ∨ (V27 1 (Int32.toNatClampNeg z135)).toInt = ((V 1 (Int32.toNatClampNeg y4))).toInt from by first | exact om_eda29b08a86a hz132 f134 hz135 | first | omega | ((try (have i_t128 := Imp.go t128 (imp_a (rgz125.1) (rgz125.2) (f131)))); (try (have i_t31 := Imp.go t31 (imp_a (rgz28.1) (rgz28.2) (f105)))); omega) | ((try (have i_t129 := Imp.go t129 (by omega))); (try (have i_t128 := Imp.go t128 (by omega))); (try (have i_t32 := Imp.go t32 (by omega))); (try (have i_t31 := Imp.go t31 (by omega))); first | omega | ((try (have i_t31 := Imp.go t31 (by omega))); (try (have i_t32 := Imp.go t32 (by omega))); (try (have i_t128 := Imp.go t128 (by omega))); (try (have i_t129 := Imp.go t129 (by omega))); omega))) (by first | exact om_9e7d2b874257 hn hz135 | first | omega | ((try (have i_t128 := Imp.go t128 (imp_a (rgz125.1) (rgz125.2) (f131)))); (try (have i_t31 := Imp.go t31 (imp_a (rgz28.1) (rgz28.2) (f105)))); omega) | ((try (have i_t129 := Imp.go t129 (by omega))); (try (have i_t128 := Imp.go t128 (by omega))); (try (have i_t32 := Imp.go t32 (by omega))); (try (have i_t31 := Imp.go t31 (by omega))); first | omega | ((try (have i_t31 := Imp.go t31 (by omega))); (try (have i_t32 := Imp.go t32 (by omega))); (try (have i_t128 := Imp.go t128 (by omega))); (try (have i_t129 := Imp.go t129 (by omega))); omega))) hP hD hS (lv_sub hl [1, 2, 3, 0, 4, 5] rfl)
                      · skip
                        have f137 : z132.toInt < 12 := b_nle (by decide) rfl c133
                        refine lv_ldc2 (v := 37) hx hb hown (hg _ w1699) dX12_cutAll_111 ?_
                        refine lv_lload hx hb dX12_cutAll_114 (lv_at hl 0 rfl) ?_
                        refine lv_lmul hx hb dX12_cutAll_116 ?_
                        refine lv_topl (fun w138 ew138 => ?_)
                        refine lv_aload_n hx hb dX12_cutAll_117 rfl (lv_at hl 5 rfl) ?_
                        refine va_get (D := D) (ci := 12) (v := .ref (ad 1)) (C := RX12) (T := TX12) (N := 100) hx hb hg inX12 hown hK hP 0 rfl rfl 1 (by decide) (hg _ w1707) (fun _ h9 => h9) rfl dX12_cutAll_118 ?_
                        refine lv_iload_n hx hb dX12_cutAll_121 rfl (lv_at hl 3 rfl) ?_
                        refine va_iald (D := D) (i := y107) hx hb hK hP 1 0 rfl rfl (i_in (a := y107.toInt) rfl (by first | exact om_f319e852899e r1.2 klp8_0.1 xlp108_0 f124 | first | omega | ((try (have i_t128 := Imp.go t128 (imp_a (rgz125.1) (rgz125.2) (f131)))); (try (have i_t31 := Imp.go t31 (imp_a (rgz28.1) (rgz28.2) (f105)))); omega) | ((try (have i_t129 := Imp.go t129 (by omega))); (try (have i_t128 := Imp.go t128 (by omega))); (try (have i_t32 := Imp.go t32 (by omega))); (try (have i_t31 := Imp.go t31 (by omega))); first | omega | ((try (have i_t31 := Imp.go t31 (by omega))); (try (have i_t32 := Imp.go t32 (by omega))); (try (have i_t128 := Imp.go t128 (by omega))); (try (have i_t129 := Imp.go t129 (by omega))); omega)))) dX12_cutAll_122 ?_
                        refine g_top (v := (V 1 (Int32.toNatClampNeg y107))) ((up2_o hV27 (by decide)).trans ((ajV6 1 (Int32.toNatClampNeg y107) rfl).trans ((up2_o hV3 (by decide)).trans (up2_o hV2 (by decide))))) ?_
                        refine gE_int (g_runS (As := [.int (V 1 (Int32.toNatClampNeg y107))]) (rest := [.long w138]) (wc := []) (tc := []) hx hb hml hown hg gw_self hP hD hK hS hA hnw hgk [] [] (by decide) rfl rfl (s_rank l D ks H.size (V 1 (Int32.toNatClampNeg y107)) ) w1700 w1701 w172 w1702 hdS_yX12_rank ⟨Nat.le_of_ble_eq_true rfl, Nat.le_of_ble_eq_true rfl⟩ rfl hl.1 rfl (Nat.le_of_ble_eq_true rfl) dX12_cutAll_123 ⟨Nat.le_of_ble_eq_true rfl, Nat.le_of_ble_eq_true rfl⟩) hP hD hK hS hA (fun z139 u140 H locs w141 hP hD hK hS => ?_)
                        refine lv_i2l hx hb dX12_cutAll_126 rfl ?_
                        refine lv_topl (fun w142 ew142 => ?_)
                        refine lv_ladd hx hb dX12_cutAll_127 ?_
                        refine lv_topl (fun w143 ew143 => ?_)
                        refine lv_goto (tgt := 133) hx hb dX12_cutAll_128 (by decide) ?_
                        refine lv_lstore (lv' := [(5, .long w143), (4, .int y4), (3, .int (V 1 (Int32.toNatClampNeg y4))), (2, .int y107), (1, .int y5), (0, .ref (ad 0))]) hx hb dX12_cutAll_133 hl (by decide) rfl (fun ls hl => ?_)
                        obtain ⟨z144, ez144⟩ : ∃ y : Int32, y = y107 + 1 := ⟨_, rfl⟩
                        have hz144 : z144.toInt = y107.toInt + 1 := i_add ez144 rfl (by decide) (by (first | exact om_cf147208ce66 r1.2 klp8_0.1 xlp108_0 f124 | omega))
                        refine lv_iinc (v := z144) (lv' := [(2, .int z144), (5, .long w143), (4, .int y4), (3, .int (V 1 (Int32.toNatClampNeg y4))), (1, .int y5), (0, .ref (ad 0))]) hx hb dX12_cutAll_135 hl (k := 3) rfl (by rw [ez144]; rfl) (by decide) rfl (fun ls hl => ?_)
                        refine lv_goto (tgt := 70) hx hb dX12_cutAll_138 (by decide) ?_
                        have pq145 : (V27 1 (Int32.toNatClampNeg z144)).toInt = ((V 1 (Int32.toNatClampNeg z144))).toInt := congrArg Int32.toInt ((up2_o hV27 (by decide)).trans ((ajV6 1 (Int32.toNatClampNeg z144) rfl).trans ((up2_o hV3 (by decide)).trans (up2_o hV2 (by decide)))))
                        exact ihlp108 w143 z144 H locs ls (by first | exact om_324fc6cf93cf r1.2 klp8_0.1 xlp108_0 f124 hz144 | first | omega | ((try (have i_t128 := Imp.go t128 (imp_a (rgz125.1) (rgz125.2) (f131)))); (try (have i_t31 := Imp.go t31 (imp_a (rgz28.1) (rgz28.2) (f105)))); omega) | ((try (have i_t129 := Imp.go t129 (by omega))); (try (have i_t128 := Imp.go t128 (by omega))); (try (have i_t32 := Imp.go t32 (by omega))); (try (have i_t31 := Imp.go t31 (by omega))); first | omega | ((try (have i_t31 := Imp.go t31 (by omega))); (try (have i_t32 := Imp.go t32 (by omega))); (try (have i_t128 := Imp.go t128 (by omega))); (try (have i_t129 := Imp.go t129 (by omega))); omega))) (show y4.toInt ≤ z144.toInt from by first | exact om_f75a30b4c815 xlp108_0 hz144 | first | omega | ((try (have i_t128 := Imp.go t128 (imp_a (rgz125.1) (rgz125.2) (f131)))); (try (have i_t31 := Imp.go t31 (imp_a (rgz28.1) (rgz28.2) (f105)))); omega) | ((try (have i_t129 := Imp.go t129 (by omega))); (try (have i_t128 := Imp.go t128 (by omega))); (try (have i_t32 := Imp.go t32 (by omega))); (try (have i_t31 := Imp.go t31 (by omega))); first | omega | ((try (have i_t31 := Imp.go t31 (by omega))); (try (have i_t32 := Imp.go t32 (by omega))); (try (have i_t128 := Imp.go t128 (by omega))); (try (have i_t129 := Imp.go t129 (by omega))); omega))) (show z144.toInt ≤ (V27 0 3).toInt from by first | exact om_79347f38c257 pq109 f124 hz144 | first | omega | ((try (have i_t128 := Imp.go t128 (imp_a (rgz125.1) (rgz125.2) (f131)))); (try (have i_t31 := Imp.go t31 (imp_a (rgz28.1) (rgz28.2) (f105)))); omega) | ((try (have i_t129 := Imp.go t129 (by omega))); (try (have i_t128 := Imp.go t128 (by omega))); (try (have i_t32 := Imp.go t32 (by omega))); (try (have i_t31 := Imp.go t31 (by omega))); first | omega | ((try (have i_t31 := Imp.go t31 (by omega))); (try (have i_t32 := Imp.go t32 (by omega))); (try (have i_t128 := Imp.go t128 (by omega))); (try (have i_t129 := Imp.go t129 (by omega))); omega))) (show y4.toInt < z144.toInt ∨ (V27 1 (Int32.toNatClampNeg z144)).toInt = ((V 1 (Int32.toNatClampNeg y4))).toInt from by first | exact om_e78eabd0518c xlp108_0 hz144 | first | omega | ((try (have i_t128 := Imp.go t128 (imp_a (rgz125.1) (rgz125.2) (f131)))); (try (have i_t31 := Imp.go t31 (imp_a (rgz28.1) (rgz28.2) (f105)))); omega) | ((try (have i_t129 := Imp.go t129 (by omega))); (try (have i_t128 := Imp.go t128 (by omega))); (try (have i_t32 := Imp.go t32 (by omega))); (try (have i_t31 := Imp.go t31 (by omega))); first | omega | ((try (have i_t31 := Imp.go t31 (by omega))); (try (have i_t32 := Imp.go t32 (by omega))); (try (have i_t128 := Imp.go t128 (by omega))); (try (have i_t129 := Imp.go t129 (by omega))); omega))) (by first | exact om_9e7d2b874257 hn hz144 | first | omega | ((try (have i_t128 := Imp.go t128 (imp_a (rgz125.1) (rgz125.2) (f131)))); (try (have i_t31 := Imp.go t31 (imp_a (rgz28.1) (rgz28.2) (f105)))); omega) | ((try (have i_t129 := Imp.go t129 (by omega))); (try (have i_t128 := Imp.go t128 (by omega))); (try (have i_t32 := Imp.go t32 (by omega))); (try (have i_t31 := Imp.go t31 (by omega))); first | omega | ((try (have i_t31 := Imp.go t31 (by omega))); (try (have i_t32 := Imp.go t32 (by omega))); (try (have i_t128 := Imp.go t128 (by omega))); (try (have i_t129 := Imp.go t129 (by omega))); omega))) hP hD hS (lv_sub hl [1, 2, 3, 0, 4, 5] rfl)
                    · skip
                      have f146 : z125.toInt = 0 := b_eq rfl (by decide) c130
                      refine lv_aload_n hx hb dX12_cutAll_90 rfl (lv_at hl 5 rfl) ?_
                      refine va_get (D := D) (ci := 12) (v := .ref (ad 1)) (C := RX12) (T := TX12) (N := 100) hx hb hg inX12 hown hK hP 0 rfl rfl 1 (by decide) (hg _ w1707) (fun _ h9 => h9) rfl dX12_cutAll_91 ?_
                      refine lv_iload_n hx hb dX12_cutAll_94 rfl (lv_at hl 3 rfl) ?_
                      refine va_iald (D := D) (i := y107) hx hb hK hP 1 0 rfl rfl (i_in (a := y107.toInt) rfl (by first | exact om_ae1ad81edeff r1.2 klp108_0.1 f124 | first | omega | ((try (have i_t129 := Imp.go t129 (f146))); (try (have i_t31 := Imp.go t31 (imp_a (rgz28.1) (rgz28.2) (f105)))); omega) | ((try (have i_t129 := Imp.go t129 (by omega))); (try (have i_t128 := Imp.go t128 (by omega))); (try (have i_t32 := Imp.go t32 (by omega))); (try (have i_t31 := Imp.go t31 (by omega))); first | omega | ((try (have i_t31 := Imp.go t31 (by omega))); (try (have i_t32 := Imp.go t32 (by omega))); (try (have i_t128 := Imp.go t128 (by omega))); (try (have i_t129 := Imp.go t129 (by omega))); omega)))) dX12_cutAll_95 ?_
                      refine g_top (v := (V 1 (Int32.toNatClampNeg y107))) ((up2_o hV27 (by decide)).trans ((ajV6 1 (Int32.toNatClampNeg y107) rfl).trans ((up2_o hV3 (by decide)).trans (up2_o hV2 (by decide))))) ?_
                      refine gE_int (g_runS (As := [.int (V 1 (Int32.toNatClampNeg y107))]) (rest := []) (wc := []) (tc := []) hx hb hml hown hg gw_self hP hD hK hS hA hnw hgk [] [] (by decide) rfl rfl (s_isDigit l D ks H.size (V 1 (Int32.toNatClampNeg y107)) ) w2015 w2016 w172 w2017 hdS_yX12_isDigit ⟨Nat.le_of_ble_eq_true rfl, Nat.le_of_ble_eq_true rfl⟩ rfl hl.1 rfl (Nat.le_of_ble_eq_true rfl) dX12_cutAll_96 ⟨Nat.le_of_ble_eq_true rfl, Nat.le_of_ble_eq_true rfl⟩) hP hD hK hS hA (fun z147 u148 H locs w149 hP hD hK hS => ?_)
                      obtain ⟨rgz147, t150, t151⟩ := w149
                      replace rgz147 : 0 ≤ z147.toInt ∧ z147.toInt ≤ 1 := rgz147
                      replace t150 : Imp (z147.toInt = 1) (48 ≤ ((V 1 (Int32.toNatClampNeg y107))).toInt ∧ ((V 1 (Int32.toNatClampNeg y107))).toInt ≤ 57) := t150
                      replace t151 : Imp (z147.toInt = 0) (((V 1 (Int32.toNatClampNeg y107))).toInt < 48 ∨ 57 < ((V 1 (Int32.toNatClampNeg y107))).toInt) := t151
                      refine lv_if_eq (tgt := 141) hx hb dX12_cutAll_99 (by decide) (fun c152 => ?_) (fun c152 => ?_)
                      · skip
                        have f153 : z147.toInt = 0 := b_eq rfl (by decide) c152
                        exact J111  H locs ls (show y4.toInt + 1 ≤ y107.toInt from by first | omega | ((try (have i_t151 := Imp.go t151 (f153))); (try (have i_t129 := Imp.go t129 (f146))); (try (have i_t31 := Imp.go t31 (imp_a (rgz28.1) (rgz28.2) (f105)))); omega) | ((try (have i_t151 := Imp.go t151 (by omega))); (try (have i_t150 := Imp.go t150 (by omega))); (try (have i_t129 := Imp.go t129 (by omega))); (try (have i_t128 := Imp.go t128 (by omega))); first | omega | ((try (have i_t32 := Imp.go t32 (by omega))); (try (have i_t31 := Imp.go t31 (by omega))); (try (have i_t31 := Imp.go t31 (by omega))); (try (have i_t32 := Imp.go t32 (by omega))); first | omega | ((try (have i_t128 := Imp.go t128 (by omega))); (try (have i_t129 := Imp.go t129 (by omega))); (try (have i_t150 := Imp.go t150 (by omega))); (try (have i_t151 := Imp.go t151 (by omega))); omega)))) hP hD hS (lv_sub hl [0, 1, 2, 3, 4, 5] rfl)
                      · skip
                        have f154 : z147.toInt ≠ 0 := b_neq rfl (by decide) c152
                        refine lv_iload_n hx hb dX12_cutAll_102 rfl (lv_at hl 3 rfl) ?_
                        refine lv_iload hx hb dX12_cutAll_103 (lv_at hl 1 rfl) ?_
                        refine lv_isub hx hb dX12_cutAll_105 ?_
                        refine lv_topi (fun z155 ez155 => ?_)
                        have hz155 : z155.toInt = y107.toInt - y4.toInt := i_sub ez155 rfl rfl (by (first | exact om_3e0184275307 r1.2 klp8_0.1 xlp108_0 f124 | omega))
                        refine lv_bipush (v := 12) hx hb dX12_cutAll_106 (by decide) ?_
                        refine lv_icmp_ge (tgt := 131) hx hb dX12_cutAll_108 (by decide) (fun c156 => ?_) (fun c156 => ?_)
                        · skip
                          have f157 : 12 ≤ z155.toInt := b_le (by decide) rfl c156
                          refine lv_lload hx hb dX12_cutAll_131 (lv_at hl 0 rfl) ?_
                          refine lv_lstore (lv' := [(5, .long y106), (4, .int y4), (3, .int (V 1 (Int32.toNatClampNeg y4))), (2, .int y107), (1, .int y5), (0, .ref (ad 0))]) hx hb dX12_cutAll_133 hl (by decide) rfl (fun ls hl => ?_)
                          obtain ⟨z158, ez158⟩ : ∃ y : Int32, y = y107 + 1 := ⟨_, rfl⟩
                          have hz158 : z158.toInt = y107.toInt + 1 := i_add ez158 rfl (by decide) (by (first | exact om_1fb90afb766b r1.2 klp8_0.1 f124 hz155 f157 | omega))
                          refine lv_iinc (v := z158) (lv' := [(2, .int z158), (5, .long y106), (4, .int y4), (3, .int (V 1 (Int32.toNatClampNeg y4))), (1, .int y5), (0, .ref (ad 0))]) hx hb dX12_cutAll_135 hl (k := 3) rfl (by rw [ez158]; rfl) (by decide) rfl (fun ls hl => ?_)
                          refine lv_goto (tgt := 70) hx hb dX12_cutAll_138 (by decide) ?_
                          have pq159 : (V27 1 (Int32.toNatClampNeg z158)).toInt = ((V 1 (Int32.toNatClampNeg z158))).toInt := congrArg Int32.toInt ((up2_o hV27 (by decide)).trans ((ajV6 1 (Int32.toNatClampNeg z158) rfl).trans ((up2_o hV3 (by decide)).trans (up2_o hV2 (by decide)))))
                          exact ihlp108 y106 z158 H locs ls (by first | exact om_dccd5b7d6bc1 r1.2 klp8_0.1 f124 hz155 f157 hz158 | first | omega | ((try (have i_t150 := Imp.go t150 (imp_a (rgz147.1) (rgz147.2) (f154)))); (try (have i_t129 := Imp.go t129 (f146))); (try (have i_t31 := Imp.go t31 (imp_a (rgz28.1) (rgz28.2) (f105)))); omega) | ((try (have i_t151 := Imp.go t151 (by omega))); (try (have i_t150 := Imp.go t150 (by omega))); (try (have i_t129 := Imp.go t129 (by omega))); (try (have i_t128 := Imp.go t128 (by omega))); first | omega | ((try (have i_t32 := Imp.go t32 (by omega))); (try (have i_t31 := Imp.go t31 (by omega))); (try (have i_t31 := Imp.go t31 (by omega))); (try (have i_t32 := Imp.go t32 (by omega))); first | omega | ((try (have i_t128 := Imp.go t128 (by omega))); (try (have i_t129 := Imp.go t129 (by omega))); (try (have i_t150 := Imp.go t150 (by omega))); (try (have i_t151 := Imp.go t151 (by omega))); omega)))) (show y4.toInt ≤ z158.toInt from by first | exact om_d6b680963097 hz155 f157 hz158 | first | omega | ((try (have i_t150 := Imp.go t150 (imp_a (rgz147.1) (rgz147.2) (f154)))); (try (have i_t129 := Imp.go t129 (f146))); (try (have i_t31 := Imp.go t31 (imp_a (rgz28.1) (rgz28.2) (f105)))); omega) | ((try (have i_t151 := Imp.go t151 (by omega))); (try (have i_t150 := Imp.go t150 (by omega))); (try (have i_t129 := Imp.go t129 (by omega))); (try (have i_t128 := Imp.go t128 (by omega))); first | omega | ((try (have i_t32 := Imp.go t32 (by omega))); (try (have i_t31 := Imp.go t31 (by omega))); (try (have i_t31 := Imp.go t31 (by omega))); (try (have i_t32 := Imp.go t32 (by omega))); first | omega | ((try (have i_t128 := Imp.go t128 (by omega))); (try (have i_t129 := Imp.go t129 (by omega))); (try (have i_t150 := Imp.go t150 (by omega))); (try (have i_t151 := Imp.go t151 (by omega))); omega)))) (show z158.toInt ≤ (V27 0 3).toInt from by first | exact om_79347f38c257 pq109 f124 hz158 | first | omega | ((try (have i_t150 := Imp.go t150 (imp_a (rgz147.1) (rgz147.2) (f154)))); (try (have i_t129 := Imp.go t129 (f146))); (try (have i_t31 := Imp.go t31 (imp_a (rgz28.1) (rgz28.2) (f105)))); omega) | ((try (have i_t151 := Imp.go t151 (by omega))); (try (have i_t150 := Imp.go t150 (by omega))); (try (have i_t129 := Imp.go t129 (by omega))); (try (have i_t128 := Imp.go t128 (by omega))); first | omega | ((try (have i_t32 := Imp.go t32 (by omega))); (try (have i_t31 := Imp.go t31 (by omega))); (try (have i_t31 := Imp.go t31 (by omega))); (try (have i_t32 := Imp.go t32 (by omega))); first | omega | ((try (have i_t128 := Imp.go t128 (by omega))); (try (have i_t129 := Imp.go t129 (by omega))); (try (have i_t150 := Imp.go t150 (by omega))); (try (have i_t151 := Imp.go t151 (by omega))); omega)))) (show y4.toInt < z158.toInt ∨ (V27 1 (Int32.toNatClampNeg z158)).toInt = ((V 1 (Int32.toNatClampNeg y4))).toInt from by first | exact om_eda29b08a86a hz155 f157 hz158 | first | omega | ((try (have i_t150 := Imp.go t150 (imp_a (rgz147.1) (rgz147.2) (f154)))); (try (have i_t129 := Imp.go t129 (f146))); (try (have i_t31 := Imp.go t31 (imp_a (rgz28.1) (rgz28.2) (f105)))); omega) | ((try (have i_t151 := Imp.go t151 (by omega))); (try (have i_t150 := Imp.go t150 (by omega))); (try (have i_t129 := Imp.go t129 (by omega))); (try (have i_t128 := Imp.go t128 (by omega))); first | omega | ((try (have i_t32 := Imp.go t32 (by omega))); (try (have i_t31 := Imp.go t31 (by omega))); (try (have i_t31 := Imp.go t31 (by omega))); (try (have i_t32 := Imp.go t32 (by omega))); first | omega | ((try (have i_t128 := Imp.go t128 (by omega))); (try (have i_t129 := Imp.go t129 (by omega))); (try (have i_t150 := Imp.go t150 (by omega))); (try (have i_t151 := Imp.go t151 (by omega))); omega)))) (by first | exact om_9e7d2b874257 hn hz158 | first | omega | ((try (have i_t150 := Imp.go t150 (imp_a (rgz147.1) (rgz147.2) (f154)))); (try (have i_t129 := Imp.go t129 (f146))); (try (have i_t31 := Imp.go t31 (imp_a (rgz28.1) (rgz28.2) (f105)))); omega) | ((try (have i_t151 := Imp.go t151 (by omega))); (try (have i_t150 := Imp.go t150 (by omega))); (try (have i_t129 := Imp.go t129 (by omega))); (try (have i_t128 := Imp.go t128 (by omega))); first | omega | ((try (have i_t32 := Imp.go t32 (by omega))); (try (have i_t31 := Imp.go t31 (by omega))); (try (have i_t31 := Imp.go t31 (by omega))); (try (have i_t32 := Imp.go t32 (by omega))); first | omega | ((try (have i_t128 := Imp.go t128 (by omega))); (try (have i_t129 := Imp.go t129 (by omega))); (try (have i_t150 := Imp.go t150 (by omega))); (try (have i_t151 := Imp.go t151 (by omega))); omega)))) hP hD hS (lv_sub hl [1, 2, 3, 0, 4, 5] rfl)
                        · skip
                          have f160 : z155.toInt < 12 := b_nle (by decide) rfl c156
                          refine lv_ldc2 (v := 37) hx hb hown (hg _ w1699) dX12_cutAll_111 ?_
                          refine lv_lload hx hb dX12_cutAll_114 (lv_at hl 0 rfl) ?_
                          refine lv_lmul hx hb dX12_cutAll_116 ?_
                          refine lv_topl (fun w161 ew161 => ?_)
                          refine lv_aload_n hx hb dX12_cutAll_117 rfl (lv_at hl 5 rfl) ?_
                          refine va_get (D := D) (ci := 12) (v := .ref (ad 1)) (C := RX12) (T := TX12) (N := 100) hx hb hg inX12 hown hK hP 0 rfl rfl 1 (by decide) (hg _ w1707) (fun _ h9 => h9) rfl dX12_cutAll_118 ?_
                          refine lv_iload_n hx hb dX12_cutAll_121 rfl (lv_at hl 3 rfl) ?_
                          refine va_iald (D := D) (i := y107) hx hb hK hP 1 0 rfl rfl (i_in (a := y107.toInt) rfl (by first | exact om_f319e852899e r1.2 klp8_0.1 xlp108_0 f124 | first | omega | ((try (have i_t150 := Imp.go t150 (imp_a (rgz147.1) (rgz147.2) (f154)))); (try (have i_t129 := Imp.go t129 (f146))); (try (have i_t31 := Imp.go t31 (imp_a (rgz28.1) (rgz28.2) (f105)))); omega) | ((try (have i_t151 := Imp.go t151 (by omega))); (try (have i_t150 := Imp.go t150 (by omega))); (try (have i_t129 := Imp.go t129 (by omega))); (try (have i_t128 := Imp.go t128 (by omega))); first | omega | ((try (have i_t32 := Imp.go t32 (by omega))); (try (have i_t31 := Imp.go t31 (by omega))); (try (have i_t31 := Imp.go t31 (by omega))); (try (have i_t32 := Imp.go t32 (by omega))); first | omega | ((try (have i_t128 := Imp.go t128 (by omega))); (try (have i_t129 := Imp.go t129 (by omega))); (try (have i_t150 := Imp.go t150 (by omega))); (try (have i_t151 := Imp.go t151 (by omega))); omega))))) dX12_cutAll_122 ?_
                          refine g_top (v := (V 1 (Int32.toNatClampNeg y107))) ((up2_o hV27 (by decide)).trans ((ajV6 1 (Int32.toNatClampNeg y107) rfl).trans ((up2_o hV3 (by decide)).trans (up2_o hV2 (by decide))))) ?_
                          refine gE_int (g_runS (As := [.int (V 1 (Int32.toNatClampNeg y107))]) (rest := [.long w161]) (wc := []) (tc := []) hx hb hml hown hg gw_self hP hD hK hS hA hnw hgk [] [] (by decide) rfl rfl (s_rank l D ks H.size (V 1 (Int32.toNatClampNeg y107)) ) w1700 w1701 w172 w1702 hdS_yX12_rank ⟨Nat.le_of_ble_eq_true rfl, Nat.le_of_ble_eq_true rfl⟩ rfl hl.1 rfl (Nat.le_of_ble_eq_true rfl) dX12_cutAll_123 ⟨Nat.le_of_ble_eq_true rfl, Nat.le_of_ble_eq_true rfl⟩) hP hD hK hS hA (fun z162 u163 H locs w164 hP hD hK hS => ?_)
                          refine lv_i2l hx hb dX12_cutAll_126 rfl ?_
                          refine lv_topl (fun w165 ew165 => ?_)
                          refine lv_ladd hx hb dX12_cutAll_127 ?_
                          refine lv_topl (fun w166 ew166 => ?_)
                          refine lv_goto (tgt := 133) hx hb dX12_cutAll_128 (by decide) ?_
                          refine lv_lstore (lv' := [(5, .long w166), (4, .int y4), (3, .int (V 1 (Int32.toNatClampNeg y4))), (2, .int y107), (1, .int y5), (0, .ref (ad 0))]) hx hb dX12_cutAll_133 hl (by decide) rfl (fun ls hl => ?_)
                          obtain ⟨z167, ez167⟩ : ∃ y : Int32, y = y107 + 1 := ⟨_, rfl⟩
                          have hz167 : z167.toInt = y107.toInt + 1 := i_add ez167 rfl (by decide) (by (first | exact om_cf147208ce66 r1.2 klp8_0.1 xlp108_0 f124 | omega))
                          refine lv_iinc (v := z167) (lv' := [(2, .int z167), (5, .long w166), (4, .int y4), (3, .int (V 1 (Int32.toNatClampNeg y4))), (1, .int y5), (0, .ref (ad 0))]) hx hb dX12_cutAll_135 hl (k := 3) rfl (by rw [ez167]; rfl) (by decide) rfl (fun ls hl => ?_)
                          refine lv_goto (tgt := 70) hx hb dX12_cutAll_138 (by decide) ?_
                          have pq168 : (V27 1 (Int32.toNatClampNeg z167)).toInt = ((V 1 (Int32.toNatClampNeg z167))).toInt := congrArg Int32.toInt ((up2_o hV27 (by decide)).trans ((ajV6 1 (Int32.toNatClampNeg z167) rfl).trans ((up2_o hV3 (by decide)).trans (up2_o hV2 (by decide)))))
                          exact ihlp108 w166 z167 H locs ls (by first | exact om_324fc6cf93cf r1.2 klp8_0.1 xlp108_0 f124 hz167 | first | omega | ((try (have i_t150 := Imp.go t150 (imp_a (rgz147.1) (rgz147.2) (f154)))); (try (have i_t129 := Imp.go t129 (f146))); (try (have i_t31 := Imp.go t31 (imp_a (rgz28.1) (rgz28.2) (f105)))); omega) | ((try (have i_t151 := Imp.go t151 (by omega))); (try (have i_t150 := Imp.go t150 (by omega))); (try (have i_t129 := Imp.go t129 (by omega))); (try (have i_t128 := Imp.go t128 (by omega))); first | omega | ((try (have i_t32 := Imp.go t32 (by omega))); (try (have i_t31 := Imp.go t31 (by omega))); (try (have i_t31 := Imp.go t31 (by omega))); (try (have i_t32 := Imp.go t32 (by omega))); first | omega | ((try (have i_t128 := Imp.go t128 (by omega))); (try (have i_t129 := Imp.go t129 (by omega))); (try (have i_t150 := Imp.go t150 (by omega))); (try (have i_t151 := Imp.go t151 (by omega))); omega)))) (show y4.toInt ≤ z167.toInt from by first | exact om_f75a30b4c815 xlp108_0 hz167 | first | omega | ((try (have i_t150 := Imp.go t150 (imp_a (rgz147.1) (rgz147.2) (f154)))); (try (have i_t129 := Imp.go t129 (f146))); (try (have i_t31 := Imp.go t31 (imp_a (rgz28.1) (rgz28.2) (f105)))); omega) | ((try (have i_t151 := Imp.go t151 (by omega))); (try (have i_t150 := Imp.go t150 (by omega))); (try (have i_t129 := Imp.go t129 (by omega))); (try (have i_t128 := Imp.go t128 (by omega))); first | omega | ((try (have i_t32 := Imp.go t32 (by omega))); (try (have i_t31 := Imp.go t31 (by omega))); (try (have i_t31 := Imp.go t31 (by omega))); (try (have i_t32 := Imp.go t32 (by omega))); first | omega | ((try (have i_t128 := Imp.go t128 (by omega))); (try (have i_t129 := Imp.go t129 (by omega))); (try (have i_t150 := Imp.go t150 (by omega))); (try (have i_t151 := Imp.go t151 (by omega))); omega)))) (show z167.toInt ≤ (V27 0 3).toInt from by first | exact om_79347f38c257 pq109 f124 hz167 | first | omega | ((try (have i_t150 := Imp.go t150 (imp_a (rgz147.1) (rgz147.2) (f154)))); (try (have i_t129 := Imp.go t129 (f146))); (try (have i_t31 := Imp.go t31 (imp_a (rgz28.1) (rgz28.2) (f105)))); omega) | ((try (have i_t151 := Imp.go t151 (by omega))); (try (have i_t150 := Imp.go t150 (by omega))); (try (have i_t129 := Imp.go t129 (by omega))); (try (have i_t128 := Imp.go t128 (by omega))); first | omega | ((try (have i_t32 := Imp.go t32 (by omega))); (try (have i_t31 := Imp.go t31 (by omega))); (try (have i_t31 := Imp.go t31 (by omega))); (try (have i_t32 := Imp.go t32 (by omega))); first | omega | ((try (have i_t128 := Imp.go t128 (by omega))); (try (have i_t129 := Imp.go t129 (by omega))); (try (have i_t150 := Imp.go t150 (by omega))); (try (have i_t151 := Imp.go t151 (by omega))); omega)))) (show y4.toInt < z167.toInt ∨ (V27 1 (Int32.toNatClampNeg z167)).toInt = ((V 1 (Int32.toNatClampNeg y4))).toInt from by first | exact om_e78eabd0518c xlp108_0 hz167 | first | omega | ((try (have i_t150 := Imp.go t150 (imp_a (rgz147.1) (rgz147.2) (f154)))); (try (have i_t129 := Imp.go t129 (f146))); (try (have i_t31 := Imp.go t31 (imp_a (rgz28.1) (rgz28.2) (f105)))); omega) | ((try (have i_t151 := Imp.go t151 (by omega))); (try (have i_t150 := Imp.go t150 (by omega))); (try (have i_t129 := Imp.go t129 (by omega))); (try (have i_t128 := Imp.go t128 (by omega))); first | omega | ((try (have i_t32 := Imp.go t32 (by omega))); (try (have i_t31 := Imp.go t31 (by omega))); (try (have i_t31 := Imp.go t31 (by omega))); (try (have i_t32 := Imp.go t32 (by omega))); first | omega | ((try (have i_t128 := Imp.go t128 (by omega))); (try (have i_t129 := Imp.go t129 (by omega))); (try (have i_t150 := Imp.go t150 (by omega))); (try (have i_t151 := Imp.go t151 (by omega))); omega)))) (by first | exact om_9e7d2b874257 hn hz167 | first | omega | ((try (have i_t150 := Imp.go t150 (imp_a (rgz147.1) (rgz147.2) (f154)))); (try (have i_t129 := Imp.go t129 (f146))); (try (have i_t31 := Imp.go t31 (imp_a (rgz28.1) (rgz28.2) (f105)))); omega) | ((try (have i_t151 := Imp.go t151 (by omega))); (try (have i_t150 := Imp.go t150 (by omega))); (try (have i_t129 := Imp.go t129 (by omega))); (try (have i_t128 := Imp.go t128 (by omega))); first | omega | ((try (have i_t32 := Imp.go t32 (by omega))); (try (have i_t31 := Imp.go t31 (by omega))); (try (have i_t31 := Imp.go t31 (by omega))); (try (have i_t32 := Imp.go t32 (by omega))); first | omega | ((try (have i_t128 := Imp.go t128 (by omega))); (try (have i_t129 := Imp.go t129 (by omega))); (try (have i_t150 := Imp.go t150 (by omega))); (try (have i_t151 := Imp.go t151 (by omega))); omega)))) hP hD hS (lv_sub hl [1, 2, 3, 0, 4, 5] rfl)
              have pq169 : (V27 0 3).toInt = ((V 0 2)).toInt := congrArg Int32.toInt ((up2_o hV27 (by decide)).trans ((ajV6 0 3 rfl).trans ((up2_k hV3 (by decide)).trans (up2_s hV2))))
              have pq170 : (V27 1 (Int32.toNatClampNeg y4)).toInt = ((V 1 (Int32.toNatClampNeg y4))).toInt := congrArg Int32.toInt ((up2_o hV27 (by decide)).trans ((ajV6 1 (Int32.toNatClampNeg y4) rfl).trans ((up2_o hV3 (by decide)).trans (up2_o hV2 (by decide)))))
              exact lp108 (((V27 0 3).toInt - y4.toInt + 1 : Int).toNat) 0 y4 H locs ls (by first | exact om_fb8e2a868ece r1.2 klp8_0.1 f20 | first | omega | ((try (have i_t32 := Imp.go t32 (by omega))); (try (have i_t31 := Imp.go t31 (by omega))); (try (have i_t31 := Imp.go t31 (by omega))); (try (have i_t32 := Imp.go t32 (by omega))); omega)) (show y4.toInt ≤ y4.toInt from by first | exact om_5977f3d8a10f | first | omega | ((try (have i_t32 := Imp.go t32 (by omega))); (try (have i_t31 := Imp.go t31 (by omega))); (try (have i_t31 := Imp.go t31 (by omega))); (try (have i_t32 := Imp.go t32 (by omega))); omega)) (show y4.toInt ≤ (V27 0 3).toInt from by first | exact om_2c59d391d7ea f20 pq169 | first | omega | ((try (have i_t32 := Imp.go t32 (by omega))); (try (have i_t31 := Imp.go t31 (by omega))); (try (have i_t31 := Imp.go t31 (by omega))); (try (have i_t32 := Imp.go t32 (by omega))); omega)) (show y4.toInt < y4.toInt ∨ (V27 1 (Int32.toNatClampNeg y4)).toInt = ((V 1 (Int32.toNatClampNeg y4))).toInt from by first | exact om_1790f370ae94 pq170 | first | omega | ((try (have i_t32 := Imp.go t32 (by omega))); (try (have i_t31 := Imp.go t31 (by omega))); (try (have i_t31 := Imp.go t31 (by omega))); (try (have i_t32 := Imp.go t32 (by omega))); omega)) (by first | exact om_7441a7786481 | first | omega | ((try (have i_t32 := Imp.go t32 (by omega))); (try (have i_t31 := Imp.go t31 (by omega))); (try (have i_t31 := Imp.go t31 (by omega))); (try (have i_t32 := Imp.go t32 (by omega))); omega)) hP hD hS (lv_sub hl [0, 1, 2, 3, 4, 5] rfl)
          · skip
            have f171 : ((V 1 (Int32.toNatClampNeg y4))).toInt = 32 := b_eq rfl (by decide) c25
            obtain ⟨z172, ez172⟩ : ∃ y : Int32, y = y4 + 1 := ⟨_, rfl⟩
            have hz172 : z172.toInt = y4.toInt + 1 := i_add ez172 rfl (by decide) (by (first | exact om_60388b098aab r1.2 klp8_0.1 f20 | omega))
            refine lv_iinc (v := z172) (lv' := [(2, .int z172), (3, .int (V 1 (Int32.toNatClampNeg y4))), (1, .int y5), (0, .ref (ad 0))]) hx hb dX12_cutAll_44 hl (k := 1) rfl (by rw [ez172]; rfl) (by decide) rfl (fun ls hl => ?_)
            refine lv_goto (tgt := 17) hx hb dX12_cutAll_47 (by decide) ?_
            exact ihlp8 z172 y5 V6 L7 H locs ls (by (first | exact om_e23ddeb43246 r1.2 klp8_0.1 f20 hz172 | omega)) (by (first | exact om_c1fa050e69fd r1.2 klp8_1.1 xlp8_0 f20 | omega)) (show y5.toInt ≤ z172.toInt from by (first | exact om_f75a30b4c815 xlp8_0 hz172 | omega)) (show z172.toInt ≤ (V6 0 3).toInt from by (first | exact om_79347f38c257 pq9 f20 hz172 | omega)) (by (first | exact om_9e7d2b874257 hn hz172 | omega)) alL7 (agr.tr agr.rf ajV6 (by decide) (by decide)) hMV6 hP hD hS (lv_sub hl [0, 2, 3] rfl)
  have r173 : Int32.toInt 0 = 0 := by decide
  have pq174 : (V3 0 3).toInt = ((V 0 2)).toInt := congrArg Int32.toInt ((up2_k hV3 (by decide)).trans (up2_s hV2))
  exact lp8 (((V3 0 3).toInt - (Int32.toInt 0) + 1 : Int).toNat) 0 0 V3 L H locs ls (by decide) (by decide) (show (Int32.toInt 0) ≤ (Int32.toInt 0) from by (first | exact om_5977f3d8a10f | omega)) (show (Int32.toInt 0) ≤ (V3 0 3).toInt from by (first | exact om_ff3fc84f1c65 r1.1 r173 pq174 | omega)) (by (first | exact om_7441a7786481 | omega)) alL agr.rf hMV3 hP hD hS (lv_sub hl [0, 1, 2] rfl)
end
section
/-- the needs of the components of the BOOK that is there have a type -/
def BV (V : Vf) : Prop := ∀ (c k : Int) (i m : Int32), 0 ≤ c → c < (V 19 (Int32.toNatClampNeg (V 0 11))).toInt → i.toInt = 24 * (V 0 11).toInt + c → 0 ≤ k → k < (V 27 (Int32.toNatClampNeg i)).toInt → m.toInt = 8 * (24 * (V 0 11).toInt + c) + k → 0 ≤ (V 28 (Int32.toNatClampNeg m)).toInt
theorem at_ne {V : Vf} {c : Nat} {x : Int32} {n : Nat} {a : Int} (hx : (V c n).toInt = a) (h0 : 0 ≤ x.toInt) : Imp ((V c (Int32.toNatClampNeg x)).toInt ≠ a) (x.toInt ≠ (n : Int)) := fun h e => h (by
  have h1 := i_clamp (x := x) rfl h0
  have h2 : x.toNatClampNeg = n := by omega
  rw [h2]
  exact hx)

theorem w1727 : Cond.fieldLink RX12 68 "WiringHouseModel" "componentIs" "[Z" ∈ GW := gw_k tk9_7 132 (by decide +kernel) rfl
theorem w1734 : Cond.fieldLink RX12 89 "WiringHouseModel" "needType" "[I" ∈ GW := gw_k tk9_7 139 (by decide +kernel) rfl
theorem w1737 : Cond.fieldLink RX12 98 "WiringHouseModel" "needCalled" "[I" ∈ GW := gw_k tk9_7 142 (by decide +kernel) rfl
theorem w2179 : Cond.code yX12_suits cX12_suits 4 (some .boolean) ∈ GW := gw_k tk9_9 104 (rfl) rfl
theorem w2176 : Cond.methodLink RX12 441 yX12_suits ∈ GW := gw_k tk9_9 101 (by decide +kernel) rfl
theorem w2178 : Cond.instanceMethod yX12_suits ∈ GW := gw_k tk9_9 103 (by decide +kernel) rfl
theorem w120 : Cond.selects RX12 yX12_suits yX12_suits ∈ GW := gw_mem 120 (by decide +kernel) rfl
theorem hdV_yX12_suits : yX12_suits.cls = RX12 ∧ yX12_suits.cls ≠ "java/lang/invoke/MethodHandle" ∧ yX12_suits.cls ≠ "java/lang/invoke/VarHandle" ∧ (parseMethodDescriptor yX12_suits.desc).map (fun d => d.parameters.length) = some 2 := by decide +kernel
theorem w1736 : Cond.fieldLink RX12 95 "WiringHouseModel" "needAll" "[Z" ∈ GW := gw_k tk9_7 141 (by decide +kernel) rfl
theorem w1786 : Cond.fieldLink RX12 198 "WiringHouseModel" "candidates" "[I" ∈ GW := gw_k tk9_7 191 (by decide +kernel) rfl
theorem w2175 : Cond.code yX12_candidatesOf cX12_candidatesOf 5 (some .int) ∈ GW := gw_k tk9_9 100 (rfl) rfl
theorem w2172 : Cond.methodLink RX12 455 yX12_candidatesOf ∈ GW := gw_k tk9_9 97 (by decide +kernel) rfl
theorem w2174 : Cond.instanceMethod yX12_candidatesOf ∈ GW := gw_k tk9_9 99 (by decide +kernel) rfl
theorem w119 : Cond.selects RX12 yX12_candidatesOf yX12_candidatesOf ∈ GW := gw_mem 119 (by decide +kernel) rfl
theorem hdV_yX12_candidatesOf : yX12_candidatesOf.cls = RX12 ∧ yX12_candidatesOf.cls ≠ "java/lang/invoke/MethodHandle" ∧ yX12_candidatesOf.cls ≠ "java/lang/invoke/VarHandle" ∧ (parseMethodDescriptor yX12_candidatesOf.desc).map (fun d => d.parameters.length) = some 1 := by decide +kernel
theorem w1772 : Cond.fieldLink RX12 176 "WiringHouseModel" "joins" "[I" ∈ GW := gw_k tk9_7 177 (by decide +kernel) rfl
theorem w1773 : Cond.fieldLink RX12 180 "WiringHouseModel" "joinedTo" "[I" ∈ GW := gw_k tk9_7 178 (by decide +kernel) rfl
theorem w1792 : Cond.fieldLink RX12 213 "WiringHouseModel" "isWrong" "[Z" ∈ GW := gw_k tk9_7 197 (by decide +kernel) rfl
theorem w1735 : Cond.fieldLink RX12 92 "WiringHouseModel" "needLate" "[Z" ∈ GW := gw_k tk9_7 140 (by decide +kernel) rfl
theorem w2182 : Cond.code yX12_longness cX12_longness 1 (some .int) ∈ GW := gw_k tk9_9 107 (rfl) rfl
theorem w2180 : Cond.methodLink RX12 458 yX12_longness ∈ GW := gw_k tk9_9 105 (by decide +kernel) rfl
theorem w2181 : Cond.static yX12_longness ∈ GW := gw_k tk9_9 106 (by decide +kernel) rfl
theorem hdS_yX12_longness : yX12_longness.cls ≠ "java/lang/invoke/MethodHandle" ∧ yX12_longness.cls ≠ "java/lang/invoke/VarHandle" ∧ (parseMethodDescriptor yX12_longness.desc).map (fun d => d.parameters.length) = some 1 := by decide +kernel
theorem w2186 : Cond.code yX12_addFault cX12_addFault 4 none ∈ GW := gw_k tk9_9 111 (rfl) rfl
theorem w2183 : Cond.methodLink RX12 461 yX12_addFault ∈ GW := gw_k tk9_9 108 (by decide +kernel) rfl
theorem w2185 : Cond.instanceMethod yX12_addFault ∈ GW := gw_k tk9_9 110 (by decide +kernel) rfl
theorem w121 : Cond.selects RX12 yX12_addFault yX12_addFault ∈ GW := gw_mem 121 (by decide +kernel) rfl
theorem hdV_yX12_addFault : yX12_addFault.cls = RX12 ∧ yX12_addFault.cls ≠ "java/lang/invoke/MethodHandle" ∧ yX12_addFault.cls ≠ "java/lang/invoke/VarHandle" ∧ (parseMethodDescriptor yX12_addFault.desc).map (fun d => d.parameters.length) = some 3 := by decide +kernel
theorem w1794 : Cond.fieldLink RX12 219 "WiringHouseModel" "way" "[I" ∈ GW := gw_k tk9_7 199 (by decide +kernel) rfl
theorem w1795 : Cond.fieldLink RX12 449 "WiringHouseModel" "wayMany" "I" ∈ GW := gw_k tk9_7 200 (by decide +kernel) rfl
theorem dk9_dX12_suits_0_0 : dOk cX12_suits [(0, .bipush 24, 2), (2, .aload_n 0, 1), (3, .getfield 286, 3), (6, .imul, 1), (7, .iload_n 2, 1), (8, .iadd, 1), (9, .istore_n 3, 1), (10, .aload_n 0, 1), (11, .iload_n 2, 1), (12, .invokevirtual 438, 3), (15, .ifCond .eq 50, 3), (65, .iconst 0, 1), (66, .ireturn, 1), (18, .aload_n 0, 1), (19, .getfield 68, 3), (22, .bipush 24, 2), (24, .iload_n 3, 1), (25, .imul, 1), (26, .aload_n 0, 1), (27, .getfield 89, 3), (30, .iload_n 1, 1), (31, .iaload, 1), (32, .iadd, 1), (33, .baload, 1)] = true ∧ dOk cX12_suits [(34, .ifCond .eq 31, 3), (37, .aload_n 0, 1), (38, .getfield 98, 3), (41, .iload_n 1, 1), (42, .iaload, 1), (43, .ifCond .lt 18, 3), (61, .iconst 1, 1), (62, .goto 4, 3), (46, .aload_n 0, 1), (47, .getfield 74, 3), (50, .iload_n 3, 1), (51, .iaload, 1), (52, .aload_n 0, 1), (53, .getfield 98, 3), (56, .iload_n 1, 1), (57, .iaload, 1), (58, .if_icmp .ne 7, 3)] = true := by decide +kernel
theorem dX12_suits_0 : decode cX12_suits 0 = .ok (.bipush 24, 2) := dr9 dk9_dX12_suits_0_0.1 0 (0, .bipush 24, 2) rfl
theorem dX12_suits_2 : decode cX12_suits 2 = .ok (.aload_n 0, 1) := dr9 dk9_dX12_suits_0_0.1 1 (2, .aload_n 0, 1) rfl
theorem dX12_suits_3 : decode cX12_suits 3 = .ok (.getfield 286, 3) := dr9 dk9_dX12_suits_0_0.1 2 (3, .getfield 286, 3) rfl
theorem dX12_suits_6 : decode cX12_suits 6 = .ok (.imul, 1) := dr9 dk9_dX12_suits_0_0.1 3 (6, .imul, 1) rfl
theorem dX12_suits_7 : decode cX12_suits 7 = .ok (.iload_n 2, 1) := dr9 dk9_dX12_suits_0_0.1 4 (7, .iload_n 2, 1) rfl
theorem dX12_suits_8 : decode cX12_suits 8 = .ok (.iadd, 1) := dr9 dk9_dX12_suits_0_0.1 5 (8, .iadd, 1) rfl
theorem dX12_suits_9 : decode cX12_suits 9 = .ok (.istore_n 3, 1) := dr9 dk9_dX12_suits_0_0.1 6 (9, .istore_n 3, 1) rfl
theorem dX12_suits_10 : decode cX12_suits 10 = .ok (.aload_n 0, 1) := dr9 dk9_dX12_suits_0_0.1 7 (10, .aload_n 0, 1) rfl
theorem dX12_suits_11 : decode cX12_suits 11 = .ok (.iload_n 2, 1) := dr9 dk9_dX12_suits_0_0.1 8 (11, .iload_n 2, 1) rfl
theorem dX12_suits_12 : decode cX12_suits 12 = .ok (.invokevirtual 438, 3) := dr9 dk9_dX12_suits_0_0.1 9 (12, .invokevirtual 438, 3) rfl
theorem dX12_suits_15 : decode cX12_suits 15 = .ok (.ifCond .eq 50, 3) := dr9 dk9_dX12_suits_0_0.1 10 (15, .ifCond .eq 50, 3) rfl
theorem dX12_suits_65 : decode cX12_suits 65 = .ok (.iconst 0, 1) := dr9 dk9_dX12_suits_0_0.1 11 (65, .iconst 0, 1) rfl
theorem dX12_suits_66 : decode cX12_suits 66 = .ok (.ireturn, 1) := dr9 dk9_dX12_suits_0_0.1 12 (66, .ireturn, 1) rfl
theorem dX12_suits_18 : decode cX12_suits 18 = .ok (.aload_n 0, 1) := dr9 dk9_dX12_suits_0_0.1 13 (18, .aload_n 0, 1) rfl
theorem dX12_suits_19 : decode cX12_suits 19 = .ok (.getfield 68, 3) := dr9 dk9_dX12_suits_0_0.1 14 (19, .getfield 68, 3) rfl
theorem dX12_suits_22 : decode cX12_suits 22 = .ok (.bipush 24, 2) := dr9 dk9_dX12_suits_0_0.1 15 (22, .bipush 24, 2) rfl
theorem dX12_suits_24 : decode cX12_suits 24 = .ok (.iload_n 3, 1) := dr9 dk9_dX12_suits_0_0.1 16 (24, .iload_n 3, 1) rfl
theorem dX12_suits_25 : decode cX12_suits 25 = .ok (.imul, 1) := dr9 dk9_dX12_suits_0_0.1 17 (25, .imul, 1) rfl
theorem dX12_suits_26 : decode cX12_suits 26 = .ok (.aload_n 0, 1) := dr9 dk9_dX12_suits_0_0.1 18 (26, .aload_n 0, 1) rfl
theorem dX12_suits_27 : decode cX12_suits 27 = .ok (.getfield 89, 3) := dr9 dk9_dX12_suits_0_0.1 19 (27, .getfield 89, 3) rfl
theorem dX12_suits_30 : decode cX12_suits 30 = .ok (.iload_n 1, 1) := dr9 dk9_dX12_suits_0_0.1 20 (30, .iload_n 1, 1) rfl
theorem dX12_suits_31 : decode cX12_suits 31 = .ok (.iaload, 1) := dr9 dk9_dX12_suits_0_0.1 21 (31, .iaload, 1) rfl
theorem dX12_suits_32 : decode cX12_suits 32 = .ok (.iadd, 1) := dr9 dk9_dX12_suits_0_0.1 22 (32, .iadd, 1) rfl
theorem dX12_suits_33 : decode cX12_suits 33 = .ok (.baload, 1) := dr9 dk9_dX12_suits_0_0.1 23 (33, .baload, 1) rfl
theorem dX12_suits_34 : decode cX12_suits 34 = .ok (.ifCond .eq 31, 3) := dr9 dk9_dX12_suits_0_0.2 0 (34, .ifCond .eq 31, 3) rfl
theorem dX12_suits_37 : decode cX12_suits 37 = .ok (.aload_n 0, 1) := dr9 dk9_dX12_suits_0_0.2 1 (37, .aload_n 0, 1) rfl
theorem dX12_suits_38 : decode cX12_suits 38 = .ok (.getfield 98, 3) := dr9 dk9_dX12_suits_0_0.2 2 (38, .getfield 98, 3) rfl
theorem dX12_suits_41 : decode cX12_suits 41 = .ok (.iload_n 1, 1) := dr9 dk9_dX12_suits_0_0.2 3 (41, .iload_n 1, 1) rfl
theorem dX12_suits_42 : decode cX12_suits 42 = .ok (.iaload, 1) := dr9 dk9_dX12_suits_0_0.2 4 (42, .iaload, 1) rfl
theorem dX12_suits_43 : decode cX12_suits 43 = .ok (.ifCond .lt 18, 3) := dr9 dk9_dX12_suits_0_0.2 5 (43, .ifCond .lt 18, 3) rfl
theorem dX12_suits_61 : decode cX12_suits 61 = .ok (.iconst 1, 1) := dr9 dk9_dX12_suits_0_0.2 6 (61, .iconst 1, 1) rfl
theorem dX12_suits_62 : decode cX12_suits 62 = .ok (.goto 4, 3) := dr9 dk9_dX12_suits_0_0.2 7 (62, .goto 4, 3) rfl
theorem dX12_suits_46 : decode cX12_suits 46 = .ok (.aload_n 0, 1) := dr9 dk9_dX12_suits_0_0.2 8 (46, .aload_n 0, 1) rfl
theorem dX12_suits_47 : decode cX12_suits 47 = .ok (.getfield 74, 3) := dr9 dk9_dX12_suits_0_0.2 9 (47, .getfield 74, 3) rfl
theorem dX12_suits_50 : decode cX12_suits 50 = .ok (.iload_n 3, 1) := dr9 dk9_dX12_suits_0_0.2 10 (50, .iload_n 3, 1) rfl
theorem dX12_suits_51 : decode cX12_suits 51 = .ok (.iaload, 1) := dr9 dk9_dX12_suits_0_0.2 11 (51, .iaload, 1) rfl
theorem dX12_suits_52 : decode cX12_suits 52 = .ok (.aload_n 0, 1) := dr9 dk9_dX12_suits_0_0.2 12 (52, .aload_n 0, 1) rfl
theorem dX12_suits_53 : decode cX12_suits 53 = .ok (.getfield 98, 3) := dr9 dk9_dX12_suits_0_0.2 13 (53, .getfield 98, 3) rfl
theorem dX12_suits_56 : decode cX12_suits 56 = .ok (.iload_n 1, 1) := dr9 dk9_dX12_suits_0_0.2 14 (56, .iload_n 1, 1) rfl
theorem dX12_suits_57 : decode cX12_suits 57 = .ok (.iaload, 1) := dr9 dk9_dX12_suits_0_0.2 15 (57, .iaload, 1) rfl
theorem dX12_suits_58 : decode cX12_suits 58 = .ok (.if_icmp .ne 7, 3) := dr9 dk9_dX12_suits_0_0.2 16 (58, .if_icmp .ne 7, 3) rfl
theorem dk9_dX12_candidatesOf_0_0 : dOk cX12_candidatesOf [(0, .iconst 0, 1), (1, .istore_n 2, 1), (2, .iconst 0, 1), (3, .istore_n 3, 1), (4, .iload_n 3, 1), (5, .aload_n 0, 1), (6, .getfield 62, 3), (9, .aload_n 0, 1), (10, .getfield 286, 3), (13, .iaload, 1), (14, .if_icmp .ge 55, 3), (69, .iconst 0, 1), (70, .istore_n 3, 1), (71, .iconst 0, 1), (72, .istore 4, 2), (74, .iload 4, 2), (76, .aload_n 0, 1), (77, .getfield 62, 3), (80, .aload_n 0, 1), (81, .getfield 286, 3), (84, .iaload, 1), (85, .if_icmp .ge 58, 3), (143, .iload_n 3, 1), (144, .ireturn, 1)] = true ∧ dOk cX12_candidatesOf [(88, .aload_n 0, 1), (89, .iload_n 1, 1), (90, .iload 4, 2), (92, .invokevirtual 441, 3), (95, .ifCond .eq 42, 3), (137, .iinc 4 1, 3), (140, .goto (-66), 3), (98, .aload_n 0, 1), (99, .getfield 95, 3), (102, .iload_n 1, 1), (103, .baload, 1), (104, .ifCond .ne 22, 3), (126, .aload_n 0, 1), (127, .getfield 198, 3), (130, .iload_n 3, 1), (131, .iload 4, 2), (133, .iastore, 1), (134, .iinc 3 1, 3), (107, .aload_n 0, 1), (108, .getfield 77, 3), (111, .bipush 24, 2), (113, .aload_n 0, 1), (114, .getfield 286, 3), (117, .imul, 1)] = true ∧ dOk cX12_candidatesOf [(118, .iload 4, 2), (120, .iadd, 1), (121, .iaload, 1), (122, .iload_n 2, 1), (123, .if_icmp .ne 14, 3), (17, .aload_n 0, 1), (18, .iload_n 1, 1), (19, .iload_n 3, 1), (20, .invokevirtual 441, 3), (23, .ifCond .eq 38, 3), (61, .iload_n 2, 1), (62, .istore_n 2, 1), (63, .iinc 3 1, 3), (66, .goto (-62), 3), (26, .aload_n 0, 1), (27, .getfield 77, 3), (30, .bipush 24, 2), (32, .aload_n 0, 1), (33, .getfield 286, 3), (36, .imul, 1), (37, .iload_n 3, 1), (38, .iadd, 1), (39, .iaload, 1), (40, .iload_n 2, 1)] = true ∧ dOk cX12_candidatesOf [(41, .if_icmp .le 20, 3), (44, .aload_n 0, 1), (45, .getfield 77, 3), (48, .bipush 24, 2), (50, .aload_n 0, 1), (51, .getfield 286, 3), (54, .imul, 1), (55, .iload_n 3, 1), (56, .iadd, 1), (57, .iaload, 1), (58, .goto 4, 3)] = true := by decide +kernel
theorem dX12_candidatesOf_0 : decode cX12_candidatesOf 0 = .ok (.iconst 0, 1) := dr9 dk9_dX12_candidatesOf_0_0.1 0 (0, .iconst 0, 1) rfl
theorem dX12_candidatesOf_1 : decode cX12_candidatesOf 1 = .ok (.istore_n 2, 1) := dr9 dk9_dX12_candidatesOf_0_0.1 1 (1, .istore_n 2, 1) rfl
theorem dX12_candidatesOf_2 : decode cX12_candidatesOf 2 = .ok (.iconst 0, 1) := dr9 dk9_dX12_candidatesOf_0_0.1 2 (2, .iconst 0, 1) rfl
theorem dX12_candidatesOf_3 : decode cX12_candidatesOf 3 = .ok (.istore_n 3, 1) := dr9 dk9_dX12_candidatesOf_0_0.1 3 (3, .istore_n 3, 1) rfl
theorem dX12_candidatesOf_4 : decode cX12_candidatesOf 4 = .ok (.iload_n 3, 1) := dr9 dk9_dX12_candidatesOf_0_0.1 4 (4, .iload_n 3, 1) rfl
theorem dX12_candidatesOf_5 : decode cX12_candidatesOf 5 = .ok (.aload_n 0, 1) := dr9 dk9_dX12_candidatesOf_0_0.1 5 (5, .aload_n 0, 1) rfl
theorem dX12_candidatesOf_6 : decode cX12_candidatesOf 6 = .ok (.getfield 62, 3) := dr9 dk9_dX12_candidatesOf_0_0.1 6 (6, .getfield 62, 3) rfl
theorem dX12_candidatesOf_9 : decode cX12_candidatesOf 9 = .ok (.aload_n 0, 1) := dr9 dk9_dX12_candidatesOf_0_0.1 7 (9, .aload_n 0, 1) rfl
theorem dX12_candidatesOf_10 : decode cX12_candidatesOf 10 = .ok (.getfield 286, 3) := dr9 dk9_dX12_candidatesOf_0_0.1 8 (10, .getfield 286, 3) rfl
theorem dX12_candidatesOf_13 : decode cX12_candidatesOf 13 = .ok (.iaload, 1) := dr9 dk9_dX12_candidatesOf_0_0.1 9 (13, .iaload, 1) rfl
theorem dX12_candidatesOf_14 : decode cX12_candidatesOf 14 = .ok (.if_icmp .ge 55, 3) := dr9 dk9_dX12_candidatesOf_0_0.1 10 (14, .if_icmp .ge 55, 3) rfl
theorem dX12_candidatesOf_69 : decode cX12_candidatesOf 69 = .ok (.iconst 0, 1) := dr9 dk9_dX12_candidatesOf_0_0.1 11 (69, .iconst 0, 1) rfl
theorem dX12_candidatesOf_70 : decode cX12_candidatesOf 70 = .ok (.istore_n 3, 1) := dr9 dk9_dX12_candidatesOf_0_0.1 12 (70, .istore_n 3, 1) rfl
theorem dX12_candidatesOf_71 : decode cX12_candidatesOf 71 = .ok (.iconst 0, 1) := dr9 dk9_dX12_candidatesOf_0_0.1 13 (71, .iconst 0, 1) rfl
theorem dX12_candidatesOf_72 : decode cX12_candidatesOf 72 = .ok (.istore 4, 2) := dr9 dk9_dX12_candidatesOf_0_0.1 14 (72, .istore 4, 2) rfl
theorem dX12_candidatesOf_74 : decode cX12_candidatesOf 74 = .ok (.iload 4, 2) := dr9 dk9_dX12_candidatesOf_0_0.1 15 (74, .iload 4, 2) rfl
theorem dX12_candidatesOf_76 : decode cX12_candidatesOf 76 = .ok (.aload_n 0, 1) := dr9 dk9_dX12_candidatesOf_0_0.1 16 (76, .aload_n 0, 1) rfl
theorem dX12_candidatesOf_77 : decode cX12_candidatesOf 77 = .ok (.getfield 62, 3) := dr9 dk9_dX12_candidatesOf_0_0.1 17 (77, .getfield 62, 3) rfl
theorem dX12_candidatesOf_80 : decode cX12_candidatesOf 80 = .ok (.aload_n 0, 1) := dr9 dk9_dX12_candidatesOf_0_0.1 18 (80, .aload_n 0, 1) rfl
theorem dX12_candidatesOf_81 : decode cX12_candidatesOf 81 = .ok (.getfield 286, 3) := dr9 dk9_dX12_candidatesOf_0_0.1 19 (81, .getfield 286, 3) rfl
theorem dX12_candidatesOf_84 : decode cX12_candidatesOf 84 = .ok (.iaload, 1) := dr9 dk9_dX12_candidatesOf_0_0.1 20 (84, .iaload, 1) rfl
theorem dX12_candidatesOf_85 : decode cX12_candidatesOf 85 = .ok (.if_icmp .ge 58, 3) := dr9 dk9_dX12_candidatesOf_0_0.1 21 (85, .if_icmp .ge 58, 3) rfl
theorem dX12_candidatesOf_143 : decode cX12_candidatesOf 143 = .ok (.iload_n 3, 1) := dr9 dk9_dX12_candidatesOf_0_0.1 22 (143, .iload_n 3, 1) rfl
theorem dX12_candidatesOf_144 : decode cX12_candidatesOf 144 = .ok (.ireturn, 1) := dr9 dk9_dX12_candidatesOf_0_0.1 23 (144, .ireturn, 1) rfl
theorem dX12_candidatesOf_88 : decode cX12_candidatesOf 88 = .ok (.aload_n 0, 1) := dr9 dk9_dX12_candidatesOf_0_0.2.1 0 (88, .aload_n 0, 1) rfl
theorem dX12_candidatesOf_89 : decode cX12_candidatesOf 89 = .ok (.iload_n 1, 1) := dr9 dk9_dX12_candidatesOf_0_0.2.1 1 (89, .iload_n 1, 1) rfl
theorem dX12_candidatesOf_90 : decode cX12_candidatesOf 90 = .ok (.iload 4, 2) := dr9 dk9_dX12_candidatesOf_0_0.2.1 2 (90, .iload 4, 2) rfl
theorem dX12_candidatesOf_92 : decode cX12_candidatesOf 92 = .ok (.invokevirtual 441, 3) := dr9 dk9_dX12_candidatesOf_0_0.2.1 3 (92, .invokevirtual 441, 3) rfl
theorem dX12_candidatesOf_95 : decode cX12_candidatesOf 95 = .ok (.ifCond .eq 42, 3) := dr9 dk9_dX12_candidatesOf_0_0.2.1 4 (95, .ifCond .eq 42, 3) rfl
theorem dX12_candidatesOf_137 : decode cX12_candidatesOf 137 = .ok (.iinc 4 1, 3) := dr9 dk9_dX12_candidatesOf_0_0.2.1 5 (137, .iinc 4 1, 3) rfl
theorem dX12_candidatesOf_140 : decode cX12_candidatesOf 140 = .ok (.goto (-66), 3) := dr9 dk9_dX12_candidatesOf_0_0.2.1 6 (140, .goto (-66), 3) rfl
theorem dX12_candidatesOf_98 : decode cX12_candidatesOf 98 = .ok (.aload_n 0, 1) := dr9 dk9_dX12_candidatesOf_0_0.2.1 7 (98, .aload_n 0, 1) rfl
theorem dX12_candidatesOf_99 : decode cX12_candidatesOf 99 = .ok (.getfield 95, 3) := dr9 dk9_dX12_candidatesOf_0_0.2.1 8 (99, .getfield 95, 3) rfl
theorem dX12_candidatesOf_102 : decode cX12_candidatesOf 102 = .ok (.iload_n 1, 1) := dr9 dk9_dX12_candidatesOf_0_0.2.1 9 (102, .iload_n 1, 1) rfl
theorem dX12_candidatesOf_103 : decode cX12_candidatesOf 103 = .ok (.baload, 1) := dr9 dk9_dX12_candidatesOf_0_0.2.1 10 (103, .baload, 1) rfl
theorem dX12_candidatesOf_104 : decode cX12_candidatesOf 104 = .ok (.ifCond .ne 22, 3) := dr9 dk9_dX12_candidatesOf_0_0.2.1 11 (104, .ifCond .ne 22, 3) rfl
theorem dX12_candidatesOf_126 : decode cX12_candidatesOf 126 = .ok (.aload_n 0, 1) := dr9 dk9_dX12_candidatesOf_0_0.2.1 12 (126, .aload_n 0, 1) rfl
theorem dX12_candidatesOf_127 : decode cX12_candidatesOf 127 = .ok (.getfield 198, 3) := dr9 dk9_dX12_candidatesOf_0_0.2.1 13 (127, .getfield 198, 3) rfl
theorem dX12_candidatesOf_130 : decode cX12_candidatesOf 130 = .ok (.iload_n 3, 1) := dr9 dk9_dX12_candidatesOf_0_0.2.1 14 (130, .iload_n 3, 1) rfl
theorem dX12_candidatesOf_131 : decode cX12_candidatesOf 131 = .ok (.iload 4, 2) := dr9 dk9_dX12_candidatesOf_0_0.2.1 15 (131, .iload 4, 2) rfl
theorem dX12_candidatesOf_133 : decode cX12_candidatesOf 133 = .ok (.iastore, 1) := dr9 dk9_dX12_candidatesOf_0_0.2.1 16 (133, .iastore, 1) rfl
theorem dX12_candidatesOf_134 : decode cX12_candidatesOf 134 = .ok (.iinc 3 1, 3) := dr9 dk9_dX12_candidatesOf_0_0.2.1 17 (134, .iinc 3 1, 3) rfl
theorem dX12_candidatesOf_107 : decode cX12_candidatesOf 107 = .ok (.aload_n 0, 1) := dr9 dk9_dX12_candidatesOf_0_0.2.1 18 (107, .aload_n 0, 1) rfl
theorem dX12_candidatesOf_108 : decode cX12_candidatesOf 108 = .ok (.getfield 77, 3) := dr9 dk9_dX12_candidatesOf_0_0.2.1 19 (108, .getfield 77, 3) rfl
theorem dX12_candidatesOf_111 : decode cX12_candidatesOf 111 = .ok (.bipush 24, 2) := dr9 dk9_dX12_candidatesOf_0_0.2.1 20 (111, .bipush 24, 2) rfl
theorem dX12_candidatesOf_113 : decode cX12_candidatesOf 113 = .ok (.aload_n 0, 1) := dr9 dk9_dX12_candidatesOf_0_0.2.1 21 (113, .aload_n 0, 1) rfl
theorem dX12_candidatesOf_114 : decode cX12_candidatesOf 114 = .ok (.getfield 286, 3) := dr9 dk9_dX12_candidatesOf_0_0.2.1 22 (114, .getfield 286, 3) rfl
theorem dX12_candidatesOf_117 : decode cX12_candidatesOf 117 = .ok (.imul, 1) := dr9 dk9_dX12_candidatesOf_0_0.2.1 23 (117, .imul, 1) rfl
theorem dX12_candidatesOf_118 : decode cX12_candidatesOf 118 = .ok (.iload 4, 2) := dr9 dk9_dX12_candidatesOf_0_0.2.2.1 0 (118, .iload 4, 2) rfl
theorem dX12_candidatesOf_120 : decode cX12_candidatesOf 120 = .ok (.iadd, 1) := dr9 dk9_dX12_candidatesOf_0_0.2.2.1 1 (120, .iadd, 1) rfl
theorem dX12_candidatesOf_121 : decode cX12_candidatesOf 121 = .ok (.iaload, 1) := dr9 dk9_dX12_candidatesOf_0_0.2.2.1 2 (121, .iaload, 1) rfl
theorem dX12_candidatesOf_122 : decode cX12_candidatesOf 122 = .ok (.iload_n 2, 1) := dr9 dk9_dX12_candidatesOf_0_0.2.2.1 3 (122, .iload_n 2, 1) rfl
theorem dX12_candidatesOf_123 : decode cX12_candidatesOf 123 = .ok (.if_icmp .ne 14, 3) := dr9 dk9_dX12_candidatesOf_0_0.2.2.1 4 (123, .if_icmp .ne 14, 3) rfl
theorem dX12_candidatesOf_17 : decode cX12_candidatesOf 17 = .ok (.aload_n 0, 1) := dr9 dk9_dX12_candidatesOf_0_0.2.2.1 5 (17, .aload_n 0, 1) rfl
theorem dX12_candidatesOf_18 : decode cX12_candidatesOf 18 = .ok (.iload_n 1, 1) := dr9 dk9_dX12_candidatesOf_0_0.2.2.1 6 (18, .iload_n 1, 1) rfl
theorem dX12_candidatesOf_19 : decode cX12_candidatesOf 19 = .ok (.iload_n 3, 1) := dr9 dk9_dX12_candidatesOf_0_0.2.2.1 7 (19, .iload_n 3, 1) rfl
theorem dX12_candidatesOf_20 : decode cX12_candidatesOf 20 = .ok (.invokevirtual 441, 3) := dr9 dk9_dX12_candidatesOf_0_0.2.2.1 8 (20, .invokevirtual 441, 3) rfl
theorem dX12_candidatesOf_23 : decode cX12_candidatesOf 23 = .ok (.ifCond .eq 38, 3) := dr9 dk9_dX12_candidatesOf_0_0.2.2.1 9 (23, .ifCond .eq 38, 3) rfl
theorem dX12_candidatesOf_61 : decode cX12_candidatesOf 61 = .ok (.iload_n 2, 1) := dr9 dk9_dX12_candidatesOf_0_0.2.2.1 10 (61, .iload_n 2, 1) rfl
theorem dX12_candidatesOf_62 : decode cX12_candidatesOf 62 = .ok (.istore_n 2, 1) := dr9 dk9_dX12_candidatesOf_0_0.2.2.1 11 (62, .istore_n 2, 1) rfl
theorem dX12_candidatesOf_63 : decode cX12_candidatesOf 63 = .ok (.iinc 3 1, 3) := dr9 dk9_dX12_candidatesOf_0_0.2.2.1 12 (63, .iinc 3 1, 3) rfl
theorem dX12_candidatesOf_66 : decode cX12_candidatesOf 66 = .ok (.goto (-62), 3) := dr9 dk9_dX12_candidatesOf_0_0.2.2.1 13 (66, .goto (-62), 3) rfl
theorem dX12_candidatesOf_26 : decode cX12_candidatesOf 26 = .ok (.aload_n 0, 1) := dr9 dk9_dX12_candidatesOf_0_0.2.2.1 14 (26, .aload_n 0, 1) rfl
theorem dX12_candidatesOf_27 : decode cX12_candidatesOf 27 = .ok (.getfield 77, 3) := dr9 dk9_dX12_candidatesOf_0_0.2.2.1 15 (27, .getfield 77, 3) rfl
theorem dX12_candidatesOf_30 : decode cX12_candidatesOf 30 = .ok (.bipush 24, 2) := dr9 dk9_dX12_candidatesOf_0_0.2.2.1 16 (30, .bipush 24, 2) rfl
theorem dX12_candidatesOf_32 : decode cX12_candidatesOf 32 = .ok (.aload_n 0, 1) := dr9 dk9_dX12_candidatesOf_0_0.2.2.1 17 (32, .aload_n 0, 1) rfl
theorem dX12_candidatesOf_33 : decode cX12_candidatesOf 33 = .ok (.getfield 286, 3) := dr9 dk9_dX12_candidatesOf_0_0.2.2.1 18 (33, .getfield 286, 3) rfl
theorem dX12_candidatesOf_36 : decode cX12_candidatesOf 36 = .ok (.imul, 1) := dr9 dk9_dX12_candidatesOf_0_0.2.2.1 19 (36, .imul, 1) rfl
theorem dX12_candidatesOf_37 : decode cX12_candidatesOf 37 = .ok (.iload_n 3, 1) := dr9 dk9_dX12_candidatesOf_0_0.2.2.1 20 (37, .iload_n 3, 1) rfl
theorem dX12_candidatesOf_38 : decode cX12_candidatesOf 38 = .ok (.iadd, 1) := dr9 dk9_dX12_candidatesOf_0_0.2.2.1 21 (38, .iadd, 1) rfl
theorem dX12_candidatesOf_39 : decode cX12_candidatesOf 39 = .ok (.iaload, 1) := dr9 dk9_dX12_candidatesOf_0_0.2.2.1 22 (39, .iaload, 1) rfl
theorem dX12_candidatesOf_40 : decode cX12_candidatesOf 40 = .ok (.iload_n 2, 1) := dr9 dk9_dX12_candidatesOf_0_0.2.2.1 23 (40, .iload_n 2, 1) rfl
theorem dX12_candidatesOf_41 : decode cX12_candidatesOf 41 = .ok (.if_icmp .le 20, 3) := dr9 dk9_dX12_candidatesOf_0_0.2.2.2 0 (41, .if_icmp .le 20, 3) rfl
theorem dX12_candidatesOf_44 : decode cX12_candidatesOf 44 = .ok (.aload_n 0, 1) := dr9 dk9_dX12_candidatesOf_0_0.2.2.2 1 (44, .aload_n 0, 1) rfl
theorem dX12_candidatesOf_45 : decode cX12_candidatesOf 45 = .ok (.getfield 77, 3) := dr9 dk9_dX12_candidatesOf_0_0.2.2.2 2 (45, .getfield 77, 3) rfl
theorem dX12_candidatesOf_48 : decode cX12_candidatesOf 48 = .ok (.bipush 24, 2) := dr9 dk9_dX12_candidatesOf_0_0.2.2.2 3 (48, .bipush 24, 2) rfl
theorem dX12_candidatesOf_50 : decode cX12_candidatesOf 50 = .ok (.aload_n 0, 1) := dr9 dk9_dX12_candidatesOf_0_0.2.2.2 4 (50, .aload_n 0, 1) rfl
theorem dX12_candidatesOf_51 : decode cX12_candidatesOf 51 = .ok (.getfield 286, 3) := dr9 dk9_dX12_candidatesOf_0_0.2.2.2 5 (51, .getfield 286, 3) rfl
theorem dX12_candidatesOf_54 : decode cX12_candidatesOf 54 = .ok (.imul, 1) := dr9 dk9_dX12_candidatesOf_0_0.2.2.2 6 (54, .imul, 1) rfl
theorem dX12_candidatesOf_55 : decode cX12_candidatesOf 55 = .ok (.iload_n 3, 1) := dr9 dk9_dX12_candidatesOf_0_0.2.2.2 7 (55, .iload_n 3, 1) rfl
theorem dX12_candidatesOf_56 : decode cX12_candidatesOf 56 = .ok (.iadd, 1) := dr9 dk9_dX12_candidatesOf_0_0.2.2.2 8 (56, .iadd, 1) rfl
theorem dX12_candidatesOf_57 : decode cX12_candidatesOf 57 = .ok (.iaload, 1) := dr9 dk9_dX12_candidatesOf_0_0.2.2.2 9 (57, .iaload, 1) rfl
theorem dX12_candidatesOf_58 : decode cX12_candidatesOf 58 = .ok (.goto 4, 3) := dr9 dk9_dX12_candidatesOf_0_0.2.2.2 10 (58, .goto 4, 3) rfl
theorem dk9_dX12_isCandidate_0_0 : dOk cX12_isCandidate [(0, .aload_n 0, 1), (1, .iload_n 1, 1), (2, .invokevirtual 455, 3), (5, .istore_n 3, 1), (6, .iconst 0, 1), (7, .istore 4, 2), (9, .iconst 0, 1), (10, .istore 5, 2), (12, .iload 5, 2), (14, .iload_n 3, 1), (15, .if_icmp .ge 32, 3), (47, .iload 4, 2), (49, .ireturn, 1), (18, .iload 4, 2), (20, .ifCond .ne 14, 3), (34, .iconst 1, 1), (35, .goto 4, 3), (39, .istore 4, 2), (41, .iinc 5 1, 3), (44, .goto (-32), 3), (23, .aload_n 0, 1), (24, .getfield 198, 3), (27, .iload 5, 2), (29, .iaload, 1)] = true ∧ dOk cX12_isCandidate [(30, .iload_n 2, 1), (31, .if_icmp .ne 7, 3), (38, .iconst 0, 1)] = true := by decide +kernel
theorem dX12_isCandidate_0 : decode cX12_isCandidate 0 = .ok (.aload_n 0, 1) := dr9 dk9_dX12_isCandidate_0_0.1 0 (0, .aload_n 0, 1) rfl
theorem dX12_isCandidate_1 : decode cX12_isCandidate 1 = .ok (.iload_n 1, 1) := dr9 dk9_dX12_isCandidate_0_0.1 1 (1, .iload_n 1, 1) rfl
theorem dX12_isCandidate_2 : decode cX12_isCandidate 2 = .ok (.invokevirtual 455, 3) := dr9 dk9_dX12_isCandidate_0_0.1 2 (2, .invokevirtual 455, 3) rfl
theorem dX12_isCandidate_5 : decode cX12_isCandidate 5 = .ok (.istore_n 3, 1) := dr9 dk9_dX12_isCandidate_0_0.1 3 (5, .istore_n 3, 1) rfl
theorem dX12_isCandidate_6 : decode cX12_isCandidate 6 = .ok (.iconst 0, 1) := dr9 dk9_dX12_isCandidate_0_0.1 4 (6, .iconst 0, 1) rfl
theorem dX12_isCandidate_7 : decode cX12_isCandidate 7 = .ok (.istore 4, 2) := dr9 dk9_dX12_isCandidate_0_0.1 5 (7, .istore 4, 2) rfl
theorem dX12_isCandidate_9 : decode cX12_isCandidate 9 = .ok (.iconst 0, 1) := dr9 dk9_dX12_isCandidate_0_0.1 6 (9, .iconst 0, 1) rfl
theorem dX12_isCandidate_10 : decode cX12_isCandidate 10 = .ok (.istore 5, 2) := dr9 dk9_dX12_isCandidate_0_0.1 7 (10, .istore 5, 2) rfl
theorem dX12_isCandidate_12 : decode cX12_isCandidate 12 = .ok (.iload 5, 2) := dr9 dk9_dX12_isCandidate_0_0.1 8 (12, .iload 5, 2) rfl
theorem dX12_isCandidate_14 : decode cX12_isCandidate 14 = .ok (.iload_n 3, 1) := dr9 dk9_dX12_isCandidate_0_0.1 9 (14, .iload_n 3, 1) rfl
theorem dX12_isCandidate_15 : decode cX12_isCandidate 15 = .ok (.if_icmp .ge 32, 3) := dr9 dk9_dX12_isCandidate_0_0.1 10 (15, .if_icmp .ge 32, 3) rfl
theorem dX12_isCandidate_47 : decode cX12_isCandidate 47 = .ok (.iload 4, 2) := dr9 dk9_dX12_isCandidate_0_0.1 11 (47, .iload 4, 2) rfl
theorem dX12_isCandidate_49 : decode cX12_isCandidate 49 = .ok (.ireturn, 1) := dr9 dk9_dX12_isCandidate_0_0.1 12 (49, .ireturn, 1) rfl
theorem dX12_isCandidate_18 : decode cX12_isCandidate 18 = .ok (.iload 4, 2) := dr9 dk9_dX12_isCandidate_0_0.1 13 (18, .iload 4, 2) rfl
theorem dX12_isCandidate_20 : decode cX12_isCandidate 20 = .ok (.ifCond .ne 14, 3) := dr9 dk9_dX12_isCandidate_0_0.1 14 (20, .ifCond .ne 14, 3) rfl
theorem dX12_isCandidate_34 : decode cX12_isCandidate 34 = .ok (.iconst 1, 1) := dr9 dk9_dX12_isCandidate_0_0.1 15 (34, .iconst 1, 1) rfl
theorem dX12_isCandidate_35 : decode cX12_isCandidate 35 = .ok (.goto 4, 3) := dr9 dk9_dX12_isCandidate_0_0.1 16 (35, .goto 4, 3) rfl
theorem dX12_isCandidate_39 : decode cX12_isCandidate 39 = .ok (.istore 4, 2) := dr9 dk9_dX12_isCandidate_0_0.1 17 (39, .istore 4, 2) rfl
theorem dX12_isCandidate_41 : decode cX12_isCandidate 41 = .ok (.iinc 5 1, 3) := dr9 dk9_dX12_isCandidate_0_0.1 18 (41, .iinc 5 1, 3) rfl
theorem dX12_isCandidate_44 : decode cX12_isCandidate 44 = .ok (.goto (-32), 3) := dr9 dk9_dX12_isCandidate_0_0.1 19 (44, .goto (-32), 3) rfl
theorem dX12_isCandidate_23 : decode cX12_isCandidate 23 = .ok (.aload_n 0, 1) := dr9 dk9_dX12_isCandidate_0_0.1 20 (23, .aload_n 0, 1) rfl
theorem dX12_isCandidate_24 : decode cX12_isCandidate 24 = .ok (.getfield 198, 3) := dr9 dk9_dX12_isCandidate_0_0.1 21 (24, .getfield 198, 3) rfl
theorem dX12_isCandidate_27 : decode cX12_isCandidate 27 = .ok (.iload 5, 2) := dr9 dk9_dX12_isCandidate_0_0.1 22 (27, .iload 5, 2) rfl
theorem dX12_isCandidate_29 : decode cX12_isCandidate 29 = .ok (.iaload, 1) := dr9 dk9_dX12_isCandidate_0_0.1 23 (29, .iaload, 1) rfl
theorem dX12_isCandidate_30 : decode cX12_isCandidate 30 = .ok (.iload_n 2, 1) := dr9 dk9_dX12_isCandidate_0_0.2 0 (30, .iload_n 2, 1) rfl
theorem dX12_isCandidate_31 : decode cX12_isCandidate 31 = .ok (.if_icmp .ne 7, 3) := dr9 dk9_dX12_isCandidate_0_0.2 1 (31, .if_icmp .ne 7, 3) rfl
theorem dX12_isCandidate_38 : decode cX12_isCandidate 38 = .ok (.iconst 0, 1) := dr9 dk9_dX12_isCandidate_0_0.2 2 (38, .iconst 0, 1) rfl
theorem dk9_dX12_joined_0_0 : dOk cX12_joined [(0, .aload_n 0, 1), (1, .iconst 0, 1), (2, .putfield 1, 3), (5, .iload_n 1, 1), (6, .ifCond .lt 57, 3), (63, .iconst (-1), 1), (64, .ireturn, 1), (9, .iload_n 1, 1), (10, .aload_n 0, 1), (11, .getfield 411, 3), (14, .if_icmp .ge 49, 3), (17, .iload_n 2, 1), (18, .ifCond .lt 45, 3), (21, .iload_n 2, 1), (22, .aload_n 0, 1), (23, .getfield 86, 3), (26, .bipush 24, 2), (28, .aload_n 0, 1), (29, .getfield 286, 3), (32, .imul, 1), (33, .aload_n 0, 1), (34, .getfield 164, 3), (37, .iload_n 1, 1), (38, .iaload, 1)] = true ∧ dOk cX12_joined [(39, .iadd, 1), (40, .iaload, 1), (41, .if_icmp .ge 22, 3), (44, .iload_n 3, 1), (45, .ifCond .lt 18, 3), (48, .iload_n 3, 1), (49, .aload_n 0, 1), (50, .getfield 176, 3), (53, .bipush 8, 2), (55, .iload_n 1, 1), (56, .imul, 1), (57, .iload_n 2, 1), (58, .iadd, 1), (59, .iaload, 1), (60, .if_icmp .lt 5, 3), (65, .aload_n 0, 1), (66, .getfield 180, 3), (69, .bipush 24, 2), (71, .bipush 8, 2), (73, .iload_n 1, 1), (74, .imul, 1), (75, .iload_n 2, 1), (76, .iadd, 1), (77, .imul, 1)] = true ∧ dOk cX12_joined [(78, .iload_n 3, 1), (79, .iadd, 1), (80, .iaload, 1), (81, .ireturn, 1)] = true := by decide +kernel
theorem dX12_joined_0 : decode cX12_joined 0 = .ok (.aload_n 0, 1) := dr9 dk9_dX12_joined_0_0.1 0 (0, .aload_n 0, 1) rfl
theorem dX12_joined_1 : decode cX12_joined 1 = .ok (.iconst 0, 1) := dr9 dk9_dX12_joined_0_0.1 1 (1, .iconst 0, 1) rfl
theorem dX12_joined_2 : decode cX12_joined 2 = .ok (.putfield 1, 3) := dr9 dk9_dX12_joined_0_0.1 2 (2, .putfield 1, 3) rfl
theorem dX12_joined_5 : decode cX12_joined 5 = .ok (.iload_n 1, 1) := dr9 dk9_dX12_joined_0_0.1 3 (5, .iload_n 1, 1) rfl
theorem dX12_joined_6 : decode cX12_joined 6 = .ok (.ifCond .lt 57, 3) := dr9 dk9_dX12_joined_0_0.1 4 (6, .ifCond .lt 57, 3) rfl
theorem dX12_joined_63 : decode cX12_joined 63 = .ok (.iconst (-1), 1) := dr9 dk9_dX12_joined_0_0.1 5 (63, .iconst (-1), 1) rfl
theorem dX12_joined_64 : decode cX12_joined 64 = .ok (.ireturn, 1) := dr9 dk9_dX12_joined_0_0.1 6 (64, .ireturn, 1) rfl
theorem dX12_joined_9 : decode cX12_joined 9 = .ok (.iload_n 1, 1) := dr9 dk9_dX12_joined_0_0.1 7 (9, .iload_n 1, 1) rfl
theorem dX12_joined_10 : decode cX12_joined 10 = .ok (.aload_n 0, 1) := dr9 dk9_dX12_joined_0_0.1 8 (10, .aload_n 0, 1) rfl
theorem dX12_joined_11 : decode cX12_joined 11 = .ok (.getfield 411, 3) := dr9 dk9_dX12_joined_0_0.1 9 (11, .getfield 411, 3) rfl
theorem dX12_joined_14 : decode cX12_joined 14 = .ok (.if_icmp .ge 49, 3) := dr9 dk9_dX12_joined_0_0.1 10 (14, .if_icmp .ge 49, 3) rfl
theorem dX12_joined_17 : decode cX12_joined 17 = .ok (.iload_n 2, 1) := dr9 dk9_dX12_joined_0_0.1 11 (17, .iload_n 2, 1) rfl
theorem dX12_joined_18 : decode cX12_joined 18 = .ok (.ifCond .lt 45, 3) := dr9 dk9_dX12_joined_0_0.1 12 (18, .ifCond .lt 45, 3) rfl
theorem dX12_joined_21 : decode cX12_joined 21 = .ok (.iload_n 2, 1) := dr9 dk9_dX12_joined_0_0.1 13 (21, .iload_n 2, 1) rfl
theorem dX12_joined_22 : decode cX12_joined 22 = .ok (.aload_n 0, 1) := dr9 dk9_dX12_joined_0_0.1 14 (22, .aload_n 0, 1) rfl
theorem dX12_joined_23 : decode cX12_joined 23 = .ok (.getfield 86, 3) := dr9 dk9_dX12_joined_0_0.1 15 (23, .getfield 86, 3) rfl
theorem dX12_joined_26 : decode cX12_joined 26 = .ok (.bipush 24, 2) := dr9 dk9_dX12_joined_0_0.1 16 (26, .bipush 24, 2) rfl
theorem dX12_joined_28 : decode cX12_joined 28 = .ok (.aload_n 0, 1) := dr9 dk9_dX12_joined_0_0.1 17 (28, .aload_n 0, 1) rfl
theorem dX12_joined_29 : decode cX12_joined 29 = .ok (.getfield 286, 3) := dr9 dk9_dX12_joined_0_0.1 18 (29, .getfield 286, 3) rfl
theorem dX12_joined_32 : decode cX12_joined 32 = .ok (.imul, 1) := dr9 dk9_dX12_joined_0_0.1 19 (32, .imul, 1) rfl
theorem dX12_joined_33 : decode cX12_joined 33 = .ok (.aload_n 0, 1) := dr9 dk9_dX12_joined_0_0.1 20 (33, .aload_n 0, 1) rfl
theorem dX12_joined_34 : decode cX12_joined 34 = .ok (.getfield 164, 3) := dr9 dk9_dX12_joined_0_0.1 21 (34, .getfield 164, 3) rfl
theorem dX12_joined_37 : decode cX12_joined 37 = .ok (.iload_n 1, 1) := dr9 dk9_dX12_joined_0_0.1 22 (37, .iload_n 1, 1) rfl
theorem dX12_joined_38 : decode cX12_joined 38 = .ok (.iaload, 1) := dr9 dk9_dX12_joined_0_0.1 23 (38, .iaload, 1) rfl
theorem dX12_joined_39 : decode cX12_joined 39 = .ok (.iadd, 1) := dr9 dk9_dX12_joined_0_0.2.1 0 (39, .iadd, 1) rfl
theorem dX12_joined_40 : decode cX12_joined 40 = .ok (.iaload, 1) := dr9 dk9_dX12_joined_0_0.2.1 1 (40, .iaload, 1) rfl
theorem dX12_joined_41 : decode cX12_joined 41 = .ok (.if_icmp .ge 22, 3) := dr9 dk9_dX12_joined_0_0.2.1 2 (41, .if_icmp .ge 22, 3) rfl
theorem dX12_joined_44 : decode cX12_joined 44 = .ok (.iload_n 3, 1) := dr9 dk9_dX12_joined_0_0.2.1 3 (44, .iload_n 3, 1) rfl
theorem dX12_joined_45 : decode cX12_joined 45 = .ok (.ifCond .lt 18, 3) := dr9 dk9_dX12_joined_0_0.2.1 4 (45, .ifCond .lt 18, 3) rfl
theorem dX12_joined_48 : decode cX12_joined 48 = .ok (.iload_n 3, 1) := dr9 dk9_dX12_joined_0_0.2.1 5 (48, .iload_n 3, 1) rfl
theorem dX12_joined_49 : decode cX12_joined 49 = .ok (.aload_n 0, 1) := dr9 dk9_dX12_joined_0_0.2.1 6 (49, .aload_n 0, 1) rfl
theorem dX12_joined_50 : decode cX12_joined 50 = .ok (.getfield 176, 3) := dr9 dk9_dX12_joined_0_0.2.1 7 (50, .getfield 176, 3) rfl
theorem dX12_joined_53 : decode cX12_joined 53 = .ok (.bipush 8, 2) := dr9 dk9_dX12_joined_0_0.2.1 8 (53, .bipush 8, 2) rfl
theorem dX12_joined_55 : decode cX12_joined 55 = .ok (.iload_n 1, 1) := dr9 dk9_dX12_joined_0_0.2.1 9 (55, .iload_n 1, 1) rfl
theorem dX12_joined_56 : decode cX12_joined 56 = .ok (.imul, 1) := dr9 dk9_dX12_joined_0_0.2.1 10 (56, .imul, 1) rfl
theorem dX12_joined_57 : decode cX12_joined 57 = .ok (.iload_n 2, 1) := dr9 dk9_dX12_joined_0_0.2.1 11 (57, .iload_n 2, 1) rfl
theorem dX12_joined_58 : decode cX12_joined 58 = .ok (.iadd, 1) := dr9 dk9_dX12_joined_0_0.2.1 12 (58, .iadd, 1) rfl
theorem dX12_joined_59 : decode cX12_joined 59 = .ok (.iaload, 1) := dr9 dk9_dX12_joined_0_0.2.1 13 (59, .iaload, 1) rfl
theorem dX12_joined_60 : decode cX12_joined 60 = .ok (.if_icmp .lt 5, 3) := dr9 dk9_dX12_joined_0_0.2.1 14 (60, .if_icmp .lt 5, 3) rfl
theorem dX12_joined_65 : decode cX12_joined 65 = .ok (.aload_n 0, 1) := dr9 dk9_dX12_joined_0_0.2.1 15 (65, .aload_n 0, 1) rfl
theorem dX12_joined_66 : decode cX12_joined 66 = .ok (.getfield 180, 3) := dr9 dk9_dX12_joined_0_0.2.1 16 (66, .getfield 180, 3) rfl
theorem dX12_joined_69 : decode cX12_joined 69 = .ok (.bipush 24, 2) := dr9 dk9_dX12_joined_0_0.2.1 17 (69, .bipush 24, 2) rfl
theorem dX12_joined_71 : decode cX12_joined 71 = .ok (.bipush 8, 2) := dr9 dk9_dX12_joined_0_0.2.1 18 (71, .bipush 8, 2) rfl
theorem dX12_joined_73 : decode cX12_joined 73 = .ok (.iload_n 1, 1) := dr9 dk9_dX12_joined_0_0.2.1 19 (73, .iload_n 1, 1) rfl
theorem dX12_joined_74 : decode cX12_joined 74 = .ok (.imul, 1) := dr9 dk9_dX12_joined_0_0.2.1 20 (74, .imul, 1) rfl
theorem dX12_joined_75 : decode cX12_joined 75 = .ok (.iload_n 2, 1) := dr9 dk9_dX12_joined_0_0.2.1 21 (75, .iload_n 2, 1) rfl
theorem dX12_joined_76 : decode cX12_joined 76 = .ok (.iadd, 1) := dr9 dk9_dX12_joined_0_0.2.1 22 (76, .iadd, 1) rfl
theorem dX12_joined_77 : decode cX12_joined 77 = .ok (.imul, 1) := dr9 dk9_dX12_joined_0_0.2.1 23 (77, .imul, 1) rfl
theorem dX12_joined_78 : decode cX12_joined 78 = .ok (.iload_n 3, 1) := dr9 dk9_dX12_joined_0_0.2.2 0 (78, .iload_n 3, 1) rfl
theorem dX12_joined_79 : decode cX12_joined 79 = .ok (.iadd, 1) := dr9 dk9_dX12_joined_0_0.2.2 1 (79, .iadd, 1) rfl
theorem dX12_joined_80 : decode cX12_joined 80 = .ok (.iaload, 1) := dr9 dk9_dX12_joined_0_0.2.2 2 (80, .iaload, 1) rfl
theorem dX12_joined_81 : decode cX12_joined 81 = .ok (.ireturn, 1) := dr9 dk9_dX12_joined_0_0.2.2 3 (81, .ireturn, 1) rfl
theorem dk9_dX12_candidate_0_0 : dOk cX12_candidate [(0, .aload_n 0, 1), (1, .iconst 0, 1), (2, .putfield 1, 3), (5, .iload_n 1, 1), (6, .ifCond .lt 42, 3), (48, .iconst (-1), 1), (49, .ireturn, 1), (9, .iload_n 1, 1), (10, .aload_n 0, 1), (11, .getfield 62, 3), (14, .aload_n 0, 1), (15, .getfield 286, 3), (18, .iaload, 1), (19, .if_icmp .ge 29, 3), (22, .iload_n 2, 1), (23, .ifCond .lt 25, 3), (26, .iload_n 2, 1), (27, .aload_n 0, 1), (28, .getfield 86, 3), (31, .bipush 24, 2), (33, .aload_n 0, 1), (34, .getfield 286, 3), (37, .imul, 1), (38, .iload_n 1, 1)] = true ∧ dOk cX12_candidate [(39, .iadd, 1), (40, .iaload, 1), (41, .if_icmp .ge 7, 3), (44, .iload_n 3, 1), (45, .ifCond .ge 5, 3), (50, .iload_n 3, 1), (51, .aload_n 0, 1), (52, .bipush 8, 2), (54, .bipush 24, 2), (56, .aload_n 0, 1), (57, .getfield 286, 3), (60, .imul, 1), (61, .iload_n 1, 1), (62, .iadd, 1), (63, .imul, 1), (64, .iload_n 2, 1), (65, .iadd, 1), (66, .invokevirtual 455, 3), (69, .if_icmp .ge 12, 3), (81, .iconst (-1), 1), (82, .ireturn, 1), (72, .aload_n 0, 1), (73, .getfield 198, 3), (76, .iload_n 3, 1)] = true ∧ dOk cX12_candidate [(77, .iaload, 1), (78, .goto 4, 3)] = true := by decide +kernel
theorem dX12_candidate_0 : decode cX12_candidate 0 = .ok (.aload_n 0, 1) := dr9 dk9_dX12_candidate_0_0.1 0 (0, .aload_n 0, 1) rfl
theorem dX12_candidate_1 : decode cX12_candidate 1 = .ok (.iconst 0, 1) := dr9 dk9_dX12_candidate_0_0.1 1 (1, .iconst 0, 1) rfl
theorem dX12_candidate_2 : decode cX12_candidate 2 = .ok (.putfield 1, 3) := dr9 dk9_dX12_candidate_0_0.1 2 (2, .putfield 1, 3) rfl
theorem dX12_candidate_5 : decode cX12_candidate 5 = .ok (.iload_n 1, 1) := dr9 dk9_dX12_candidate_0_0.1 3 (5, .iload_n 1, 1) rfl
theorem dX12_candidate_6 : decode cX12_candidate 6 = .ok (.ifCond .lt 42, 3) := dr9 dk9_dX12_candidate_0_0.1 4 (6, .ifCond .lt 42, 3) rfl
theorem dX12_candidate_48 : decode cX12_candidate 48 = .ok (.iconst (-1), 1) := dr9 dk9_dX12_candidate_0_0.1 5 (48, .iconst (-1), 1) rfl
theorem dX12_candidate_49 : decode cX12_candidate 49 = .ok (.ireturn, 1) := dr9 dk9_dX12_candidate_0_0.1 6 (49, .ireturn, 1) rfl
theorem dX12_candidate_9 : decode cX12_candidate 9 = .ok (.iload_n 1, 1) := dr9 dk9_dX12_candidate_0_0.1 7 (9, .iload_n 1, 1) rfl
theorem dX12_candidate_10 : decode cX12_candidate 10 = .ok (.aload_n 0, 1) := dr9 dk9_dX12_candidate_0_0.1 8 (10, .aload_n 0, 1) rfl
theorem dX12_candidate_11 : decode cX12_candidate 11 = .ok (.getfield 62, 3) := dr9 dk9_dX12_candidate_0_0.1 9 (11, .getfield 62, 3) rfl
theorem dX12_candidate_14 : decode cX12_candidate 14 = .ok (.aload_n 0, 1) := dr9 dk9_dX12_candidate_0_0.1 10 (14, .aload_n 0, 1) rfl
theorem dX12_candidate_15 : decode cX12_candidate 15 = .ok (.getfield 286, 3) := dr9 dk9_dX12_candidate_0_0.1 11 (15, .getfield 286, 3) rfl
theorem dX12_candidate_18 : decode cX12_candidate 18 = .ok (.iaload, 1) := dr9 dk9_dX12_candidate_0_0.1 12 (18, .iaload, 1) rfl
theorem dX12_candidate_19 : decode cX12_candidate 19 = .ok (.if_icmp .ge 29, 3) := dr9 dk9_dX12_candidate_0_0.1 13 (19, .if_icmp .ge 29, 3) rfl
theorem dX12_candidate_22 : decode cX12_candidate 22 = .ok (.iload_n 2, 1) := dr9 dk9_dX12_candidate_0_0.1 14 (22, .iload_n 2, 1) rfl
theorem dX12_candidate_23 : decode cX12_candidate 23 = .ok (.ifCond .lt 25, 3) := dr9 dk9_dX12_candidate_0_0.1 15 (23, .ifCond .lt 25, 3) rfl
theorem dX12_candidate_26 : decode cX12_candidate 26 = .ok (.iload_n 2, 1) := dr9 dk9_dX12_candidate_0_0.1 16 (26, .iload_n 2, 1) rfl
theorem dX12_candidate_27 : decode cX12_candidate 27 = .ok (.aload_n 0, 1) := dr9 dk9_dX12_candidate_0_0.1 17 (27, .aload_n 0, 1) rfl
theorem dX12_candidate_28 : decode cX12_candidate 28 = .ok (.getfield 86, 3) := dr9 dk9_dX12_candidate_0_0.1 18 (28, .getfield 86, 3) rfl
theorem dX12_candidate_31 : decode cX12_candidate 31 = .ok (.bipush 24, 2) := dr9 dk9_dX12_candidate_0_0.1 19 (31, .bipush 24, 2) rfl
theorem dX12_candidate_33 : decode cX12_candidate 33 = .ok (.aload_n 0, 1) := dr9 dk9_dX12_candidate_0_0.1 20 (33, .aload_n 0, 1) rfl
theorem dX12_candidate_34 : decode cX12_candidate 34 = .ok (.getfield 286, 3) := dr9 dk9_dX12_candidate_0_0.1 21 (34, .getfield 286, 3) rfl
theorem dX12_candidate_37 : decode cX12_candidate 37 = .ok (.imul, 1) := dr9 dk9_dX12_candidate_0_0.1 22 (37, .imul, 1) rfl
theorem dX12_candidate_38 : decode cX12_candidate 38 = .ok (.iload_n 1, 1) := dr9 dk9_dX12_candidate_0_0.1 23 (38, .iload_n 1, 1) rfl
theorem dX12_candidate_39 : decode cX12_candidate 39 = .ok (.iadd, 1) := dr9 dk9_dX12_candidate_0_0.2.1 0 (39, .iadd, 1) rfl
theorem dX12_candidate_40 : decode cX12_candidate 40 = .ok (.iaload, 1) := dr9 dk9_dX12_candidate_0_0.2.1 1 (40, .iaload, 1) rfl
theorem dX12_candidate_41 : decode cX12_candidate 41 = .ok (.if_icmp .ge 7, 3) := dr9 dk9_dX12_candidate_0_0.2.1 2 (41, .if_icmp .ge 7, 3) rfl
theorem dX12_candidate_44 : decode cX12_candidate 44 = .ok (.iload_n 3, 1) := dr9 dk9_dX12_candidate_0_0.2.1 3 (44, .iload_n 3, 1) rfl
theorem dX12_candidate_45 : decode cX12_candidate 45 = .ok (.ifCond .ge 5, 3) := dr9 dk9_dX12_candidate_0_0.2.1 4 (45, .ifCond .ge 5, 3) rfl
theorem dX12_candidate_50 : decode cX12_candidate 50 = .ok (.iload_n 3, 1) := dr9 dk9_dX12_candidate_0_0.2.1 5 (50, .iload_n 3, 1) rfl
theorem dX12_candidate_51 : decode cX12_candidate 51 = .ok (.aload_n 0, 1) := dr9 dk9_dX12_candidate_0_0.2.1 6 (51, .aload_n 0, 1) rfl
theorem dX12_candidate_52 : decode cX12_candidate 52 = .ok (.bipush 8, 2) := dr9 dk9_dX12_candidate_0_0.2.1 7 (52, .bipush 8, 2) rfl
theorem dX12_candidate_54 : decode cX12_candidate 54 = .ok (.bipush 24, 2) := dr9 dk9_dX12_candidate_0_0.2.1 8 (54, .bipush 24, 2) rfl
theorem dX12_candidate_56 : decode cX12_candidate 56 = .ok (.aload_n 0, 1) := dr9 dk9_dX12_candidate_0_0.2.1 9 (56, .aload_n 0, 1) rfl
theorem dX12_candidate_57 : decode cX12_candidate 57 = .ok (.getfield 286, 3) := dr9 dk9_dX12_candidate_0_0.2.1 10 (57, .getfield 286, 3) rfl
theorem dX12_candidate_60 : decode cX12_candidate 60 = .ok (.imul, 1) := dr9 dk9_dX12_candidate_0_0.2.1 11 (60, .imul, 1) rfl
theorem dX12_candidate_61 : decode cX12_candidate 61 = .ok (.iload_n 1, 1) := dr9 dk9_dX12_candidate_0_0.2.1 12 (61, .iload_n 1, 1) rfl
theorem dX12_candidate_62 : decode cX12_candidate 62 = .ok (.iadd, 1) := dr9 dk9_dX12_candidate_0_0.2.1 13 (62, .iadd, 1) rfl
theorem dX12_candidate_63 : decode cX12_candidate 63 = .ok (.imul, 1) := dr9 dk9_dX12_candidate_0_0.2.1 14 (63, .imul, 1) rfl
theorem dX12_candidate_64 : decode cX12_candidate 64 = .ok (.iload_n 2, 1) := dr9 dk9_dX12_candidate_0_0.2.1 15 (64, .iload_n 2, 1) rfl
theorem dX12_candidate_65 : decode cX12_candidate 65 = .ok (.iadd, 1) := dr9 dk9_dX12_candidate_0_0.2.1 16 (65, .iadd, 1) rfl
theorem dX12_candidate_66 : decode cX12_candidate 66 = .ok (.invokevirtual 455, 3) := dr9 dk9_dX12_candidate_0_0.2.1 17 (66, .invokevirtual 455, 3) rfl
theorem dX12_candidate_69 : decode cX12_candidate 69 = .ok (.if_icmp .ge 12, 3) := dr9 dk9_dX12_candidate_0_0.2.1 18 (69, .if_icmp .ge 12, 3) rfl
theorem dX12_candidate_81 : decode cX12_candidate 81 = .ok (.iconst (-1), 1) := dr9 dk9_dX12_candidate_0_0.2.1 19 (81, .iconst (-1), 1) rfl
theorem dX12_candidate_82 : decode cX12_candidate 82 = .ok (.ireturn, 1) := dr9 dk9_dX12_candidate_0_0.2.1 20 (82, .ireturn, 1) rfl
theorem dX12_candidate_72 : decode cX12_candidate 72 = .ok (.aload_n 0, 1) := dr9 dk9_dX12_candidate_0_0.2.1 21 (72, .aload_n 0, 1) rfl
theorem dX12_candidate_73 : decode cX12_candidate 73 = .ok (.getfield 198, 3) := dr9 dk9_dX12_candidate_0_0.2.1 22 (73, .getfield 198, 3) rfl
theorem dX12_candidate_76 : decode cX12_candidate 76 = .ok (.iload_n 3, 1) := dr9 dk9_dX12_candidate_0_0.2.1 23 (76, .iload_n 3, 1) rfl
theorem dX12_candidate_77 : decode cX12_candidate 77 = .ok (.iaload, 1) := dr9 dk9_dX12_candidate_0_0.2.2 0 (77, .iaload, 1) rfl
theorem dX12_candidate_78 : decode cX12_candidate 78 = .ok (.goto 4, 3) := dr9 dk9_dX12_candidate_0_0.2.2 1 (78, .goto 4, 3) rfl
theorem dk9_dX12_checkNeed_0_0 : dOk cX12_checkNeed [(0, .bipush 8, 2), (2, .bipush 24, 2), (4, .aload_n 0, 1), (5, .getfield 286, 3), (8, .imul, 1), (9, .iload_n 1, 1), (10, .iadd, 1), (11, .imul, 1), (12, .iload_n 2, 1), (13, .iadd, 1), (14, .istore_n 3, 1), (15, .aload_n 0, 1), (16, .iload_n 3, 1), (17, .invokevirtual 455, 3), (20, .istore 4, 2), (22, .iload 4, 2), (24, .ifCond .ne 16, 3), (27, .aload_n 0, 1), (28, .getfield 95, 3), (31, .iload_n 3, 1), (32, .baload, 1), (33, .ifCond .ne 7, 3), (40, .iconst 0, 1), (36, .iconst 1, 1)] = true ∧ dOk cX12_checkNeed [(37, .goto 4, 3), (41, .istore 5, 2), (43, .iload 4, 2), (45, .iconst 1, 1), (46, .if_icmp .le 16, 3), (49, .aload_n 0, 1), (50, .getfield 95, 3), (53, .iload_n 3, 1), (54, .baload, 1), (55, .ifCond .ne 7, 3), (62, .iconst 0, 1), (58, .iconst 1, 1), (59, .goto 4, 3), (63, .istore 6, 2), (65, .aload_n 0, 1), (66, .getfield 213, 3), (69, .bipush 8, 2), (71, .iload_n 1, 1), (72, .imul, 1), (73, .iload_n 2, 1), (74, .iadd, 1), (75, .iload 5, 2), (77, .ifCond .ne 8, 3), (80, .iload 6, 2)] = true ∧ dOk cX12_checkNeed [(82, .ifCond .eq 7, 3), (89, .iconst 0, 1), (85, .iconst 1, 1), (86, .goto 4, 3), (90, .bastore, 1), (91, .iconst 0, 1), (92, .istore 7, 2), (94, .iconst 0, 1), (95, .istore 8, 2), (97, .iload 8, 2), (99, .iload 4, 2), (101, .if_icmp .ge 83, 3), (104, .aload_n 0, 1), (105, .getfield 92, 3), (108, .iload_n 3, 1), (109, .baload, 1), (110, .ifCond .ne 74, 3), (113, .aload_n 0, 1), (114, .getfield 71, 3), (117, .bipush 24, 2), (119, .aload_n 0, 1), (120, .getfield 286, 3), (123, .imul, 1), (124, .aload_n 0, 1)] = true ∧ dOk cX12_checkNeed [(125, .getfield 198, 3), (128, .iload 8, 2), (130, .iaload, 1), (131, .iadd, 1), (132, .iaload, 1), (133, .istore 9, 2), (135, .iload 7, 2), (137, .ifCond .ne 34, 3), (171, .iconst 1, 1), (172, .goto 4, 3), (176, .istore 7, 2), (178, .iinc 8 1, 3), (181, .goto (-84), 3), (140, .iload 9, 2), (142, .iconst 3, 1), (143, .if_icmp .eq 32, 3), (175, .iconst 0, 1), (146, .iload 9, 2), (148, .invokestatic 458, 3), (151, .aload_n 0, 1), (152, .getfield 71, 3), (155, .bipush 24, 2), (157, .aload_n 0, 1), (158, .getfield 286, 3)] = true ∧ dOk cX12_checkNeed [(161, .imul, 1), (162, .iload_n 1, 1), (163, .iadd, 1), (164, .iaload, 1), (165, .invokestatic 458, 3), (168, .if_icmp .ge 7, 3), (184, .iload 5, 2), (186, .ifCond .ne 13, 3), (199, .aload_n 0, 1), (200, .iload 5, 2), (202, .ifCond .eq 7, 3), (205, .iconst 1, 1), (206, .goto 13, 3), (219, .iload_n 1, 1), (220, .iload_n 2, 1), (221, .invokevirtual 461, 3), (224, .return_, 1), (189, .iload 6, 2), (191, .ifCond .ne 8, 3), (209, .iload 6, 2), (211, .ifCond .eq 7, 3), (214, .iconst 2, 1), (215, .goto 4, 3), (194, .iload 7, 2)] = true ∧ dOk cX12_checkNeed [(196, .ifCond .eq 28, 3), (218, .iconst 4, 1)] = true := by decide +kernel
theorem dX12_checkNeed_0 : decode cX12_checkNeed 0 = .ok (.bipush 8, 2) := dr9 dk9_dX12_checkNeed_0_0.1 0 (0, .bipush 8, 2) rfl
theorem dX12_checkNeed_2 : decode cX12_checkNeed 2 = .ok (.bipush 24, 2) := dr9 dk9_dX12_checkNeed_0_0.1 1 (2, .bipush 24, 2) rfl
theorem dX12_checkNeed_4 : decode cX12_checkNeed 4 = .ok (.aload_n 0, 1) := dr9 dk9_dX12_checkNeed_0_0.1 2 (4, .aload_n 0, 1) rfl
theorem dX12_checkNeed_5 : decode cX12_checkNeed 5 = .ok (.getfield 286, 3) := dr9 dk9_dX12_checkNeed_0_0.1 3 (5, .getfield 286, 3) rfl
theorem dX12_checkNeed_8 : decode cX12_checkNeed 8 = .ok (.imul, 1) := dr9 dk9_dX12_checkNeed_0_0.1 4 (8, .imul, 1) rfl
theorem dX12_checkNeed_9 : decode cX12_checkNeed 9 = .ok (.iload_n 1, 1) := dr9 dk9_dX12_checkNeed_0_0.1 5 (9, .iload_n 1, 1) rfl
theorem dX12_checkNeed_10 : decode cX12_checkNeed 10 = .ok (.iadd, 1) := dr9 dk9_dX12_checkNeed_0_0.1 6 (10, .iadd, 1) rfl
theorem dX12_checkNeed_11 : decode cX12_checkNeed 11 = .ok (.imul, 1) := dr9 dk9_dX12_checkNeed_0_0.1 7 (11, .imul, 1) rfl
theorem dX12_checkNeed_12 : decode cX12_checkNeed 12 = .ok (.iload_n 2, 1) := dr9 dk9_dX12_checkNeed_0_0.1 8 (12, .iload_n 2, 1) rfl
theorem dX12_checkNeed_13 : decode cX12_checkNeed 13 = .ok (.iadd, 1) := dr9 dk9_dX12_checkNeed_0_0.1 9 (13, .iadd, 1) rfl
theorem dX12_checkNeed_14 : decode cX12_checkNeed 14 = .ok (.istore_n 3, 1) := dr9 dk9_dX12_checkNeed_0_0.1 10 (14, .istore_n 3, 1) rfl
theorem dX12_checkNeed_15 : decode cX12_checkNeed 15 = .ok (.aload_n 0, 1) := dr9 dk9_dX12_checkNeed_0_0.1 11 (15, .aload_n 0, 1) rfl
theorem dX12_checkNeed_16 : decode cX12_checkNeed 16 = .ok (.iload_n 3, 1) := dr9 dk9_dX12_checkNeed_0_0.1 12 (16, .iload_n 3, 1) rfl
theorem dX12_checkNeed_17 : decode cX12_checkNeed 17 = .ok (.invokevirtual 455, 3) := dr9 dk9_dX12_checkNeed_0_0.1 13 (17, .invokevirtual 455, 3) rfl
theorem dX12_checkNeed_20 : decode cX12_checkNeed 20 = .ok (.istore 4, 2) := dr9 dk9_dX12_checkNeed_0_0.1 14 (20, .istore 4, 2) rfl
theorem dX12_checkNeed_22 : decode cX12_checkNeed 22 = .ok (.iload 4, 2) := dr9 dk9_dX12_checkNeed_0_0.1 15 (22, .iload 4, 2) rfl
theorem dX12_checkNeed_24 : decode cX12_checkNeed 24 = .ok (.ifCond .ne 16, 3) := dr9 dk9_dX12_checkNeed_0_0.1 16 (24, .ifCond .ne 16, 3) rfl
theorem dX12_checkNeed_27 : decode cX12_checkNeed 27 = .ok (.aload_n 0, 1) := dr9 dk9_dX12_checkNeed_0_0.1 17 (27, .aload_n 0, 1) rfl
theorem dX12_checkNeed_28 : decode cX12_checkNeed 28 = .ok (.getfield 95, 3) := dr9 dk9_dX12_checkNeed_0_0.1 18 (28, .getfield 95, 3) rfl
theorem dX12_checkNeed_31 : decode cX12_checkNeed 31 = .ok (.iload_n 3, 1) := dr9 dk9_dX12_checkNeed_0_0.1 19 (31, .iload_n 3, 1) rfl
theorem dX12_checkNeed_32 : decode cX12_checkNeed 32 = .ok (.baload, 1) := dr9 dk9_dX12_checkNeed_0_0.1 20 (32, .baload, 1) rfl
theorem dX12_checkNeed_33 : decode cX12_checkNeed 33 = .ok (.ifCond .ne 7, 3) := dr9 dk9_dX12_checkNeed_0_0.1 21 (33, .ifCond .ne 7, 3) rfl
theorem dX12_checkNeed_40 : decode cX12_checkNeed 40 = .ok (.iconst 0, 1) := dr9 dk9_dX12_checkNeed_0_0.1 22 (40, .iconst 0, 1) rfl
theorem dX12_checkNeed_36 : decode cX12_checkNeed 36 = .ok (.iconst 1, 1) := dr9 dk9_dX12_checkNeed_0_0.1 23 (36, .iconst 1, 1) rfl
theorem dX12_checkNeed_37 : decode cX12_checkNeed 37 = .ok (.goto 4, 3) := dr9 dk9_dX12_checkNeed_0_0.2.1 0 (37, .goto 4, 3) rfl
theorem dX12_checkNeed_41 : decode cX12_checkNeed 41 = .ok (.istore 5, 2) := dr9 dk9_dX12_checkNeed_0_0.2.1 1 (41, .istore 5, 2) rfl
theorem dX12_checkNeed_43 : decode cX12_checkNeed 43 = .ok (.iload 4, 2) := dr9 dk9_dX12_checkNeed_0_0.2.1 2 (43, .iload 4, 2) rfl
theorem dX12_checkNeed_45 : decode cX12_checkNeed 45 = .ok (.iconst 1, 1) := dr9 dk9_dX12_checkNeed_0_0.2.1 3 (45, .iconst 1, 1) rfl
theorem dX12_checkNeed_46 : decode cX12_checkNeed 46 = .ok (.if_icmp .le 16, 3) := dr9 dk9_dX12_checkNeed_0_0.2.1 4 (46, .if_icmp .le 16, 3) rfl
theorem dX12_checkNeed_49 : decode cX12_checkNeed 49 = .ok (.aload_n 0, 1) := dr9 dk9_dX12_checkNeed_0_0.2.1 5 (49, .aload_n 0, 1) rfl
theorem dX12_checkNeed_50 : decode cX12_checkNeed 50 = .ok (.getfield 95, 3) := dr9 dk9_dX12_checkNeed_0_0.2.1 6 (50, .getfield 95, 3) rfl
theorem dX12_checkNeed_53 : decode cX12_checkNeed 53 = .ok (.iload_n 3, 1) := dr9 dk9_dX12_checkNeed_0_0.2.1 7 (53, .iload_n 3, 1) rfl
theorem dX12_checkNeed_54 : decode cX12_checkNeed 54 = .ok (.baload, 1) := dr9 dk9_dX12_checkNeed_0_0.2.1 8 (54, .baload, 1) rfl
theorem dX12_checkNeed_55 : decode cX12_checkNeed 55 = .ok (.ifCond .ne 7, 3) := dr9 dk9_dX12_checkNeed_0_0.2.1 9 (55, .ifCond .ne 7, 3) rfl
theorem dX12_checkNeed_62 : decode cX12_checkNeed 62 = .ok (.iconst 0, 1) := dr9 dk9_dX12_checkNeed_0_0.2.1 10 (62, .iconst 0, 1) rfl
theorem dX12_checkNeed_58 : decode cX12_checkNeed 58 = .ok (.iconst 1, 1) := dr9 dk9_dX12_checkNeed_0_0.2.1 11 (58, .iconst 1, 1) rfl
theorem dX12_checkNeed_59 : decode cX12_checkNeed 59 = .ok (.goto 4, 3) := dr9 dk9_dX12_checkNeed_0_0.2.1 12 (59, .goto 4, 3) rfl
theorem dX12_checkNeed_63 : decode cX12_checkNeed 63 = .ok (.istore 6, 2) := dr9 dk9_dX12_checkNeed_0_0.2.1 13 (63, .istore 6, 2) rfl
theorem dX12_checkNeed_65 : decode cX12_checkNeed 65 = .ok (.aload_n 0, 1) := dr9 dk9_dX12_checkNeed_0_0.2.1 14 (65, .aload_n 0, 1) rfl
theorem dX12_checkNeed_66 : decode cX12_checkNeed 66 = .ok (.getfield 213, 3) := dr9 dk9_dX12_checkNeed_0_0.2.1 15 (66, .getfield 213, 3) rfl
theorem dX12_checkNeed_69 : decode cX12_checkNeed 69 = .ok (.bipush 8, 2) := dr9 dk9_dX12_checkNeed_0_0.2.1 16 (69, .bipush 8, 2) rfl
theorem dX12_checkNeed_71 : decode cX12_checkNeed 71 = .ok (.iload_n 1, 1) := dr9 dk9_dX12_checkNeed_0_0.2.1 17 (71, .iload_n 1, 1) rfl
theorem dX12_checkNeed_72 : decode cX12_checkNeed 72 = .ok (.imul, 1) := dr9 dk9_dX12_checkNeed_0_0.2.1 18 (72, .imul, 1) rfl
theorem dX12_checkNeed_73 : decode cX12_checkNeed 73 = .ok (.iload_n 2, 1) := dr9 dk9_dX12_checkNeed_0_0.2.1 19 (73, .iload_n 2, 1) rfl
theorem dX12_checkNeed_74 : decode cX12_checkNeed 74 = .ok (.iadd, 1) := dr9 dk9_dX12_checkNeed_0_0.2.1 20 (74, .iadd, 1) rfl
theorem dX12_checkNeed_75 : decode cX12_checkNeed 75 = .ok (.iload 5, 2) := dr9 dk9_dX12_checkNeed_0_0.2.1 21 (75, .iload 5, 2) rfl
theorem dX12_checkNeed_77 : decode cX12_checkNeed 77 = .ok (.ifCond .ne 8, 3) := dr9 dk9_dX12_checkNeed_0_0.2.1 22 (77, .ifCond .ne 8, 3) rfl
theorem dX12_checkNeed_80 : decode cX12_checkNeed 80 = .ok (.iload 6, 2) := dr9 dk9_dX12_checkNeed_0_0.2.1 23 (80, .iload 6, 2) rfl
theorem dX12_checkNeed_82 : decode cX12_checkNeed 82 = .ok (.ifCond .eq 7, 3) := dr9 dk9_dX12_checkNeed_0_0.2.2.1 0 (82, .ifCond .eq 7, 3) rfl
theorem dX12_checkNeed_89 : decode cX12_checkNeed 89 = .ok (.iconst 0, 1) := dr9 dk9_dX12_checkNeed_0_0.2.2.1 1 (89, .iconst 0, 1) rfl
theorem dX12_checkNeed_85 : decode cX12_checkNeed 85 = .ok (.iconst 1, 1) := dr9 dk9_dX12_checkNeed_0_0.2.2.1 2 (85, .iconst 1, 1) rfl
theorem dX12_checkNeed_86 : decode cX12_checkNeed 86 = .ok (.goto 4, 3) := dr9 dk9_dX12_checkNeed_0_0.2.2.1 3 (86, .goto 4, 3) rfl
theorem dX12_checkNeed_90 : decode cX12_checkNeed 90 = .ok (.bastore, 1) := dr9 dk9_dX12_checkNeed_0_0.2.2.1 4 (90, .bastore, 1) rfl
theorem dX12_checkNeed_91 : decode cX12_checkNeed 91 = .ok (.iconst 0, 1) := dr9 dk9_dX12_checkNeed_0_0.2.2.1 5 (91, .iconst 0, 1) rfl
theorem dX12_checkNeed_92 : decode cX12_checkNeed 92 = .ok (.istore 7, 2) := dr9 dk9_dX12_checkNeed_0_0.2.2.1 6 (92, .istore 7, 2) rfl
theorem dX12_checkNeed_94 : decode cX12_checkNeed 94 = .ok (.iconst 0, 1) := dr9 dk9_dX12_checkNeed_0_0.2.2.1 7 (94, .iconst 0, 1) rfl
theorem dX12_checkNeed_95 : decode cX12_checkNeed 95 = .ok (.istore 8, 2) := dr9 dk9_dX12_checkNeed_0_0.2.2.1 8 (95, .istore 8, 2) rfl
theorem dX12_checkNeed_97 : decode cX12_checkNeed 97 = .ok (.iload 8, 2) := dr9 dk9_dX12_checkNeed_0_0.2.2.1 9 (97, .iload 8, 2) rfl
theorem dX12_checkNeed_99 : decode cX12_checkNeed 99 = .ok (.iload 4, 2) := dr9 dk9_dX12_checkNeed_0_0.2.2.1 10 (99, .iload 4, 2) rfl
theorem dX12_checkNeed_101 : decode cX12_checkNeed 101 = .ok (.if_icmp .ge 83, 3) := dr9 dk9_dX12_checkNeed_0_0.2.2.1 11 (101, .if_icmp .ge 83, 3) rfl
theorem dX12_checkNeed_104 : decode cX12_checkNeed 104 = .ok (.aload_n 0, 1) := dr9 dk9_dX12_checkNeed_0_0.2.2.1 12 (104, .aload_n 0, 1) rfl
theorem dX12_checkNeed_105 : decode cX12_checkNeed 105 = .ok (.getfield 92, 3) := dr9 dk9_dX12_checkNeed_0_0.2.2.1 13 (105, .getfield 92, 3) rfl
theorem dX12_checkNeed_108 : decode cX12_checkNeed 108 = .ok (.iload_n 3, 1) := dr9 dk9_dX12_checkNeed_0_0.2.2.1 14 (108, .iload_n 3, 1) rfl
theorem dX12_checkNeed_109 : decode cX12_checkNeed 109 = .ok (.baload, 1) := dr9 dk9_dX12_checkNeed_0_0.2.2.1 15 (109, .baload, 1) rfl
theorem dX12_checkNeed_110 : decode cX12_checkNeed 110 = .ok (.ifCond .ne 74, 3) := dr9 dk9_dX12_checkNeed_0_0.2.2.1 16 (110, .ifCond .ne 74, 3) rfl
theorem dX12_checkNeed_113 : decode cX12_checkNeed 113 = .ok (.aload_n 0, 1) := dr9 dk9_dX12_checkNeed_0_0.2.2.1 17 (113, .aload_n 0, 1) rfl
theorem dX12_checkNeed_114 : decode cX12_checkNeed 114 = .ok (.getfield 71, 3) := dr9 dk9_dX12_checkNeed_0_0.2.2.1 18 (114, .getfield 71, 3) rfl
theorem dX12_checkNeed_117 : decode cX12_checkNeed 117 = .ok (.bipush 24, 2) := dr9 dk9_dX12_checkNeed_0_0.2.2.1 19 (117, .bipush 24, 2) rfl
theorem dX12_checkNeed_119 : decode cX12_checkNeed 119 = .ok (.aload_n 0, 1) := dr9 dk9_dX12_checkNeed_0_0.2.2.1 20 (119, .aload_n 0, 1) rfl
theorem dX12_checkNeed_120 : decode cX12_checkNeed 120 = .ok (.getfield 286, 3) := dr9 dk9_dX12_checkNeed_0_0.2.2.1 21 (120, .getfield 286, 3) rfl
theorem dX12_checkNeed_123 : decode cX12_checkNeed 123 = .ok (.imul, 1) := dr9 dk9_dX12_checkNeed_0_0.2.2.1 22 (123, .imul, 1) rfl
theorem dX12_checkNeed_124 : decode cX12_checkNeed 124 = .ok (.aload_n 0, 1) := dr9 dk9_dX12_checkNeed_0_0.2.2.1 23 (124, .aload_n 0, 1) rfl
theorem dX12_checkNeed_125 : decode cX12_checkNeed 125 = .ok (.getfield 198, 3) := dr9 dk9_dX12_checkNeed_0_0.2.2.2.1 0 (125, .getfield 198, 3) rfl
theorem dX12_checkNeed_128 : decode cX12_checkNeed 128 = .ok (.iload 8, 2) := dr9 dk9_dX12_checkNeed_0_0.2.2.2.1 1 (128, .iload 8, 2) rfl
theorem dX12_checkNeed_130 : decode cX12_checkNeed 130 = .ok (.iaload, 1) := dr9 dk9_dX12_checkNeed_0_0.2.2.2.1 2 (130, .iaload, 1) rfl
theorem dX12_checkNeed_131 : decode cX12_checkNeed 131 = .ok (.iadd, 1) := dr9 dk9_dX12_checkNeed_0_0.2.2.2.1 3 (131, .iadd, 1) rfl
theorem dX12_checkNeed_132 : decode cX12_checkNeed 132 = .ok (.iaload, 1) := dr9 dk9_dX12_checkNeed_0_0.2.2.2.1 4 (132, .iaload, 1) rfl
theorem dX12_checkNeed_133 : decode cX12_checkNeed 133 = .ok (.istore 9, 2) := dr9 dk9_dX12_checkNeed_0_0.2.2.2.1 5 (133, .istore 9, 2) rfl
theorem dX12_checkNeed_135 : decode cX12_checkNeed 135 = .ok (.iload 7, 2) := dr9 dk9_dX12_checkNeed_0_0.2.2.2.1 6 (135, .iload 7, 2) rfl
theorem dX12_checkNeed_137 : decode cX12_checkNeed 137 = .ok (.ifCond .ne 34, 3) := dr9 dk9_dX12_checkNeed_0_0.2.2.2.1 7 (137, .ifCond .ne 34, 3) rfl
theorem dX12_checkNeed_171 : decode cX12_checkNeed 171 = .ok (.iconst 1, 1) := dr9 dk9_dX12_checkNeed_0_0.2.2.2.1 8 (171, .iconst 1, 1) rfl
theorem dX12_checkNeed_172 : decode cX12_checkNeed 172 = .ok (.goto 4, 3) := dr9 dk9_dX12_checkNeed_0_0.2.2.2.1 9 (172, .goto 4, 3) rfl
theorem dX12_checkNeed_176 : decode cX12_checkNeed 176 = .ok (.istore 7, 2) := dr9 dk9_dX12_checkNeed_0_0.2.2.2.1 10 (176, .istore 7, 2) rfl
theorem dX12_checkNeed_178 : decode cX12_checkNeed 178 = .ok (.iinc 8 1, 3) := dr9 dk9_dX12_checkNeed_0_0.2.2.2.1 11 (178, .iinc 8 1, 3) rfl
theorem dX12_checkNeed_181 : decode cX12_checkNeed 181 = .ok (.goto (-84), 3) := dr9 dk9_dX12_checkNeed_0_0.2.2.2.1 12 (181, .goto (-84), 3) rfl
theorem dX12_checkNeed_140 : decode cX12_checkNeed 140 = .ok (.iload 9, 2) := dr9 dk9_dX12_checkNeed_0_0.2.2.2.1 13 (140, .iload 9, 2) rfl
theorem dX12_checkNeed_142 : decode cX12_checkNeed 142 = .ok (.iconst 3, 1) := dr9 dk9_dX12_checkNeed_0_0.2.2.2.1 14 (142, .iconst 3, 1) rfl
theorem dX12_checkNeed_143 : decode cX12_checkNeed 143 = .ok (.if_icmp .eq 32, 3) := dr9 dk9_dX12_checkNeed_0_0.2.2.2.1 15 (143, .if_icmp .eq 32, 3) rfl
theorem dX12_checkNeed_175 : decode cX12_checkNeed 175 = .ok (.iconst 0, 1) := dr9 dk9_dX12_checkNeed_0_0.2.2.2.1 16 (175, .iconst 0, 1) rfl
theorem dX12_checkNeed_146 : decode cX12_checkNeed 146 = .ok (.iload 9, 2) := dr9 dk9_dX12_checkNeed_0_0.2.2.2.1 17 (146, .iload 9, 2) rfl
theorem dX12_checkNeed_148 : decode cX12_checkNeed 148 = .ok (.invokestatic 458, 3) := dr9 dk9_dX12_checkNeed_0_0.2.2.2.1 18 (148, .invokestatic 458, 3) rfl
theorem dX12_checkNeed_151 : decode cX12_checkNeed 151 = .ok (.aload_n 0, 1) := dr9 dk9_dX12_checkNeed_0_0.2.2.2.1 19 (151, .aload_n 0, 1) rfl
theorem dX12_checkNeed_152 : decode cX12_checkNeed 152 = .ok (.getfield 71, 3) := dr9 dk9_dX12_checkNeed_0_0.2.2.2.1 20 (152, .getfield 71, 3) rfl
theorem dX12_checkNeed_155 : decode cX12_checkNeed 155 = .ok (.bipush 24, 2) := dr9 dk9_dX12_checkNeed_0_0.2.2.2.1 21 (155, .bipush 24, 2) rfl
theorem dX12_checkNeed_157 : decode cX12_checkNeed 157 = .ok (.aload_n 0, 1) := dr9 dk9_dX12_checkNeed_0_0.2.2.2.1 22 (157, .aload_n 0, 1) rfl
theorem dX12_checkNeed_158 : decode cX12_checkNeed 158 = .ok (.getfield 286, 3) := dr9 dk9_dX12_checkNeed_0_0.2.2.2.1 23 (158, .getfield 286, 3) rfl
theorem dX12_checkNeed_161 : decode cX12_checkNeed 161 = .ok (.imul, 1) := dr9 dk9_dX12_checkNeed_0_0.2.2.2.2.1 0 (161, .imul, 1) rfl
theorem dX12_checkNeed_162 : decode cX12_checkNeed 162 = .ok (.iload_n 1, 1) := dr9 dk9_dX12_checkNeed_0_0.2.2.2.2.1 1 (162, .iload_n 1, 1) rfl
theorem dX12_checkNeed_163 : decode cX12_checkNeed 163 = .ok (.iadd, 1) := dr9 dk9_dX12_checkNeed_0_0.2.2.2.2.1 2 (163, .iadd, 1) rfl
theorem dX12_checkNeed_164 : decode cX12_checkNeed 164 = .ok (.iaload, 1) := dr9 dk9_dX12_checkNeed_0_0.2.2.2.2.1 3 (164, .iaload, 1) rfl
theorem dX12_checkNeed_165 : decode cX12_checkNeed 165 = .ok (.invokestatic 458, 3) := dr9 dk9_dX12_checkNeed_0_0.2.2.2.2.1 4 (165, .invokestatic 458, 3) rfl
theorem dX12_checkNeed_168 : decode cX12_checkNeed 168 = .ok (.if_icmp .ge 7, 3) := dr9 dk9_dX12_checkNeed_0_0.2.2.2.2.1 5 (168, .if_icmp .ge 7, 3) rfl
theorem dX12_checkNeed_184 : decode cX12_checkNeed 184 = .ok (.iload 5, 2) := dr9 dk9_dX12_checkNeed_0_0.2.2.2.2.1 6 (184, .iload 5, 2) rfl
theorem dX12_checkNeed_186 : decode cX12_checkNeed 186 = .ok (.ifCond .ne 13, 3) := dr9 dk9_dX12_checkNeed_0_0.2.2.2.2.1 7 (186, .ifCond .ne 13, 3) rfl
theorem dX12_checkNeed_199 : decode cX12_checkNeed 199 = .ok (.aload_n 0, 1) := dr9 dk9_dX12_checkNeed_0_0.2.2.2.2.1 8 (199, .aload_n 0, 1) rfl
theorem dX12_checkNeed_200 : decode cX12_checkNeed 200 = .ok (.iload 5, 2) := dr9 dk9_dX12_checkNeed_0_0.2.2.2.2.1 9 (200, .iload 5, 2) rfl
theorem dX12_checkNeed_202 : decode cX12_checkNeed 202 = .ok (.ifCond .eq 7, 3) := dr9 dk9_dX12_checkNeed_0_0.2.2.2.2.1 10 (202, .ifCond .eq 7, 3) rfl
theorem dX12_checkNeed_205 : decode cX12_checkNeed 205 = .ok (.iconst 1, 1) := dr9 dk9_dX12_checkNeed_0_0.2.2.2.2.1 11 (205, .iconst 1, 1) rfl
theorem dX12_checkNeed_206 : decode cX12_checkNeed 206 = .ok (.goto 13, 3) := dr9 dk9_dX12_checkNeed_0_0.2.2.2.2.1 12 (206, .goto 13, 3) rfl
theorem dX12_checkNeed_219 : decode cX12_checkNeed 219 = .ok (.iload_n 1, 1) := dr9 dk9_dX12_checkNeed_0_0.2.2.2.2.1 13 (219, .iload_n 1, 1) rfl
theorem dX12_checkNeed_220 : decode cX12_checkNeed 220 = .ok (.iload_n 2, 1) := dr9 dk9_dX12_checkNeed_0_0.2.2.2.2.1 14 (220, .iload_n 2, 1) rfl
theorem dX12_checkNeed_221 : decode cX12_checkNeed 221 = .ok (.invokevirtual 461, 3) := dr9 dk9_dX12_checkNeed_0_0.2.2.2.2.1 15 (221, .invokevirtual 461, 3) rfl
theorem dX12_checkNeed_224 : decode cX12_checkNeed 224 = .ok (.return_, 1) := dr9 dk9_dX12_checkNeed_0_0.2.2.2.2.1 16 (224, .return_, 1) rfl
theorem dX12_checkNeed_189 : decode cX12_checkNeed 189 = .ok (.iload 6, 2) := dr9 dk9_dX12_checkNeed_0_0.2.2.2.2.1 17 (189, .iload 6, 2) rfl
theorem dX12_checkNeed_191 : decode cX12_checkNeed 191 = .ok (.ifCond .ne 8, 3) := dr9 dk9_dX12_checkNeed_0_0.2.2.2.2.1 18 (191, .ifCond .ne 8, 3) rfl
theorem dX12_checkNeed_209 : decode cX12_checkNeed 209 = .ok (.iload 6, 2) := dr9 dk9_dX12_checkNeed_0_0.2.2.2.2.1 19 (209, .iload 6, 2) rfl
theorem dX12_checkNeed_211 : decode cX12_checkNeed 211 = .ok (.ifCond .eq 7, 3) := dr9 dk9_dX12_checkNeed_0_0.2.2.2.2.1 20 (211, .ifCond .eq 7, 3) rfl
theorem dX12_checkNeed_214 : decode cX12_checkNeed 214 = .ok (.iconst 2, 1) := dr9 dk9_dX12_checkNeed_0_0.2.2.2.2.1 21 (214, .iconst 2, 1) rfl
theorem dX12_checkNeed_215 : decode cX12_checkNeed 215 = .ok (.goto 4, 3) := dr9 dk9_dX12_checkNeed_0_0.2.2.2.2.1 22 (215, .goto 4, 3) rfl
theorem dX12_checkNeed_194 : decode cX12_checkNeed 194 = .ok (.iload 7, 2) := dr9 dk9_dX12_checkNeed_0_0.2.2.2.2.1 23 (194, .iload 7, 2) rfl
theorem dX12_checkNeed_196 : decode cX12_checkNeed 196 = .ok (.ifCond .eq 28, 3) := dr9 dk9_dX12_checkNeed_0_0.2.2.2.2.2 0 (196, .ifCond .eq 28, 3) rfl
theorem dX12_checkNeed_218 : decode cX12_checkNeed 218 = .ok (.iconst 4, 1) := dr9 dk9_dX12_checkNeed_0_0.2.2.2.2.2 1 (218, .iconst 4, 1) rfl
theorem dk9_dX12_addCycle_0_0 : dOk cX12_addCycle [(0, .iconst 0, 1), (1, .istore_n 2, 1), (2, .aload_n 0, 1), (3, .getfield 219, 3), (6, .iload_n 2, 1), (7, .iaload, 1), (8, .iload_n 1, 1), (9, .if_icmp .eq 9, 3), (12, .iinc 2 1, 3), (15, .goto (-13), 3), (18, .iload_n 2, 1), (19, .istore_n 3, 1), (20, .iload_n 3, 1), (21, .aload_n 0, 1), (22, .getfield 449, 3), (25, .if_icmp .ge 40, 3), (28, .aload_n 0, 1), (29, .getfield 435, 3), (32, .bipush 100, 2), (34, .if_icmp .ge 31, 3), (37, .aload_n 0, 1), (38, .getfield 210, 3), (41, .bipush 24, 2), (43, .aload_n 0, 1)] = true ∧ dOk cX12_addCycle [(44, .getfield 435, 3), (47, .imul, 1), (48, .iload_n 3, 1), (49, .iadd, 1), (50, .iload_n 2, 1), (51, .isub, 1), (52, .aload_n 0, 1), (53, .getfield 219, 3), (56, .iload_n 3, 1), (57, .iaload, 1), (58, .iastore, 1), (59, .iinc 3 1, 3), (62, .goto (-42), 3), (65, .aload_n 0, 1), (66, .iconst 3, 1), (67, .iload_n 1, 1), (68, .aload_n 0, 1), (69, .getfield 449, 3), (72, .iload_n 2, 1), (73, .isub, 1), (74, .invokevirtual 461, 3), (77, .return_, 1)] = true := by decide +kernel
theorem dX12_addCycle_0 : decode cX12_addCycle 0 = .ok (.iconst 0, 1) := dr9 dk9_dX12_addCycle_0_0.1 0 (0, .iconst 0, 1) rfl
theorem dX12_addCycle_1 : decode cX12_addCycle 1 = .ok (.istore_n 2, 1) := dr9 dk9_dX12_addCycle_0_0.1 1 (1, .istore_n 2, 1) rfl
theorem dX12_addCycle_2 : decode cX12_addCycle 2 = .ok (.aload_n 0, 1) := dr9 dk9_dX12_addCycle_0_0.1 2 (2, .aload_n 0, 1) rfl
theorem dX12_addCycle_3 : decode cX12_addCycle 3 = .ok (.getfield 219, 3) := dr9 dk9_dX12_addCycle_0_0.1 3 (3, .getfield 219, 3) rfl
theorem dX12_addCycle_6 : decode cX12_addCycle 6 = .ok (.iload_n 2, 1) := dr9 dk9_dX12_addCycle_0_0.1 4 (6, .iload_n 2, 1) rfl
theorem dX12_addCycle_7 : decode cX12_addCycle 7 = .ok (.iaload, 1) := dr9 dk9_dX12_addCycle_0_0.1 5 (7, .iaload, 1) rfl
theorem dX12_addCycle_8 : decode cX12_addCycle 8 = .ok (.iload_n 1, 1) := dr9 dk9_dX12_addCycle_0_0.1 6 (8, .iload_n 1, 1) rfl
theorem dX12_addCycle_9 : decode cX12_addCycle 9 = .ok (.if_icmp .eq 9, 3) := dr9 dk9_dX12_addCycle_0_0.1 7 (9, .if_icmp .eq 9, 3) rfl
theorem dX12_addCycle_12 : decode cX12_addCycle 12 = .ok (.iinc 2 1, 3) := dr9 dk9_dX12_addCycle_0_0.1 8 (12, .iinc 2 1, 3) rfl
theorem dX12_addCycle_15 : decode cX12_addCycle 15 = .ok (.goto (-13), 3) := dr9 dk9_dX12_addCycle_0_0.1 9 (15, .goto (-13), 3) rfl
theorem dX12_addCycle_18 : decode cX12_addCycle 18 = .ok (.iload_n 2, 1) := dr9 dk9_dX12_addCycle_0_0.1 10 (18, .iload_n 2, 1) rfl
theorem dX12_addCycle_19 : decode cX12_addCycle 19 = .ok (.istore_n 3, 1) := dr9 dk9_dX12_addCycle_0_0.1 11 (19, .istore_n 3, 1) rfl
theorem dX12_addCycle_20 : decode cX12_addCycle 20 = .ok (.iload_n 3, 1) := dr9 dk9_dX12_addCycle_0_0.1 12 (20, .iload_n 3, 1) rfl
theorem dX12_addCycle_21 : decode cX12_addCycle 21 = .ok (.aload_n 0, 1) := dr9 dk9_dX12_addCycle_0_0.1 13 (21, .aload_n 0, 1) rfl
theorem dX12_addCycle_22 : decode cX12_addCycle 22 = .ok (.getfield 449, 3) := dr9 dk9_dX12_addCycle_0_0.1 14 (22, .getfield 449, 3) rfl
theorem dX12_addCycle_25 : decode cX12_addCycle 25 = .ok (.if_icmp .ge 40, 3) := dr9 dk9_dX12_addCycle_0_0.1 15 (25, .if_icmp .ge 40, 3) rfl
theorem dX12_addCycle_28 : decode cX12_addCycle 28 = .ok (.aload_n 0, 1) := dr9 dk9_dX12_addCycle_0_0.1 16 (28, .aload_n 0, 1) rfl
theorem dX12_addCycle_29 : decode cX12_addCycle 29 = .ok (.getfield 435, 3) := dr9 dk9_dX12_addCycle_0_0.1 17 (29, .getfield 435, 3) rfl
theorem dX12_addCycle_32 : decode cX12_addCycle 32 = .ok (.bipush 100, 2) := dr9 dk9_dX12_addCycle_0_0.1 18 (32, .bipush 100, 2) rfl
theorem dX12_addCycle_34 : decode cX12_addCycle 34 = .ok (.if_icmp .ge 31, 3) := dr9 dk9_dX12_addCycle_0_0.1 19 (34, .if_icmp .ge 31, 3) rfl
theorem dX12_addCycle_37 : decode cX12_addCycle 37 = .ok (.aload_n 0, 1) := dr9 dk9_dX12_addCycle_0_0.1 20 (37, .aload_n 0, 1) rfl
theorem dX12_addCycle_38 : decode cX12_addCycle 38 = .ok (.getfield 210, 3) := dr9 dk9_dX12_addCycle_0_0.1 21 (38, .getfield 210, 3) rfl
theorem dX12_addCycle_41 : decode cX12_addCycle 41 = .ok (.bipush 24, 2) := dr9 dk9_dX12_addCycle_0_0.1 22 (41, .bipush 24, 2) rfl
theorem dX12_addCycle_43 : decode cX12_addCycle 43 = .ok (.aload_n 0, 1) := dr9 dk9_dX12_addCycle_0_0.1 23 (43, .aload_n 0, 1) rfl
theorem dX12_addCycle_44 : decode cX12_addCycle 44 = .ok (.getfield 435, 3) := dr9 dk9_dX12_addCycle_0_0.2 0 (44, .getfield 435, 3) rfl
theorem dX12_addCycle_47 : decode cX12_addCycle 47 = .ok (.imul, 1) := dr9 dk9_dX12_addCycle_0_0.2 1 (47, .imul, 1) rfl
theorem dX12_addCycle_48 : decode cX12_addCycle 48 = .ok (.iload_n 3, 1) := dr9 dk9_dX12_addCycle_0_0.2 2 (48, .iload_n 3, 1) rfl
theorem dX12_addCycle_49 : decode cX12_addCycle 49 = .ok (.iadd, 1) := dr9 dk9_dX12_addCycle_0_0.2 3 (49, .iadd, 1) rfl
theorem dX12_addCycle_50 : decode cX12_addCycle 50 = .ok (.iload_n 2, 1) := dr9 dk9_dX12_addCycle_0_0.2 4 (50, .iload_n 2, 1) rfl
theorem dX12_addCycle_51 : decode cX12_addCycle 51 = .ok (.isub, 1) := dr9 dk9_dX12_addCycle_0_0.2 5 (51, .isub, 1) rfl
theorem dX12_addCycle_52 : decode cX12_addCycle 52 = .ok (.aload_n 0, 1) := dr9 dk9_dX12_addCycle_0_0.2 6 (52, .aload_n 0, 1) rfl
theorem dX12_addCycle_53 : decode cX12_addCycle 53 = .ok (.getfield 219, 3) := dr9 dk9_dX12_addCycle_0_0.2 7 (53, .getfield 219, 3) rfl
theorem dX12_addCycle_56 : decode cX12_addCycle 56 = .ok (.iload_n 3, 1) := dr9 dk9_dX12_addCycle_0_0.2 8 (56, .iload_n 3, 1) rfl
theorem dX12_addCycle_57 : decode cX12_addCycle 57 = .ok (.iaload, 1) := dr9 dk9_dX12_addCycle_0_0.2 9 (57, .iaload, 1) rfl
theorem dX12_addCycle_58 : decode cX12_addCycle 58 = .ok (.iastore, 1) := dr9 dk9_dX12_addCycle_0_0.2 10 (58, .iastore, 1) rfl
theorem dX12_addCycle_59 : decode cX12_addCycle 59 = .ok (.iinc 3 1, 3) := dr9 dk9_dX12_addCycle_0_0.2 11 (59, .iinc 3 1, 3) rfl
theorem dX12_addCycle_62 : decode cX12_addCycle 62 = .ok (.goto (-42), 3) := dr9 dk9_dX12_addCycle_0_0.2 12 (62, .goto (-42), 3) rfl
theorem dX12_addCycle_65 : decode cX12_addCycle 65 = .ok (.aload_n 0, 1) := dr9 dk9_dX12_addCycle_0_0.2 13 (65, .aload_n 0, 1) rfl
theorem dX12_addCycle_66 : decode cX12_addCycle 66 = .ok (.iconst 3, 1) := dr9 dk9_dX12_addCycle_0_0.2 14 (66, .iconst 3, 1) rfl
theorem dX12_addCycle_67 : decode cX12_addCycle 67 = .ok (.iload_n 1, 1) := dr9 dk9_dX12_addCycle_0_0.2 15 (67, .iload_n 1, 1) rfl
theorem dX12_addCycle_68 : decode cX12_addCycle 68 = .ok (.aload_n 0, 1) := dr9 dk9_dX12_addCycle_0_0.2 16 (68, .aload_n 0, 1) rfl
theorem dX12_addCycle_69 : decode cX12_addCycle 69 = .ok (.getfield 449, 3) := dr9 dk9_dX12_addCycle_0_0.2 17 (69, .getfield 449, 3) rfl
theorem dX12_addCycle_72 : decode cX12_addCycle 72 = .ok (.iload_n 2, 1) := dr9 dk9_dX12_addCycle_0_0.2 18 (72, .iload_n 2, 1) rfl
theorem dX12_addCycle_73 : decode cX12_addCycle 73 = .ok (.isub, 1) := dr9 dk9_dX12_addCycle_0_0.2 19 (73, .isub, 1) rfl
theorem dX12_addCycle_74 : decode cX12_addCycle 74 = .ok (.invokevirtual 461, 3) := dr9 dk9_dX12_addCycle_0_0.2 20 (74, .invokevirtual 461, 3) rfl
theorem dX12_addCycle_77 : decode cX12_addCycle 77 = .ok (.return_, 1) := dr9 dk9_dX12_addCycle_0_0.2 21 (77, .return_, 1) rfl
abbrev r_s_suits : Room := { frames := 1, cells := 0, slots := 0, locals := 22 }
abbrev q_s_suits (D : va_G) (ks : KS) (ad : Nat → Nat) (kk : Nat → ClassId) (V : Vf) (L : Lf) (p0 : Int32) (p1 : Int32) (A : Nat → Prop) : Array Value → State → Outcome → State → Prop := va_Qi (fun (r : Int32) (_ : Unit) => (0 ≤ r.toInt ∧ r.toInt ≤ 1)) (fun _ t => gq D A (mw ad kk ks.1 V L) (mty kk) t) A
abbrev r_s_candidatesOf : Room := { frames := 2, cells := 0, slots := 0, locals := 45 }
abbrev q_s_candidatesOf (D : va_G) (ks : KS) (ad : Nat → Nat) (kk : Nat → ClassId) (V : Vf) (L : Lf) (p0 : Int32) (A : Nat → Prop) : Array Value → State → Outcome → State → Prop := va_Qi (fun (r : Int32) (u : Vf × Lf) => rgd bM u.1 ∧ agr [] [80] V u.1 ∧ u.2 = L ∧ (0 ≤ r.toInt ∧ r.toInt ≤ 24)) (fun u t => gq D A (mw ad kk ks.1 u.1 u.2) (mty kk) t) A
abbrev r_s_isCandidate : Room := { frames := 3, cells := 0, slots := 0, locals := 69 }
abbrev q_s_isCandidate (D : va_G) (ks : KS) (ad : Nat → Nat) (kk : Nat → ClassId) (V : Vf) (L : Lf) (p0 : Int32) (p1 : Int32) (A : Nat → Prop) : Array Value → State → Outcome → State → Prop := va_Qi (fun (r : Int32) (u : Vf × Lf) => rgd bM u.1 ∧ agr [] [80] V u.1 ∧ u.2 = L ∧ (0 ≤ r.toInt ∧ r.toInt ≤ 1)) (fun u t => gq D A (mw ad kk ks.1 u.1 u.2) (mty kk) t) A
abbrev r_s_joined : Room := { frames := 0, cells := 0, slots := 0, locals := 0 }
abbrev q_s_joined (D : va_G) (ks : KS) (ad : Nat → Nat) (kk : Nat → ClassId) (V : Vf) (L : Lf) (p0 : Int32) (p1 : Int32) (p2 : Int32) (A : Nat → Prop) : Array Value → State → Outcome → State → Prop := va_Qi (fun (r : Int32) (u : Vf × Lf) => rgd bM u.1 ∧ agr [(0, 0)] [] V u.1 ∧ u.2 = L) (fun u t => gq D A (mw ad kk ks.1 u.1 u.2) (mty kk) t) A
abbrev r_s_candidate : Room := { frames := 3, cells := 0, slots := 0, locals := 69 }
abbrev q_s_candidate (D : va_G) (ks : KS) (ad : Nat → Nat) (kk : Nat → ClassId) (V : Vf) (L : Lf) (p0 : Int32) (p1 : Int32) (p2 : Int32) (A : Nat → Prop) : Array Value → State → Outcome → State → Prop := va_Qi (fun (r : Int32) (u : Vf × Lf) => rgd bM u.1 ∧ agr [(0, 0)] [80] V u.1 ∧ u.2 = L) (fun u t => gq D A (mw ad kk ks.1 u.1 u.2) (mty kk) t) A
abbrev r_s_checkNeed : Room := { frames := 3, cells := 0, slots := 0, locals := 69 }
abbrev q_s_checkNeed (D : va_G) (ks : KS) (ad : Nat → Nat) (kk : Nat → ClassId) (V : Vf) (L : Lf) (p0 : Int32) (p1 : Int32) (A : Nat → Prop) : Array Value → State → Outcome → State → Prop := va_Qv (fun (u : Vf × Lf) => rgd bM u.1 ∧ agr [(0, 81)] [80, 82, 83, 84, 86] V u.1 ∧ u.2 = L ∧ ((u.1 0 81).toInt ≤ (V 0 81).toInt + 1) ∧ ((V 0 81).toInt ≤ (u.1 0 81).toInt)) (fun u t => gq D A (mw ad kk ks.1 u.1 u.2) (mty kk) t) A
abbrev r_s_addCycle : Room := { frames := 1, cells := 0, slots := 0, locals := 23 }
abbrev q_s_addCycle (D : va_G) (ks : KS) (ad : Nat → Nat) (kk : Nat → ClassId) (V : Vf) (L : Lf) (p0 : Int32) (jj : Nat) (A : Nat → Prop) : Array Value → State → Outcome → State → Prop := va_Qv (fun (u : Vf × Lf) => rgd bM u.1 ∧ agr [(0, 81)] [82, 83, 84, 85] V u.1 ∧ u.2 = L ∧ ((u.1 0 81).toInt = (V 0 81).toInt + 1)) (fun u t => gq D A (mw ad kk ks.1 u.1 u.2) (mty kk) t) A
set_option maxHeartbeats 4000000 in
set_option maxRecDepth 100000 in
theorem s_addCycle (l : Launch) (D : va_G) (ks : KS) (sz : Nat) (ad : Nat → Nat) (kk : Nat → ClassId) (V : Vf) (L : Lf) (p0 : Int32) (jj : Nat) (hMV : rgd bM V) (rg_p0 : 0 ≤ p0.toInt ∧ p0.toInt ≤ 23) (y2 : (V 0 81).toInt ≤ 999999) (y3 : (V 88 jj).toInt = p0.toInt) (y4 : jj < (V 0 89).toInt)  : Met l yX12_addCycle (Cond.code yX12_addCycle cX12_addCycle 4 none :: GW) r_s_addCycle (va_Pc [.ref (ad 0), .int p0] (gp D ks (mw ad kk ks.1 V L) (mty kk) sz)) (q_s_addCycle D ks ad kk V L p0 jj (va_A (mw ad kk ks.1 V L) sz)) 0 0 (va_A (mw ad kk ks.1 V L) sz) := by
  refine g_met (q_s_addCycle D ks ad kk V L p0 jj) (by decide) (Nat.le_of_ble_eq_true rfl) ?_
  intro p e s m below meth c A ls H locs hx hb hr hml hown hg hlocks hin hnw hgk hP hK hD hS hA hl
  replace hown : s.vm.findClass RX12 = some m.cls := hown
  replace hl : lv_has ls 4 [(0, .ref (ad 0)), (1, .int p0)] := hl
  replace hP : va_P D vwCl (mw ad kk ks.1 V L) H := hP
  replace hD : va_D A (mw ad kk ks.1 V L) := hD
  replace hK : va_K D vwCl (mty kk) s := hK
  have agV : agr [(0, 81)] [82, 83, 84, 85] V V := agr.rf
  have r1 : 0 ≤ ((V 0 81)).toInt ∧ ((V 0 81)).toInt ≤ 1000000 := hMV 0 81
  have r2 : 0 ≤ ((V 88 jj)).toInt ∧ ((V 88 jj)).toInt ≤ 23 := hMV 88 jj
  have r3 : 0 ≤ ((V 0 89)).toInt ∧ ((V 0 89)).toInt ≤ 24 := hMV 0 89
  refine lv_iconst (v := 0) hx hb dX12_addCycle_0 (by decide) ?_
  refine lv_istore_n (lv' := [(2, .int 0), (0, .ref (ad 0)), (1, .int p0)]) hx hb dX12_addCycle_1 rfl hl (by decide) rfl (fun ls hl => ?_)
  have lp5 : ∀ (fulp5 : Nat) (y4 : Int32) (H : Heap) (locs : List Loc) (ls : Array Slot), 0 ≤ y4.toInt ∧ y4.toInt ≤ 23 → y4.toInt ≤ jj → jj - y4.toInt < (fulp5 : Int) → va_P D vwCl (mw ad kk ks.1 V L) H → va_D A (mw ad kk ks.1 V L) → va_S A s.heap H locs → lv_has ls 4 [(2, .int y4), (0, .ref (ad 0)), (1, .int p0)] → W p l e r_s_addCycle s m ([.ref (ad 0), .int p0] : List Value).toArray below meth c H locs 0 0 (MQ below (q_s_addCycle D ks ad kk V L p0 jj A) ([.ref (ad 0), .int p0] : List Value).toArray s 0 0 A) (F0 m 2 ls []) := by
    intro fulp5
    induction fulp5 with
    | zero =>
      intro y4 H locs ls klp5_0 xlp5_0 hn  hP hD hS hl
      exfalso; (first | exact om_78aeea0570f6 xlp5_0 hn | omega)
    | succ fulp5 ihlp5 =>
      intro y4 H locs ls klp5_0 xlp5_0 hn  hP hD hS hl
      refine lv_aload_n hx hb dX12_addCycle_2 rfl (lv_at hl 1 rfl) ?_
      refine va_get (D := D) (ci := 12) (v := .ref (ad 88)) (C := RX12) (T := TX12) (N := 100) hx hb hg inX12 hown hK hP 0 rfl rfl 88 (by decide) (hg _ w1794) (fun _ h9 => h9) rfl dX12_addCycle_3 ?_
      refine lv_iload_n hx hb dX12_addCycle_6 rfl (lv_at hl 0 rfl) ?_
      refine va_iald (D := D) (i := y4) hx hb hK hP 64 63 rfl rfl (i_in (a := y4.toInt) rfl (by (first | exact om_dbb25e99819b klp5_0.1 klp5_0.2 | omega))) dX12_addCycle_7 ?_
      have r6 : 0 ≤ ((V 88 (Int32.toNatClampNeg y4))).toInt ∧ ((V 88 (Int32.toNatClampNeg y4))).toInt ≤ 23 := hMV 88 (Int32.toNatClampNeg y4)
      have t7 := at_ne (V := V) (c := 88) (x := y4) (n := jj) y3 (by omega)
      refine lv_iload_n hx hb dX12_addCycle_8 rfl (lv_at hl 2 rfl) ?_
      refine lv_icmp_eq (tgt := 18) hx hb dX12_addCycle_9 (by decide) (fun c8 => ?_) (fun c8 => ?_)
      · skip
        have f9 : ((V 88 (Int32.toNatClampNeg y4))).toInt = p0.toInt := b_eq rfl rfl c8
        refine lv_iload_n hx hb dX12_addCycle_18 rfl (lv_at hl 0 rfl) ?_
        refine lv_istore_n (lv' := [(3, .int y4), (2, .int y4), (0, .ref (ad 0)), (1, .int p0)]) hx hb dX12_addCycle_19 rfl hl (by decide) rfl (fun ls hl => ?_)
        have lp12 : ∀ (fulp12 : Nat) (y10 : Int32) (V11 : Vf) (H : Heap) (locs : List Loc) (ls : Array Slot), 0 ≤ y10.toInt ∧ y10.toInt ≤ 24 → y4.toInt ≤ y10.toInt → y10.toInt ≤ (V11 0 89).toInt → (V11 0 89).toInt - y10.toInt < (fulp12 : Int) → agr [] [85] V V11 → rgd bM V11 → va_P D vwCl (mw ad kk ks.1 V11 L) H → va_D A (mw ad kk ks.1 V11 L) → va_S A s.heap H locs → lv_has ls 4 [(3, .int y10), (2, .int y4), (0, .ref (ad 0)), (1, .int p0)] → W p l e r_s_addCycle s m ([.ref (ad 0), .int p0] : List Value).toArray below meth c H locs 0 0 (MQ below (q_s_addCycle D ks ad kk V L p0 jj A) ([.ref (ad 0), .int p0] : List Value).toArray s 0 0 A) (F0 m 20 ls []) := by
          intro fulp12
          induction fulp12 with
          | zero =>
            intro y10 V11 H locs ls klp12_0 xlp12_0 xlp12_1 hn ajV11 hMV11 hP hD hS hl
            exfalso; (first | exact om_4634b1278845 xlp12_1 hn | omega)
          | succ fulp12 ihlp12 =>
            intro y10 V11 H locs ls klp12_0 xlp12_0 xlp12_1 hn ajV11 hMV11 hP hD hS hl
            have agV11 : agr [(0, 81)] [82, 83, 84, 85] V V11 := agV.tr ajV11 (by decide) (by decide)
            have pq13 : (V11 0 89).toInt = ((V 0 89)).toInt := congrArg Int32.toInt (ajV11 0 89 rfl)
            refine lv_iload_n hx hb dX12_addCycle_20 rfl (lv_at hl 0 rfl) ?_
            refine lv_aload_n hx hb dX12_addCycle_21 rfl (lv_at hl 2 rfl) ?_
            refine va_get (D := D) (ci := 12) (v := .int (V11 0 89)) (C := RX12) (T := TX12) (N := 100) hx hb hg inX12 hown hK hP 0 rfl rfl 89 (by decide) (hg _ w1795) (fun _ h9 => h9) rfl dX12_addCycle_22 ?_
            refine g_top (v := (V 0 89)) (ajV11 0 89 rfl) ?_
            have J14 : ∀ (H : Heap) (locs : List Loc) (ls : Array Slot), va_P D vwCl (mw ad kk ks.1 V11 L) H → va_D A (mw ad kk ks.1 V11 L) → va_S A s.heap H locs → lv_has ls 4 [(3, .int y10), (2, .int y4), (0, .ref (ad 0)), (1, .int p0)] → W p l e r_s_addCycle s m ([.ref (ad 0), .int p0] : List Value).toArray below meth c H locs 0 0 (MQ below (q_s_addCycle D ks ad kk V L p0 jj A) ([.ref (ad 0), .int p0] : List Value).toArray s 0 0 A) (F0 m 65 ls []) := by
              intro H locs ls  hP hD hS hl
              refine lv_aload_n hx hb dX12_addCycle_65 rfl (lv_at hl 2 rfl) ?_
              refine lv_iconst (v := 3) hx hb dX12_addCycle_66 (by decide) ?_
              refine lv_iload_n hx hb dX12_addCycle_67 rfl (lv_at hl 3 rfl) ?_
              refine lv_aload_n hx hb dX12_addCycle_68 rfl (lv_at hl 2 rfl) ?_
              refine va_get (D := D) (ci := 12) (v := .int (V11 0 89)) (C := RX12) (T := TX12) (N := 100) hx hb hg inX12 hown hK hP 0 rfl rfl 89 (by decide) (hg _ w1795) (fun _ h9 => h9) rfl dX12_addCycle_69 ?_
              refine g_top (v := (V 0 89)) (ajV11 0 89 rfl) ?_
              refine lv_iload_n hx hb dX12_addCycle_72 rfl (lv_at hl 1 rfl) ?_
              refine lv_isub hx hb dX12_addCycle_73 ?_
              refine lv_topi (fun z15 ez15 => ?_)
              have hz15 : z15.toInt = ((V 0 89)).toInt - y4.toInt := i_sub ez15 rfl rfl (by (first | exact om_416e39c5b28a y4 r3.2 klp5_0.1 xlp5_0 | omega))
              have r16 : Int32.toInt 3 = 3 := by decide
              have pq17 : (V11 0 81).toInt = ((V 0 81)).toInt := congrArg Int32.toInt (ajV11 0 81 rfl)
              refine gA_void (gA_runV (As := [.int 3, .int p0, .int z15]) (rest := []) (ci := 12) (q0 := 0) hx hb hml hown hg hP hD hK hS hA hnw hgk (s_addFault l D ks H.size ad kk V11 L 3 p0 z15 hMV11 (by first | exact om_6f70275400cf y4 r3.2 klp5_0.1 xlp5_0 hz15 | first | omega | ((try (have i_t7 := Imp.go t7 (by omega))); omega)) (show (V11 0 81).toInt ≤ 999999 from by first | exact om_92a90bb16346 y2 pq17 | first | omega | ((try (have i_t7 := Imp.go t7 (by omega))); omega))) w2183 w2185 w121 w172 w2186 rfl rfl hdV_yX12_addFault ⟨Nat.le_of_ble_eq_true rfl, Nat.le_of_ble_eq_true rfl⟩ rfl hl.1 rfl (Nat.le_of_ble_eq_true rfl) dX12_addCycle_74 ⟨Nat.le_of_ble_eq_true rfl, Nat.le_of_ble_eq_true rfl⟩) hP hD hK hS hA (fun u19 H locs w20 hP hD hK hS => ?_)
              obtain ⟨V22, L23⟩ := u19
              obtain ⟨hMV22, ajV22, axL23, t21⟩ := w20
              have axL23 : L = L23 := Eq.symm axL23
              subst axL23
              replace hP : va_P D vwCl (mw ad kk ks.1 V22 L) H := hP
              replace hD : va_D A (mw ad kk ks.1 V22 L) := hD
              replace hMV22 : rgd bM V22 := hMV22
              replace ajV22 : agr [(0, 81)] [82, 83, 84] V11 V22 := ajV22
              have agV22 : agr [(0, 81)] [82, 83, 84, 85] V V22 := agV11.tr ajV22 (by decide) (by decide)
              replace t21 : (V22 0 81).toInt = (V11 0 81).toInt + 1 := t21
              have r24 : 0 ≤ ((V22 0 81)).toInt ∧ ((V22 0 81)).toInt ≤ 1000000 := hMV22 0 81
              exact W.vret hx hb hr (fun t ht hW => ⟨⟨(V22, L), rfl, ⟨hMV22, agV22, rfl, (show (V22 0 81).toInt = (V 0 81).toInt + 1 from by first | exact om_03bf848abeb4 pq17 t21 | first | omega | ((try (have i_t7 := Imp.go t7 (by omega))); omega))⟩, by rw [ht]; exact hP, va_K.moved hW.alike hK, hD⟩, hS.F ht⟩) hS.2.2 dX12_addCycle_77
            refine lv_icmp_ge (tgt := 65) hx hb dX12_addCycle_25 (by decide) (fun c25 => ?_) (fun c25 => ?_)
            · skip
              have f26 : ((V 0 89)).toInt ≤ y10.toInt := b_le rfl rfl c25
              exact J14  H locs ls  hP hD hS (lv_sub hl [0, 1, 2, 3] rfl)
            · skip
              have f27 : y10.toInt < ((V 0 89)).toInt := b_nle rfl rfl c25
              refine lv_aload_n hx hb dX12_addCycle_28 rfl (lv_at hl 2 rfl) ?_
              refine va_get (D := D) (ci := 12) (v := .int (V11 0 81)) (C := RX12) (T := TX12) (N := 100) hx hb hg inX12 hown hK hP 0 rfl rfl 81 (by decide) (hg _ w1787) (fun _ h9 => h9) rfl dX12_addCycle_29 ?_
              refine g_top (v := (V 0 81)) (ajV11 0 81 rfl) ?_
              refine lv_bipush (v := 100) hx hb dX12_addCycle_32 (by decide) ?_
              refine lv_icmp_ge (tgt := 65) hx hb dX12_addCycle_34 (by decide) (fun c28 => ?_) (fun c28 => ?_)
              · skip
                have f29 : 100 ≤ ((V 0 81)).toInt := b_le (by decide) rfl c28
                exact J14  H locs ls  hP hD hS (lv_sub hl [0, 1, 2, 3] rfl)
              · skip
                have f30 : ((V 0 81)).toInt < 100 := b_nle (by decide) rfl c28
                refine lv_aload_n hx hb dX12_addCycle_37 rfl (lv_at hl 2 rfl) ?_
                refine va_get (D := D) (ci := 12) (v := .ref (ad 85)) (C := RX12) (T := TX12) (N := 100) hx hb hg inX12 hown hK hP 0 rfl rfl 85 (by decide) (hg _ w1791) (fun _ h9 => h9) rfl dX12_addCycle_38 ?_
                refine lv_bipush (v := 24) hx hb dX12_addCycle_41 (by decide) ?_
                refine lv_aload_n hx hb dX12_addCycle_43 rfl (lv_at hl 2 rfl) ?_
                refine va_get (D := D) (ci := 12) (v := .int (V11 0 81)) (C := RX12) (T := TX12) (N := 100) hx hb hg inX12 hown hK hP 0 rfl rfl 81 (by decide) (hg _ w1787) (fun _ h9 => h9) rfl dX12_addCycle_44 ?_
                refine g_top (v := (V 0 81)) (ajV11 0 81 rfl) ?_
                refine lv_imul hx hb dX12_addCycle_47 ?_
                refine lv_topi (fun z31 ez31 => ?_)
                have hz31 : z31.toInt = 24 * ((V 0 81)).toInt := i_mul ez31 (by decide) rfl (by (first | exact om_0975071f571e r1.1 f30 | omega))
                refine lv_iload_n hx hb dX12_addCycle_48 rfl (lv_at hl 0 rfl) ?_
                refine lv_iadd hx hb dX12_addCycle_49 ?_
                refine lv_topi (fun z32 ez32 => ?_)
                have hz32 : z32.toInt = z31.toInt + y10.toInt := i_add ez32 rfl rfl (by (first | exact om_b6c3e2cfb84f r1.1 r3.2 klp12_0.1 f27 f30 hz31 | omega))
                refine lv_iload_n hx hb dX12_addCycle_50 rfl (lv_at hl 1 rfl) ?_
                refine lv_isub hx hb dX12_addCycle_51 ?_
                refine lv_topi (fun z33 ez33 => ?_)
                have hz33 : z33.toInt = z32.toInt - y4.toInt := i_sub ez33 rfl rfl (by (first | exact om_05af47529261 r1.1 r3.2 klp5_0.1 xlp12_0 f27 f30 hz31 hz32 | omega))
                refine lv_aload_n hx hb dX12_addCycle_52 rfl (lv_at hl 2 rfl) ?_
                refine va_get (D := D) (ci := 12) (v := .ref (ad 88)) (C := RX12) (T := TX12) (N := 100) hx hb hg inX12 hown hK hP 0 rfl rfl 88 (by decide) (hg _ w1794) (fun _ h9 => h9) rfl dX12_addCycle_53 ?_
                refine lv_iload_n hx hb dX12_addCycle_56 rfl (lv_at hl 0 rfl) ?_
                refine va_iald (D := D) (i := y10) hx hb hK hP 64 63 rfl rfl (i_in (a := y10.toInt) rfl (by first | exact om_b50422aacf88 r3.2 klp12_0.1 f27 | first | omega | ((try (have i_t7 := Imp.go t7 (by omega))); omega))) dX12_addCycle_57 ?_
                refine g_top (v := (V 88 (Int32.toNatClampNeg y10))) (ajV11 88 (Int32.toNatClampNeg y10) rfl) ?_
                have r34 : 0 ≤ ((V 88 (Int32.toNatClampNeg y10))).toInt ∧ ((V 88 (Int32.toNatClampNeg y10))).toInt ≤ 23 := hMV 88 (Int32.toNatClampNeg y10)
                have t35 := at_ne (V := V) (c := 88) (x := y10) (n := jj) y3 (by first | omega | ((try (have i_t7 := Imp.go t7 (by omega))); omega))
                refine va_iast (D := D) (i := z33) (x := (V 88 (Int32.toNatClampNeg y10))) hx hb hK hP hD hS 61 60 rfl rfl (i_in (a := z33.toInt) rfl (by first | exact om_227d544c7746 r1.1 r3.2 klp5_0.1 xlp12_0 f27 f30 hz31 hz32 hz33 | first | omega | ((try (have i_t35 := Imp.go t35 (by omega))); (try (have i_t7 := Imp.go t7 (by omega))); (try (have i_t7 := Imp.go t7 (by omega))); (try (have i_t35 := Imp.go t35 (by omega))); omega))) dX12_addCycle_58 (fun H locs hP hD hS => ?_)
                obtain ⟨V36, hV36⟩ : ∃ z, z = up2 V11 85 (Int32.toNatClampNeg z33) (V 88 (Int32.toNatClampNeg y10)) := ⟨_, rfl⟩
                have hP : va_P D vwCl (mw ad kk ks.1 V36 L) H := by rw [hV36]; exact hP
                have hD : va_D A (mw ad kk ks.1 V36 L) := by rw [hV36]; exact hD
                have hMV36 : rgd bM V36 := hMV11.put hV36 (i_full _)
                have agV36 : agr [(0, 81)] [82, 83, 84, 85] V V36 := agV11.up hV36 rfl
                obtain ⟨z37, ez37⟩ : ∃ y : Int32, y = y10 + 1 := ⟨_, rfl⟩
                have hz37 : z37.toInt = y10.toInt + 1 := i_add ez37 rfl (by decide) (by (first | exact om_ef5c713ba60b r3.2 klp12_0.1 f27 | omega))
                refine lv_iinc (v := z37) (lv' := [(3, .int z37), (2, .int y4), (0, .ref (ad 0)), (1, .int p0)]) hx hb dX12_addCycle_59 hl (k := 0) rfl (by rw [ez37]; rfl) (by decide) rfl (fun ls hl => ?_)
                refine lv_goto (tgt := 20) hx hb dX12_addCycle_62 (by decide) ?_
                have pq38 : (V36 0 89).toInt = ((V 0 89)).toInt := congrArg Int32.toInt ((up2_o hV36 (by decide)).trans (ajV11 0 89 rfl))
                exact ihlp12 z37 V36 H locs ls (by first | exact om_66f93e1729e3 r3.2 klp12_0.1 f27 hz37 | first | omega | ((try (have i_t35 := Imp.go t35 (by omega))); (try (have i_t7 := Imp.go t7 (by omega))); (try (have i_t7 := Imp.go t7 (by omega))); (try (have i_t35 := Imp.go t35 (by omega))); omega)) (show y4.toInt ≤ z37.toInt from by first | exact om_f75a30b4c815 xlp12_0 hz37 | first | omega | ((try (have i_t35 := Imp.go t35 (by omega))); (try (have i_t7 := Imp.go t7 (by omega))); (try (have i_t7 := Imp.go t7 (by omega))); (try (have i_t35 := Imp.go t35 (by omega))); omega)) (show z37.toInt ≤ (V36 0 89).toInt from by first | exact om_f971e48495aa f27 hz37 pq38 | first | omega | ((try (have i_t35 := Imp.go t35 (by omega))); (try (have i_t7 := Imp.go t7 (by omega))); (try (have i_t7 := Imp.go t7 (by omega))); (try (have i_t35 := Imp.go t35 (by omega))); omega)) (by first | exact om_5806eb61fe36 hn pq13 hz37 pq38 | first | omega | ((try (have i_t35 := Imp.go t35 (by omega))); (try (have i_t7 := Imp.go t7 (by omega))); (try (have i_t7 := Imp.go t7 (by omega))); (try (have i_t35 := Imp.go t35 (by omega))); omega)) (agr.up (agr.tr agr.rf ajV11 (by decide) (by decide)) hV36 rfl) hMV36 hP hD hS (lv_sub hl [0, 1, 2, 3] rfl)
        exact lp12 (((V 0 89).toInt - y4.toInt + 1 : Int).toNat) y4 V H locs ls (by first | exact om_a1266343c2df klp5_0.1 klp5_0.2 | first | omega | ((try (have i_t7 := Imp.go t7 (by omega))); omega)) (show y4.toInt ≤ y4.toInt from by first | exact om_5977f3d8a10f | first | omega | ((try (have i_t7 := Imp.go t7 (by omega))); omega)) (show y4.toInt ≤ (V 0 89).toInt from by first | exact om_4f78463f6759 y4 xlp5_0 | first | omega | ((try (have i_t7 := Imp.go t7 (by omega))); omega)) (by first | exact om_7441a7786481 | first | omega | ((try (have i_t7 := Imp.go t7 (by omega))); omega)) agr.rf hMV hP hD hS (lv_sub hl [0, 1, 2, 3] rfl)
      · skip
        have f39 : ((V 88 (Int32.toNatClampNeg y4))).toInt ≠ p0.toInt := b_neq rfl rfl c8
        obtain ⟨z40, ez40⟩ : ∃ y : Int32, y = y4 + 1 := ⟨_, rfl⟩
        have hz40 : z40.toInt = y4.toInt + 1 := i_add ez40 rfl (by decide) (by (first | exact om_9de2afaaba37 klp5_0.1 klp5_0.2 | omega))
        refine lv_iinc (v := z40) (lv' := [(2, .int z40), (0, .ref (ad 0)), (1, .int p0)]) hx hb dX12_addCycle_12 hl (k := 0) rfl (by rw [ez40]; rfl) (by decide) rfl (fun ls hl => ?_)
        refine lv_goto (tgt := 2) hx hb dX12_addCycle_15 (by decide) ?_
        exact ihlp5 z40 H locs ls (by first | omega | ((try (have i_t7 := Imp.go t7 (by omega))); omega)) (show z40.toInt ≤ jj from by first | omega | ((try (have i_t7 := Imp.go t7 (by omega))); omega)) (by first | exact om_b96bd3e5c0f3 hn hz40 | first | omega | ((try (have i_t7 := Imp.go t7 (by omega))); omega)) hP hD hS (lv_sub hl [0, 1, 2] rfl)
  have r41 : Int32.toInt 0 = 0 := by decide
  exact lp5 ((jj - (Int32.toInt 0) + 1 : Int).toNat) 0 H locs ls (by decide) (show (Int32.toInt 0) ≤ jj from by (first | exact om_f8f531ed37ab r41 | omega)) (by (first | exact om_684b5d9a14b2 | omega)) hP hD hS (lv_sub hl [0, 1, 2] rfl)
end
section
/-! how the tape grows: its length, eight signs of a long (the class shifts by >>>, the reference by >>) -/
def shv (n : Nat) : Int32 := Int32.ofInt (8 * (n : Int) - 8)
def sgc (v : Int64) (y : Int32) : Int32 := ((v.toUInt64 >>> (y.toInt64.toUInt64 &&& Int64.toUInt64 63)).toInt64).toInt32 &&& 255
def sgm (v : Int64) (y : Int32) : Int32 := (v >>> (y.toInt64 &&& 63)).toInt32 &&& 255
def stp (s : Int32) (k : Nat) : Nat := if (s = 10 ∨ (32 ≤ s ∧ s ≤ 126)) ∧ k < 4000 then k + 1 else k
def apk : Nat → Int64 → Nat → Nat
  | 0, _, k => k
  | n + 1, v, k => apk n v (stp (sgc v (shv (n + 1))) k)
def apm : Nat → Int64 → Nat → Nat
  | 0, _, k => k
  | n + 1, v, k => apm n v (stp (sgm v (shv (n + 1))) k)
/-! the eight signs of a long: >>> and >> give the same low bytes -/
theorem sg_bits (v z w : BitVec 64) (k : Nat) (hz : z.toNat = k) (hw : w.toNat = k) (hk : k ≤ 56) : ((v >>> z).signExtend 32 &&& (255 : Int32).toBitVec) = ((v.sshiftRight' w).signExtend 32 &&& (255 : Int32).toBitVec) := by
  apply BitVec.eq_of_getLsbD_eq
  intro i hi
  rw [BitVec.getLsbD_and, BitVec.getLsbD_and]
  by_cases h8 : i < 8
  · have h1 : k + i < 64 := by omega
    have h2 : ¬ 64 ≤ i := by omega
    have h3 : i < 64 := by omega
    have e : ((v >>> z).signExtend 32).getLsbD i = ((v.sshiftRight' w).signExtend 32).getLsbD i := by
      rw [BitVec.getLsbD_signExtend, BitVec.getLsbD_signExtend, BitVec.getLsbD_sshiftRight', hw, BitVec.ushiftRight_eq', hz, BitVec.getLsbD_ushiftRight, if_pos h3, if_pos h3, if_pos h1]
      simp [h2]
    rw [e]
  · have h4 : ∀ j, j < 32 → ¬ j < 8 → ((255 : Int32).toBitVec).getLsbD j = false := by decide +kernel
    rw [h4 i hi h8, Bool.and_false, Bool.and_false]
theorem sg_z : ∀ n, n < 8 → ((((shv (n + 1)).toInt64.toUInt64 &&& Int64.toUInt64 63) % 64).toBitVec).toNat = 8 * n := by decide +kernel
theorem sg_w : ∀ n, n < 8 → (((shv (n + 1)).toInt64 &&& 63).toBitVec.smod 64).toNat = 8 * n := by decide +kernel
theorem sgc_bv (v : Int64) (y : Int32) : (sgc v y).toBitVec = ((v.toBitVec >>> ((y.toInt64.toUInt64 &&& Int64.toUInt64 63) % 64).toBitVec).signExtend 32 &&& (255 : Int32).toBitVec) := rfl
theorem sgm_bv (v : Int64) (y : Int32) : (sgm v y).toBitVec = ((v.toBitVec.sshiftRight' ((y.toInt64 &&& 63).toBitVec.smod 64)).signExtend 32 &&& (255 : Int32).toBitVec) := rfl
theorem sgc_sgm (v : Int64) (n : Nat) (hn : n < 8) : sgc v (shv (n + 1)) = sgm v (shv (n + 1)) :=
  Int32.toBitVec_inj.mp (by rw [sgc_bv, sgm_bv]; exact sg_bits v.toBitVec _ _ (8 * n) (sg_z n hn) (sg_w n hn) (by omega))
theorem apk_apm : ∀ (n : Nat) (v : Int64) (k : Nat), n ≤ 8 → apk n v k = apm n v k
  | 0, _, _, _ => rfl
  | n + 1, v, k, h => by
    show apk n v (stp (sgc v (shv (n + 1))) k) = apm n v (stp (sgm v (shv (n + 1))) k)
    rw [sgc_sgm v n (by omega)]
    exact apk_apm n v _ (by omega)
theorem apk_apm8 (v : Int64) (k : Nat) : apk 8 v k = apm 8 v k := apk_apm 8 v k (Nat.le_refl 8)
theorem shv_toInt : ∀ n, n < 9 → (shv n).toInt = 8 * (n : Int) - 8 := by decide +kernel
theorem stp_i {z : Int32} {k : Nat} (h : z.toInt = 10 ∨ (32 ≤ z.toInt ∧ z.toInt ≤ 126)) (hk : k < 4000) : stp z k = k + 1 := if_pos ⟨h.elim (fun q => Or.inl (Int32.toInt_inj.mp q)) (fun q => Or.inr ⟨Int32.le_iff_toInt_le.mpr q.1, Int32.le_iff_toInt_le.mpr q.2⟩), hk⟩
theorem stp_j {z : Int32} {k : Nat} (h : (z.toInt ≠ 10 ∧ (z.toInt < 32 ∨ 126 < z.toInt)) ∨ 4000 ≤ k) : stp z k = k := if_neg (fun q => by
  rcases h with h | h
  · rcases q.1 with r | r
    · exact h.1 (by rw [r]; rfl)
    · have r1 := Int32.le_iff_toInt_le.mp r.1
      have r2 := Int32.le_iff_toInt_le.mp r.2
      have e1 : (32 : Int32).toInt = 32 := rfl
      have e2 : (126 : Int32).toInt = 126 := rfl
      omega
  · exact absurd q.2 (by omega))

theorem w1689 : Cond.code yX12_lay cX12_lay 5 none ∈ GW := gw_k tk9_7 94 (rfl) rfl
theorem w1685 : Cond.methodLink RX12 7 yX12_lay ∈ GW := gw_k tk9_7 90 (by decide +kernel) rfl
theorem w1687 : Cond.instanceMethod yX12_lay ∈ GW := gw_k tk9_7 92 (by decide +kernel) rfl
theorem w81 : Cond.selects RX12 yX12_lay yX12_lay ∈ GW := gw_mem 81 (by decide +kernel) rfl
theorem hdV_yX12_lay : yX12_lay.cls = RX12 ∧ yX12_lay.cls ≠ "java/lang/invoke/MethodHandle" ∧ yX12_lay.cls ≠ "java/lang/invoke/VarHandle" ∧ (parseMethodDescriptor yX12_lay.desc).map (fun d => d.parameters.length) = some 1 := by decide +kernel
theorem dk9_dX12_lay_0_0 : dOk cX12_lay [(0, .bipush 56, 2), (2, .istore_n 3, 1), (3, .iload_n 3, 1), (4, .ifCond .lt 71, 3), (75, .return_, 1), (7, .lload_n 1, 1), (8, .iload_n 3, 1), (9, .lshr, 1), (10, .l2i, 1), (11, .sipush 255, 3), (14, .iand, 1), (15, .istore 4, 2), (17, .iload 4, 2), (19, .bipush 10, 2), (21, .if_icmp .eq 17, 3), (38, .aload_n 0, 1), (39, .getfield 11, 3), (42, .sipush 4000, 3), (45, .if_icmp .ge 24, 3), (69, .iinc 3 (-8), 3), (72, .goto (-69), 3), (48, .aload_n 0, 1), (49, .getfield 14, 3), (52, .aload_n 0, 1)] = true ∧ dOk cX12_lay [(53, .getfield 11, 3), (56, .iload 4, 2), (58, .iastore, 1), (59, .aload_n 0, 1), (60, .dup, 1), (61, .getfield 11, 3), (64, .iconst 1, 1), (65, .iadd, 1), (66, .putfield 11, 3), (24, .iload 4, 2), (26, .bipush 32, 2), (28, .if_icmp .lt 41, 3), (31, .iload 4, 2), (33, .bipush 126, 2), (35, .if_icmp .gt 34, 3)] = true := by decide +kernel
theorem dX12_lay_0 : decode cX12_lay 0 = .ok (.bipush 56, 2) := dr9 dk9_dX12_lay_0_0.1 0 (0, .bipush 56, 2) rfl
theorem dX12_lay_2 : decode cX12_lay 2 = .ok (.istore_n 3, 1) := dr9 dk9_dX12_lay_0_0.1 1 (2, .istore_n 3, 1) rfl
theorem dX12_lay_3 : decode cX12_lay 3 = .ok (.iload_n 3, 1) := dr9 dk9_dX12_lay_0_0.1 2 (3, .iload_n 3, 1) rfl
theorem dX12_lay_4 : decode cX12_lay 4 = .ok (.ifCond .lt 71, 3) := dr9 dk9_dX12_lay_0_0.1 3 (4, .ifCond .lt 71, 3) rfl
theorem dX12_lay_75 : decode cX12_lay 75 = .ok (.return_, 1) := dr9 dk9_dX12_lay_0_0.1 4 (75, .return_, 1) rfl
theorem dX12_lay_7 : decode cX12_lay 7 = .ok (.lload_n 1, 1) := dr9 dk9_dX12_lay_0_0.1 5 (7, .lload_n 1, 1) rfl
theorem dX12_lay_8 : decode cX12_lay 8 = .ok (.iload_n 3, 1) := dr9 dk9_dX12_lay_0_0.1 6 (8, .iload_n 3, 1) rfl
theorem dX12_lay_9 : decode cX12_lay 9 = .ok (.lshr, 1) := dr9 dk9_dX12_lay_0_0.1 7 (9, .lshr, 1) rfl
theorem dX12_lay_10 : decode cX12_lay 10 = .ok (.l2i, 1) := dr9 dk9_dX12_lay_0_0.1 8 (10, .l2i, 1) rfl
theorem dX12_lay_11 : decode cX12_lay 11 = .ok (.sipush 255, 3) := dr9 dk9_dX12_lay_0_0.1 9 (11, .sipush 255, 3) rfl
theorem dX12_lay_14 : decode cX12_lay 14 = .ok (.iand, 1) := dr9 dk9_dX12_lay_0_0.1 10 (14, .iand, 1) rfl
theorem dX12_lay_15 : decode cX12_lay 15 = .ok (.istore 4, 2) := dr9 dk9_dX12_lay_0_0.1 11 (15, .istore 4, 2) rfl
theorem dX12_lay_17 : decode cX12_lay 17 = .ok (.iload 4, 2) := dr9 dk9_dX12_lay_0_0.1 12 (17, .iload 4, 2) rfl
theorem dX12_lay_19 : decode cX12_lay 19 = .ok (.bipush 10, 2) := dr9 dk9_dX12_lay_0_0.1 13 (19, .bipush 10, 2) rfl
theorem dX12_lay_21 : decode cX12_lay 21 = .ok (.if_icmp .eq 17, 3) := dr9 dk9_dX12_lay_0_0.1 14 (21, .if_icmp .eq 17, 3) rfl
theorem dX12_lay_38 : decode cX12_lay 38 = .ok (.aload_n 0, 1) := dr9 dk9_dX12_lay_0_0.1 15 (38, .aload_n 0, 1) rfl
theorem dX12_lay_39 : decode cX12_lay 39 = .ok (.getfield 11, 3) := dr9 dk9_dX12_lay_0_0.1 16 (39, .getfield 11, 3) rfl
theorem dX12_lay_42 : decode cX12_lay 42 = .ok (.sipush 4000, 3) := dr9 dk9_dX12_lay_0_0.1 17 (42, .sipush 4000, 3) rfl
theorem dX12_lay_45 : decode cX12_lay 45 = .ok (.if_icmp .ge 24, 3) := dr9 dk9_dX12_lay_0_0.1 18 (45, .if_icmp .ge 24, 3) rfl
theorem dX12_lay_69 : decode cX12_lay 69 = .ok (.iinc 3 (-8), 3) := dr9 dk9_dX12_lay_0_0.1 19 (69, .iinc 3 (-8), 3) rfl
theorem dX12_lay_72 : decode cX12_lay 72 = .ok (.goto (-69), 3) := dr9 dk9_dX12_lay_0_0.1 20 (72, .goto (-69), 3) rfl
theorem dX12_lay_48 : decode cX12_lay 48 = .ok (.aload_n 0, 1) := dr9 dk9_dX12_lay_0_0.1 21 (48, .aload_n 0, 1) rfl
theorem dX12_lay_49 : decode cX12_lay 49 = .ok (.getfield 14, 3) := dr9 dk9_dX12_lay_0_0.1 22 (49, .getfield 14, 3) rfl
theorem dX12_lay_52 : decode cX12_lay 52 = .ok (.aload_n 0, 1) := dr9 dk9_dX12_lay_0_0.1 23 (52, .aload_n 0, 1) rfl
theorem dX12_lay_53 : decode cX12_lay 53 = .ok (.getfield 11, 3) := dr9 dk9_dX12_lay_0_0.2 0 (53, .getfield 11, 3) rfl
theorem dX12_lay_56 : decode cX12_lay 56 = .ok (.iload 4, 2) := dr9 dk9_dX12_lay_0_0.2 1 (56, .iload 4, 2) rfl
theorem dX12_lay_58 : decode cX12_lay 58 = .ok (.iastore, 1) := dr9 dk9_dX12_lay_0_0.2 2 (58, .iastore, 1) rfl
theorem dX12_lay_59 : decode cX12_lay 59 = .ok (.aload_n 0, 1) := dr9 dk9_dX12_lay_0_0.2 3 (59, .aload_n 0, 1) rfl
theorem dX12_lay_60 : decode cX12_lay 60 = .ok (.dup, 1) := dr9 dk9_dX12_lay_0_0.2 4 (60, .dup, 1) rfl
theorem dX12_lay_61 : decode cX12_lay 61 = .ok (.getfield 11, 3) := dr9 dk9_dX12_lay_0_0.2 5 (61, .getfield 11, 3) rfl
theorem dX12_lay_64 : decode cX12_lay 64 = .ok (.iconst 1, 1) := dr9 dk9_dX12_lay_0_0.2 6 (64, .iconst 1, 1) rfl
theorem dX12_lay_65 : decode cX12_lay 65 = .ok (.iadd, 1) := dr9 dk9_dX12_lay_0_0.2 7 (65, .iadd, 1) rfl
theorem dX12_lay_66 : decode cX12_lay 66 = .ok (.putfield 11, 3) := dr9 dk9_dX12_lay_0_0.2 8 (66, .putfield 11, 3) rfl
theorem dX12_lay_24 : decode cX12_lay 24 = .ok (.iload 4, 2) := dr9 dk9_dX12_lay_0_0.2 9 (24, .iload 4, 2) rfl
theorem dX12_lay_26 : decode cX12_lay 26 = .ok (.bipush 32, 2) := dr9 dk9_dX12_lay_0_0.2 10 (26, .bipush 32, 2) rfl
theorem dX12_lay_28 : decode cX12_lay 28 = .ok (.if_icmp .lt 41, 3) := dr9 dk9_dX12_lay_0_0.2 11 (28, .if_icmp .lt 41, 3) rfl
theorem dX12_lay_31 : decode cX12_lay 31 = .ok (.iload 4, 2) := dr9 dk9_dX12_lay_0_0.2 12 (31, .iload 4, 2) rfl
theorem dX12_lay_33 : decode cX12_lay 33 = .ok (.bipush 126, 2) := dr9 dk9_dX12_lay_0_0.2 13 (33, .bipush 126, 2) rfl
theorem dX12_lay_35 : decode cX12_lay 35 = .ok (.if_icmp .gt 34, 3) := dr9 dk9_dX12_lay_0_0.2 14 (35, .if_icmp .gt 34, 3) rfl
theorem dk9_dX12_feed_0_0 : dOk cX12_feed [(0, .aload_n 0, 1), (1, .iconst 0, 1), (2, .putfield 1, 3), (5, .aload_n 0, 1), (6, .lload_n 1, 1), (7, .invokevirtual 7, 3), (10, .aload_n 0, 1), (11, .lload_n 3, 1), (12, .invokevirtual 7, 3), (15, .aload_n 0, 1), (16, .lload 5, 2), (18, .invokevirtual 7, 3), (21, .aload_n 0, 1), (22, .getfield 11, 3), (25, .ireturn, 1)] = true := by decide +kernel
theorem dX12_feed_0 : decode cX12_feed 0 = .ok (.aload_n 0, 1) := dr9 dk9_dX12_feed_0_0 0 (0, .aload_n 0, 1) rfl
theorem dX12_feed_1 : decode cX12_feed 1 = .ok (.iconst 0, 1) := dr9 dk9_dX12_feed_0_0 1 (1, .iconst 0, 1) rfl
theorem dX12_feed_2 : decode cX12_feed 2 = .ok (.putfield 1, 3) := dr9 dk9_dX12_feed_0_0 2 (2, .putfield 1, 3) rfl
theorem dX12_feed_5 : decode cX12_feed 5 = .ok (.aload_n 0, 1) := dr9 dk9_dX12_feed_0_0 3 (5, .aload_n 0, 1) rfl
theorem dX12_feed_6 : decode cX12_feed 6 = .ok (.lload_n 1, 1) := dr9 dk9_dX12_feed_0_0 4 (6, .lload_n 1, 1) rfl
theorem dX12_feed_7 : decode cX12_feed 7 = .ok (.invokevirtual 7, 3) := dr9 dk9_dX12_feed_0_0 5 (7, .invokevirtual 7, 3) rfl
theorem dX12_feed_10 : decode cX12_feed 10 = .ok (.aload_n 0, 1) := dr9 dk9_dX12_feed_0_0 6 (10, .aload_n 0, 1) rfl
theorem dX12_feed_11 : decode cX12_feed 11 = .ok (.lload_n 3, 1) := dr9 dk9_dX12_feed_0_0 7 (11, .lload_n 3, 1) rfl
theorem dX12_feed_12 : decode cX12_feed 12 = .ok (.invokevirtual 7, 3) := dr9 dk9_dX12_feed_0_0 8 (12, .invokevirtual 7, 3) rfl
theorem dX12_feed_15 : decode cX12_feed 15 = .ok (.aload_n 0, 1) := dr9 dk9_dX12_feed_0_0 9 (15, .aload_n 0, 1) rfl
theorem dX12_feed_16 : decode cX12_feed 16 = .ok (.lload 5, 2) := dr9 dk9_dX12_feed_0_0 10 (16, .lload 5, 2) rfl
theorem dX12_feed_18 : decode cX12_feed 18 = .ok (.invokevirtual 7, 3) := dr9 dk9_dX12_feed_0_0 11 (18, .invokevirtual 7, 3) rfl
theorem dX12_feed_21 : decode cX12_feed 21 = .ok (.aload_n 0, 1) := dr9 dk9_dX12_feed_0_0 12 (21, .aload_n 0, 1) rfl
theorem dX12_feed_22 : decode cX12_feed 22 = .ok (.getfield 11, 3) := dr9 dk9_dX12_feed_0_0 13 (22, .getfield 11, 3) rfl
theorem dX12_feed_25 : decode cX12_feed 25 = .ok (.ireturn, 1) := dr9 dk9_dX12_feed_0_0 14 (25, .ireturn, 1) rfl
abbrev r_s_lay : Room := { frames := 0, cells := 0, slots := 0, locals := 0 }
abbrev q_s_lay (D : va_G) (ks : KS) (ad : Nat → Nat) (kk : Nat → ClassId) (V : Vf) (L : Lf) (p0 : Int64) (k0 : Nat) (A : Nat → Prop) : Array Value → State → Outcome → State → Prop := va_Qv (fun (u : Vf × Lf) => rgd bM u.1 ∧ agr [(0, 2)] [1] V u.1 ∧ u.2 = L ∧ ((u.1 0 2).toInt = ((apm 8 p0 k0 : Nat) : Int))) (fun u t => gq D A (mw ad kk ks.1 u.1 u.2) (mty kk) t) A
abbrev r_s_feed : Room := { frames := 1, cells := 0, slots := 0, locals := 24 }
abbrev q_s_feed (D : va_G) (ks : KS) (ad : Nat → Nat) (kk : Nat → ClassId) (V : Vf) (L : Lf) (p0 : Int64) (p1 : Int64) (p2 : Int64) (k0 : Nat) (A : Nat → Prop) : Array Value → State → Outcome → State → Prop := va_Qi (fun (r : Int32) (u : Vf × Lf) => rgd bM u.1 ∧ agr [(0, 0), (0, 2)] [1] V u.1 ∧ u.2 = L ∧ (r.toInt = ((apm 8 p2 (apm 8 p1 (apm 8 p0 k0)) : Nat) : Int)) ∧ ((u.1 0 2).toInt = ((apm 8 p2 (apm 8 p1 (apm 8 p0 k0)) : Nat) : Int))) (fun u t => gq D A (mw ad kk ks.1 u.1 u.2) (mty kk) t) A
end
section
theorem w2014 : Cond.code yX12_cutAll cX12_cutAll 7 none ∈ GW := gw_k tk9_8 179 (rfl) rfl
theorem w2011 : Cond.methodLink RX12 283 yX12_cutAll ∈ GW := gw_k tk9_8 176 (by decide +kernel) rfl
theorem w2013 : Cond.instanceMethod yX12_cutAll ∈ GW := gw_k tk9_8 178 (by decide +kernel) rfl
theorem w82 : Cond.selects RX12 yX12_cutAll yX12_cutAll ∈ GW := gw_mem 82 (by decide +kernel) rfl
theorem hdV_yX12_cutAll : yX12_cutAll.cls = RX12 ∧ yX12_cutAll.cls ≠ "java/lang/invoke/MethodHandle" ∧ yX12_cutAll.cls ≠ "java/lang/invoke/VarHandle" ∧ (parseMethodDescriptor yX12_cutAll.desc).map (fun d => d.parameters.length) = some 0 := by decide +kernel
theorem w1742 : Cond.fieldLink RX12 113 "WiringHouseModel" "methodName" "[J" ∈ GW := gw_k tk9_7 147 (by decide +kernel) rfl
theorem w1744 : Cond.fieldLink RX12 119 "WiringHouseModel" "callName" "[J" ∈ GW := gw_k tk9_7 149 (by decide +kernel) rfl
theorem w1743 : Cond.fieldLink RX12 116 "WiringHouseModel" "calls" "[I" ∈ GW := gw_k tk9_7 148 (by decide +kernel) rfl
theorem dk9_dX12_named__0_0 : dOk cX12_named_ [(0, .aload_n 0, 1), (1, .iconst 0, 1), (2, .putfield 1, 3), (5, .aload_n 0, 1), (6, .invokevirtual 283, 3), (9, .aload_n 0, 1), (10, .getfield 24, 3), (13, .iconst 0, 1), (14, .iaload, 1), (15, .iconst 1, 1), (16, .if_icmp .ne 12, 3), (28, .iconst (-1), 1), (29, .ireturn, 1), (19, .aload_n 0, 1), (20, .getfield 24, 3), (23, .iconst 1, 1), (24, .iaload, 1), (25, .ifCond .eq 5, 3), (30, .iload_n 1, 1), (31, .tableswitch 188 0 4 #[33, 64, 95, 126, 157], 33), (64, .aload_n 0, 1), (65, .aload_n 0, 1), (66, .getfield 46, 3), (69, .bipush 24, 2)] = true ∧ dOk cX12_named_ [(71, .aload_n 0, 1), (72, .getfield 286, 3), (75, .imul, 1), (76, .aload_n 0, 1), (77, .getfield 43, 3), (80, .aload_n 0, 1), (81, .getfield 286, 3), (84, .iaload, 1), (85, .aload_n 0, 1), (86, .getfield 30, 3), (89, .iconst 0, 1), (90, .laload, 1), (91, .invokevirtual 317, 3), (94, .ireturn, 1), (95, .aload_n 0, 1), (96, .aload_n 0, 1), (97, .getfield 56, 3), (100, .bipush 12, 2), (102, .aload_n 0, 1), (103, .getfield 286, 3), (106, .imul, 1), (107, .aload_n 0, 1), (108, .getfield 53, 3), (111, .aload_n 0, 1)] = true ∧ dOk cX12_named_ [(112, .getfield 286, 3), (115, .iaload, 1), (116, .aload_n 0, 1), (117, .getfield 30, 3), (120, .iconst 0, 1), (121, .laload, 1), (122, .invokevirtual 317, 3), (125, .ireturn, 1), (126, .aload_n 0, 1), (127, .aload_n 0, 1), (128, .getfield 65, 3), (131, .bipush 24, 2), (133, .aload_n 0, 1), (134, .getfield 286, 3), (137, .imul, 1), (138, .aload_n 0, 1), (139, .getfield 62, 3), (142, .aload_n 0, 1), (143, .getfield 286, 3), (146, .iaload, 1), (147, .aload_n 0, 1), (148, .getfield 30, 3), (151, .iconst 0, 1), (152, .laload, 1)] = true ∧ dOk cX12_named_ [(153, .invokevirtual 317, 3), (156, .ireturn, 1), (157, .aload_n 0, 1), (158, .aload_n 0, 1), (159, .getfield 113, 3), (162, .bipush 20, 2), (164, .aload_n 0, 1), (165, .getfield 286, 3), (168, .imul, 1), (169, .aload_n 0, 1), (170, .getfield 110, 3), (173, .aload_n 0, 1), (174, .getfield 286, 3), (177, .iaload, 1), (178, .aload_n 0, 1), (179, .getfield 30, 3), (182, .iconst 0, 1), (183, .laload, 1), (184, .invokevirtual 317, 3), (187, .ireturn, 1), (188, .aload_n 0, 1), (189, .aload_n 0, 1), (190, .getfield 119, 3), (193, .bipush 20, 2)] = true ∧ dOk cX12_named_ [(195, .aload_n 0, 1), (196, .getfield 286, 3), (199, .imul, 1), (200, .aload_n 0, 1), (201, .getfield 116, 3), (204, .aload_n 0, 1), (205, .getfield 286, 3), (208, .iaload, 1), (209, .aload_n 0, 1), (210, .getfield 30, 3), (213, .iconst 0, 1), (214, .laload, 1), (215, .invokevirtual 317, 3), (218, .ireturn, 1), (219, .iconst (-1), 1), (220, .ireturn, 1)] = true := by decide +kernel
theorem dX12_named__0 : decode cX12_named_ 0 = .ok (.aload_n 0, 1) := dr9 dk9_dX12_named__0_0.1 0 (0, .aload_n 0, 1) rfl
theorem dX12_named__1 : decode cX12_named_ 1 = .ok (.iconst 0, 1) := dr9 dk9_dX12_named__0_0.1 1 (1, .iconst 0, 1) rfl
theorem dX12_named__2 : decode cX12_named_ 2 = .ok (.putfield 1, 3) := dr9 dk9_dX12_named__0_0.1 2 (2, .putfield 1, 3) rfl
theorem dX12_named__5 : decode cX12_named_ 5 = .ok (.aload_n 0, 1) := dr9 dk9_dX12_named__0_0.1 3 (5, .aload_n 0, 1) rfl
theorem dX12_named__6 : decode cX12_named_ 6 = .ok (.invokevirtual 283, 3) := dr9 dk9_dX12_named__0_0.1 4 (6, .invokevirtual 283, 3) rfl
theorem dX12_named__9 : decode cX12_named_ 9 = .ok (.aload_n 0, 1) := dr9 dk9_dX12_named__0_0.1 5 (9, .aload_n 0, 1) rfl
theorem dX12_named__10 : decode cX12_named_ 10 = .ok (.getfield 24, 3) := dr9 dk9_dX12_named__0_0.1 6 (10, .getfield 24, 3) rfl
theorem dX12_named__13 : decode cX12_named_ 13 = .ok (.iconst 0, 1) := dr9 dk9_dX12_named__0_0.1 7 (13, .iconst 0, 1) rfl
theorem dX12_named__14 : decode cX12_named_ 14 = .ok (.iaload, 1) := dr9 dk9_dX12_named__0_0.1 8 (14, .iaload, 1) rfl
theorem dX12_named__15 : decode cX12_named_ 15 = .ok (.iconst 1, 1) := dr9 dk9_dX12_named__0_0.1 9 (15, .iconst 1, 1) rfl
theorem dX12_named__16 : decode cX12_named_ 16 = .ok (.if_icmp .ne 12, 3) := dr9 dk9_dX12_named__0_0.1 10 (16, .if_icmp .ne 12, 3) rfl
theorem dX12_named__28 : decode cX12_named_ 28 = .ok (.iconst (-1), 1) := dr9 dk9_dX12_named__0_0.1 11 (28, .iconst (-1), 1) rfl
theorem dX12_named__29 : decode cX12_named_ 29 = .ok (.ireturn, 1) := dr9 dk9_dX12_named__0_0.1 12 (29, .ireturn, 1) rfl
theorem dX12_named__19 : decode cX12_named_ 19 = .ok (.aload_n 0, 1) := dr9 dk9_dX12_named__0_0.1 13 (19, .aload_n 0, 1) rfl
theorem dX12_named__20 : decode cX12_named_ 20 = .ok (.getfield 24, 3) := dr9 dk9_dX12_named__0_0.1 14 (20, .getfield 24, 3) rfl
theorem dX12_named__23 : decode cX12_named_ 23 = .ok (.iconst 1, 1) := dr9 dk9_dX12_named__0_0.1 15 (23, .iconst 1, 1) rfl
theorem dX12_named__24 : decode cX12_named_ 24 = .ok (.iaload, 1) := dr9 dk9_dX12_named__0_0.1 16 (24, .iaload, 1) rfl
theorem dX12_named__25 : decode cX12_named_ 25 = .ok (.ifCond .eq 5, 3) := dr9 dk9_dX12_named__0_0.1 17 (25, .ifCond .eq 5, 3) rfl
theorem dX12_named__30 : decode cX12_named_ 30 = .ok (.iload_n 1, 1) := dr9 dk9_dX12_named__0_0.1 18 (30, .iload_n 1, 1) rfl
theorem dX12_named__31 : decode cX12_named_ 31 = .ok (.tableswitch 188 0 4 #[33, 64, 95, 126, 157], 33) := dr9 dk9_dX12_named__0_0.1 19 (31, .tableswitch 188 0 4 #[33, 64, 95, 126, 157], 33) rfl
theorem dX12_named__64 : decode cX12_named_ 64 = .ok (.aload_n 0, 1) := dr9 dk9_dX12_named__0_0.1 20 (64, .aload_n 0, 1) rfl
theorem dX12_named__65 : decode cX12_named_ 65 = .ok (.aload_n 0, 1) := dr9 dk9_dX12_named__0_0.1 21 (65, .aload_n 0, 1) rfl
theorem dX12_named__66 : decode cX12_named_ 66 = .ok (.getfield 46, 3) := dr9 dk9_dX12_named__0_0.1 22 (66, .getfield 46, 3) rfl
theorem dX12_named__69 : decode cX12_named_ 69 = .ok (.bipush 24, 2) := dr9 dk9_dX12_named__0_0.1 23 (69, .bipush 24, 2) rfl
theorem dX12_named__71 : decode cX12_named_ 71 = .ok (.aload_n 0, 1) := dr9 dk9_dX12_named__0_0.2.1 0 (71, .aload_n 0, 1) rfl
theorem dX12_named__72 : decode cX12_named_ 72 = .ok (.getfield 286, 3) := dr9 dk9_dX12_named__0_0.2.1 1 (72, .getfield 286, 3) rfl
theorem dX12_named__75 : decode cX12_named_ 75 = .ok (.imul, 1) := dr9 dk9_dX12_named__0_0.2.1 2 (75, .imul, 1) rfl
theorem dX12_named__76 : decode cX12_named_ 76 = .ok (.aload_n 0, 1) := dr9 dk9_dX12_named__0_0.2.1 3 (76, .aload_n 0, 1) rfl
theorem dX12_named__77 : decode cX12_named_ 77 = .ok (.getfield 43, 3) := dr9 dk9_dX12_named__0_0.2.1 4 (77, .getfield 43, 3) rfl
theorem dX12_named__80 : decode cX12_named_ 80 = .ok (.aload_n 0, 1) := dr9 dk9_dX12_named__0_0.2.1 5 (80, .aload_n 0, 1) rfl
theorem dX12_named__81 : decode cX12_named_ 81 = .ok (.getfield 286, 3) := dr9 dk9_dX12_named__0_0.2.1 6 (81, .getfield 286, 3) rfl
theorem dX12_named__84 : decode cX12_named_ 84 = .ok (.iaload, 1) := dr9 dk9_dX12_named__0_0.2.1 7 (84, .iaload, 1) rfl
theorem dX12_named__85 : decode cX12_named_ 85 = .ok (.aload_n 0, 1) := dr9 dk9_dX12_named__0_0.2.1 8 (85, .aload_n 0, 1) rfl
theorem dX12_named__86 : decode cX12_named_ 86 = .ok (.getfield 30, 3) := dr9 dk9_dX12_named__0_0.2.1 9 (86, .getfield 30, 3) rfl
theorem dX12_named__89 : decode cX12_named_ 89 = .ok (.iconst 0, 1) := dr9 dk9_dX12_named__0_0.2.1 10 (89, .iconst 0, 1) rfl
theorem dX12_named__90 : decode cX12_named_ 90 = .ok (.laload, 1) := dr9 dk9_dX12_named__0_0.2.1 11 (90, .laload, 1) rfl
theorem dX12_named__91 : decode cX12_named_ 91 = .ok (.invokevirtual 317, 3) := dr9 dk9_dX12_named__0_0.2.1 12 (91, .invokevirtual 317, 3) rfl
theorem dX12_named__94 : decode cX12_named_ 94 = .ok (.ireturn, 1) := dr9 dk9_dX12_named__0_0.2.1 13 (94, .ireturn, 1) rfl
theorem dX12_named__95 : decode cX12_named_ 95 = .ok (.aload_n 0, 1) := dr9 dk9_dX12_named__0_0.2.1 14 (95, .aload_n 0, 1) rfl
theorem dX12_named__96 : decode cX12_named_ 96 = .ok (.aload_n 0, 1) := dr9 dk9_dX12_named__0_0.2.1 15 (96, .aload_n 0, 1) rfl
theorem dX12_named__97 : decode cX12_named_ 97 = .ok (.getfield 56, 3) := dr9 dk9_dX12_named__0_0.2.1 16 (97, .getfield 56, 3) rfl
theorem dX12_named__100 : decode cX12_named_ 100 = .ok (.bipush 12, 2) := dr9 dk9_dX12_named__0_0.2.1 17 (100, .bipush 12, 2) rfl
theorem dX12_named__102 : decode cX12_named_ 102 = .ok (.aload_n 0, 1) := dr9 dk9_dX12_named__0_0.2.1 18 (102, .aload_n 0, 1) rfl
theorem dX12_named__103 : decode cX12_named_ 103 = .ok (.getfield 286, 3) := dr9 dk9_dX12_named__0_0.2.1 19 (103, .getfield 286, 3) rfl
theorem dX12_named__106 : decode cX12_named_ 106 = .ok (.imul, 1) := dr9 dk9_dX12_named__0_0.2.1 20 (106, .imul, 1) rfl
theorem dX12_named__107 : decode cX12_named_ 107 = .ok (.aload_n 0, 1) := dr9 dk9_dX12_named__0_0.2.1 21 (107, .aload_n 0, 1) rfl
theorem dX12_named__108 : decode cX12_named_ 108 = .ok (.getfield 53, 3) := dr9 dk9_dX12_named__0_0.2.1 22 (108, .getfield 53, 3) rfl
theorem dX12_named__111 : decode cX12_named_ 111 = .ok (.aload_n 0, 1) := dr9 dk9_dX12_named__0_0.2.1 23 (111, .aload_n 0, 1) rfl
theorem dX12_named__112 : decode cX12_named_ 112 = .ok (.getfield 286, 3) := dr9 dk9_dX12_named__0_0.2.2.1 0 (112, .getfield 286, 3) rfl
theorem dX12_named__115 : decode cX12_named_ 115 = .ok (.iaload, 1) := dr9 dk9_dX12_named__0_0.2.2.1 1 (115, .iaload, 1) rfl
theorem dX12_named__116 : decode cX12_named_ 116 = .ok (.aload_n 0, 1) := dr9 dk9_dX12_named__0_0.2.2.1 2 (116, .aload_n 0, 1) rfl
theorem dX12_named__117 : decode cX12_named_ 117 = .ok (.getfield 30, 3) := dr9 dk9_dX12_named__0_0.2.2.1 3 (117, .getfield 30, 3) rfl
theorem dX12_named__120 : decode cX12_named_ 120 = .ok (.iconst 0, 1) := dr9 dk9_dX12_named__0_0.2.2.1 4 (120, .iconst 0, 1) rfl
theorem dX12_named__121 : decode cX12_named_ 121 = .ok (.laload, 1) := dr9 dk9_dX12_named__0_0.2.2.1 5 (121, .laload, 1) rfl
theorem dX12_named__122 : decode cX12_named_ 122 = .ok (.invokevirtual 317, 3) := dr9 dk9_dX12_named__0_0.2.2.1 6 (122, .invokevirtual 317, 3) rfl
theorem dX12_named__125 : decode cX12_named_ 125 = .ok (.ireturn, 1) := dr9 dk9_dX12_named__0_0.2.2.1 7 (125, .ireturn, 1) rfl
theorem dX12_named__126 : decode cX12_named_ 126 = .ok (.aload_n 0, 1) := dr9 dk9_dX12_named__0_0.2.2.1 8 (126, .aload_n 0, 1) rfl
theorem dX12_named__127 : decode cX12_named_ 127 = .ok (.aload_n 0, 1) := dr9 dk9_dX12_named__0_0.2.2.1 9 (127, .aload_n 0, 1) rfl
theorem dX12_named__128 : decode cX12_named_ 128 = .ok (.getfield 65, 3) := dr9 dk9_dX12_named__0_0.2.2.1 10 (128, .getfield 65, 3) rfl
theorem dX12_named__131 : decode cX12_named_ 131 = .ok (.bipush 24, 2) := dr9 dk9_dX12_named__0_0.2.2.1 11 (131, .bipush 24, 2) rfl
theorem dX12_named__133 : decode cX12_named_ 133 = .ok (.aload_n 0, 1) := dr9 dk9_dX12_named__0_0.2.2.1 12 (133, .aload_n 0, 1) rfl
theorem dX12_named__134 : decode cX12_named_ 134 = .ok (.getfield 286, 3) := dr9 dk9_dX12_named__0_0.2.2.1 13 (134, .getfield 286, 3) rfl
theorem dX12_named__137 : decode cX12_named_ 137 = .ok (.imul, 1) := dr9 dk9_dX12_named__0_0.2.2.1 14 (137, .imul, 1) rfl
theorem dX12_named__138 : decode cX12_named_ 138 = .ok (.aload_n 0, 1) := dr9 dk9_dX12_named__0_0.2.2.1 15 (138, .aload_n 0, 1) rfl
theorem dX12_named__139 : decode cX12_named_ 139 = .ok (.getfield 62, 3) := dr9 dk9_dX12_named__0_0.2.2.1 16 (139, .getfield 62, 3) rfl
theorem dX12_named__142 : decode cX12_named_ 142 = .ok (.aload_n 0, 1) := dr9 dk9_dX12_named__0_0.2.2.1 17 (142, .aload_n 0, 1) rfl
theorem dX12_named__143 : decode cX12_named_ 143 = .ok (.getfield 286, 3) := dr9 dk9_dX12_named__0_0.2.2.1 18 (143, .getfield 286, 3) rfl
theorem dX12_named__146 : decode cX12_named_ 146 = .ok (.iaload, 1) := dr9 dk9_dX12_named__0_0.2.2.1 19 (146, .iaload, 1) rfl
theorem dX12_named__147 : decode cX12_named_ 147 = .ok (.aload_n 0, 1) := dr9 dk9_dX12_named__0_0.2.2.1 20 (147, .aload_n 0, 1) rfl
theorem dX12_named__148 : decode cX12_named_ 148 = .ok (.getfield 30, 3) := dr9 dk9_dX12_named__0_0.2.2.1 21 (148, .getfield 30, 3) rfl
theorem dX12_named__151 : decode cX12_named_ 151 = .ok (.iconst 0, 1) := dr9 dk9_dX12_named__0_0.2.2.1 22 (151, .iconst 0, 1) rfl
theorem dX12_named__152 : decode cX12_named_ 152 = .ok (.laload, 1) := dr9 dk9_dX12_named__0_0.2.2.1 23 (152, .laload, 1) rfl
theorem dX12_named__153 : decode cX12_named_ 153 = .ok (.invokevirtual 317, 3) := dr9 dk9_dX12_named__0_0.2.2.2.1 0 (153, .invokevirtual 317, 3) rfl
theorem dX12_named__156 : decode cX12_named_ 156 = .ok (.ireturn, 1) := dr9 dk9_dX12_named__0_0.2.2.2.1 1 (156, .ireturn, 1) rfl
theorem dX12_named__157 : decode cX12_named_ 157 = .ok (.aload_n 0, 1) := dr9 dk9_dX12_named__0_0.2.2.2.1 2 (157, .aload_n 0, 1) rfl
theorem dX12_named__158 : decode cX12_named_ 158 = .ok (.aload_n 0, 1) := dr9 dk9_dX12_named__0_0.2.2.2.1 3 (158, .aload_n 0, 1) rfl
theorem dX12_named__159 : decode cX12_named_ 159 = .ok (.getfield 113, 3) := dr9 dk9_dX12_named__0_0.2.2.2.1 4 (159, .getfield 113, 3) rfl
theorem dX12_named__162 : decode cX12_named_ 162 = .ok (.bipush 20, 2) := dr9 dk9_dX12_named__0_0.2.2.2.1 5 (162, .bipush 20, 2) rfl
theorem dX12_named__164 : decode cX12_named_ 164 = .ok (.aload_n 0, 1) := dr9 dk9_dX12_named__0_0.2.2.2.1 6 (164, .aload_n 0, 1) rfl
theorem dX12_named__165 : decode cX12_named_ 165 = .ok (.getfield 286, 3) := dr9 dk9_dX12_named__0_0.2.2.2.1 7 (165, .getfield 286, 3) rfl
theorem dX12_named__168 : decode cX12_named_ 168 = .ok (.imul, 1) := dr9 dk9_dX12_named__0_0.2.2.2.1 8 (168, .imul, 1) rfl
theorem dX12_named__169 : decode cX12_named_ 169 = .ok (.aload_n 0, 1) := dr9 dk9_dX12_named__0_0.2.2.2.1 9 (169, .aload_n 0, 1) rfl
theorem dX12_named__170 : decode cX12_named_ 170 = .ok (.getfield 110, 3) := dr9 dk9_dX12_named__0_0.2.2.2.1 10 (170, .getfield 110, 3) rfl
theorem dX12_named__173 : decode cX12_named_ 173 = .ok (.aload_n 0, 1) := dr9 dk9_dX12_named__0_0.2.2.2.1 11 (173, .aload_n 0, 1) rfl
theorem dX12_named__174 : decode cX12_named_ 174 = .ok (.getfield 286, 3) := dr9 dk9_dX12_named__0_0.2.2.2.1 12 (174, .getfield 286, 3) rfl
theorem dX12_named__177 : decode cX12_named_ 177 = .ok (.iaload, 1) := dr9 dk9_dX12_named__0_0.2.2.2.1 13 (177, .iaload, 1) rfl
theorem dX12_named__178 : decode cX12_named_ 178 = .ok (.aload_n 0, 1) := dr9 dk9_dX12_named__0_0.2.2.2.1 14 (178, .aload_n 0, 1) rfl
theorem dX12_named__179 : decode cX12_named_ 179 = .ok (.getfield 30, 3) := dr9 dk9_dX12_named__0_0.2.2.2.1 15 (179, .getfield 30, 3) rfl
theorem dX12_named__182 : decode cX12_named_ 182 = .ok (.iconst 0, 1) := dr9 dk9_dX12_named__0_0.2.2.2.1 16 (182, .iconst 0, 1) rfl
theorem dX12_named__183 : decode cX12_named_ 183 = .ok (.laload, 1) := dr9 dk9_dX12_named__0_0.2.2.2.1 17 (183, .laload, 1) rfl
theorem dX12_named__184 : decode cX12_named_ 184 = .ok (.invokevirtual 317, 3) := dr9 dk9_dX12_named__0_0.2.2.2.1 18 (184, .invokevirtual 317, 3) rfl
theorem dX12_named__187 : decode cX12_named_ 187 = .ok (.ireturn, 1) := dr9 dk9_dX12_named__0_0.2.2.2.1 19 (187, .ireturn, 1) rfl
theorem dX12_named__188 : decode cX12_named_ 188 = .ok (.aload_n 0, 1) := dr9 dk9_dX12_named__0_0.2.2.2.1 20 (188, .aload_n 0, 1) rfl
theorem dX12_named__189 : decode cX12_named_ 189 = .ok (.aload_n 0, 1) := dr9 dk9_dX12_named__0_0.2.2.2.1 21 (189, .aload_n 0, 1) rfl
theorem dX12_named__190 : decode cX12_named_ 190 = .ok (.getfield 119, 3) := dr9 dk9_dX12_named__0_0.2.2.2.1 22 (190, .getfield 119, 3) rfl
theorem dX12_named__193 : decode cX12_named_ 193 = .ok (.bipush 20, 2) := dr9 dk9_dX12_named__0_0.2.2.2.1 23 (193, .bipush 20, 2) rfl
theorem dX12_named__195 : decode cX12_named_ 195 = .ok (.aload_n 0, 1) := dr9 dk9_dX12_named__0_0.2.2.2.2 0 (195, .aload_n 0, 1) rfl
theorem dX12_named__196 : decode cX12_named_ 196 = .ok (.getfield 286, 3) := dr9 dk9_dX12_named__0_0.2.2.2.2 1 (196, .getfield 286, 3) rfl
theorem dX12_named__199 : decode cX12_named_ 199 = .ok (.imul, 1) := dr9 dk9_dX12_named__0_0.2.2.2.2 2 (199, .imul, 1) rfl
theorem dX12_named__200 : decode cX12_named_ 200 = .ok (.aload_n 0, 1) := dr9 dk9_dX12_named__0_0.2.2.2.2 3 (200, .aload_n 0, 1) rfl
theorem dX12_named__201 : decode cX12_named_ 201 = .ok (.getfield 116, 3) := dr9 dk9_dX12_named__0_0.2.2.2.2 4 (201, .getfield 116, 3) rfl
theorem dX12_named__204 : decode cX12_named_ 204 = .ok (.aload_n 0, 1) := dr9 dk9_dX12_named__0_0.2.2.2.2 5 (204, .aload_n 0, 1) rfl
theorem dX12_named__205 : decode cX12_named_ 205 = .ok (.getfield 286, 3) := dr9 dk9_dX12_named__0_0.2.2.2.2 6 (205, .getfield 286, 3) rfl
theorem dX12_named__208 : decode cX12_named_ 208 = .ok (.iaload, 1) := dr9 dk9_dX12_named__0_0.2.2.2.2 7 (208, .iaload, 1) rfl
theorem dX12_named__209 : decode cX12_named_ 209 = .ok (.aload_n 0, 1) := dr9 dk9_dX12_named__0_0.2.2.2.2 8 (209, .aload_n 0, 1) rfl
theorem dX12_named__210 : decode cX12_named_ 210 = .ok (.getfield 30, 3) := dr9 dk9_dX12_named__0_0.2.2.2.2 9 (210, .getfield 30, 3) rfl
theorem dX12_named__213 : decode cX12_named_ 213 = .ok (.iconst 0, 1) := dr9 dk9_dX12_named__0_0.2.2.2.2 10 (213, .iconst 0, 1) rfl
theorem dX12_named__214 : decode cX12_named_ 214 = .ok (.laload, 1) := dr9 dk9_dX12_named__0_0.2.2.2.2 11 (214, .laload, 1) rfl
theorem dX12_named__215 : decode cX12_named_ 215 = .ok (.invokevirtual 317, 3) := dr9 dk9_dX12_named__0_0.2.2.2.2 12 (215, .invokevirtual 317, 3) rfl
theorem dX12_named__218 : decode cX12_named_ 218 = .ok (.ireturn, 1) := dr9 dk9_dX12_named__0_0.2.2.2.2 13 (218, .ireturn, 1) rfl
theorem dX12_named__219 : decode cX12_named_ 219 = .ok (.iconst (-1), 1) := dr9 dk9_dX12_named__0_0.2.2.2.2 14 (219, .iconst (-1), 1) rfl
theorem dX12_named__220 : decode cX12_named_ 220 = .ok (.ireturn, 1) := dr9 dk9_dX12_named__0_0.2.2.2.2 15 (220, .ireturn, 1) rfl
abbrev r_s_namedI : Room := { frames := 3, cells := 0, slots := 0, locals := 66 }
abbrev q_s_namedI (D : va_G) (ks : KS) (ad : Nat → Nat) (kk : Nat → ClassId) (V : Vf) (L : Lf) (p0 : Int32) (A : Nat → Prop) : Array Value → State → Outcome → State → Prop := va_Qi (fun (r : Int32) (u : Vf × Lf) => rgd bM u.1 ∧ agr [(0, 0), (0, 2), (0, 3), (0, 7), (0, 8)] [4, 5, 6] V u.1 ∧ agL [4, 5, 6] L u.2 ∧ ((u.1 0 2).toInt = 0)) (fun u t => gq D A (mw ad kk ks.1 u.1 u.2) (mty kk) t) A
set_option maxHeartbeats 4000000 in
set_option maxRecDepth 100000 in
theorem s_namedI (l : Launch) (D : va_G) (ks : KS) (sz : Nat) (ad : Nat → Nat) (kk : Nat → ClassId) (V : Vf) (L : Lf) (p0 : Int32) (hMV : rgd bM V)  : Met l yX12_named_ (Cond.code yX12_named_ cX12_named_ 2 (some .int) :: GW) r_s_namedI (va_Pc [.ref (ad 0), .int p0] (gp D ks (mw ad kk ks.1 V L) (mty kk) sz)) (q_s_namedI D ks ad kk V L p0 (va_A (mw ad kk ks.1 V L) sz)) 0 0 (va_A (mw ad kk ks.1 V L) sz) := by
  refine g_met (q_s_namedI D ks ad kk V L p0) (by decide) (Nat.le_of_ble_eq_true rfl) ?_
  intro p e s m below meth c A ls H locs hx hb hr hml hown hg hlocks hin hnw hgk hP hK hD hS hA hl
  replace hown : s.vm.findClass RX12 = some m.cls := hown
  replace hl : lv_has ls 2 [(0, .ref (ad 0)), (1, .int p0)] := hl
  replace hP : va_P D vwCl (mw ad kk ks.1 V L) H := hP
  replace hD : va_D A (mw ad kk ks.1 V L) := hD
  replace hK : va_K D vwCl (mty kk) s := hK
  have agV : agr [(0, 0), (0, 2), (0, 3), (0, 7), (0, 8)] [4, 5, 6] V V := agr.rf
  have alL : agL [4, 5, 6] L L := agL.rf
  refine lv_aload_n hx hb dX12_named__0 rfl (lv_at hl 0 rfl) ?_
  refine lv_iconst (v := 0) hx hb dX12_named__1 (by decide) ?_
  refine va_put (D := D) (ci := 12) (v := .int 0) (ty := tyX12 0) (C := RX12) (T := TX12) (N := 100) hx hb hg inX12 tyX12 tyX12_ok nmX12 hown hK hP hD hS 0 rfl rfl 0 (by decide) (hg _ w1706) (fun _ h9 => h9) rfl (tyX12_ok 0 (by decide)) rfl rfl (Nat.le_of_ble_eq_true rfl) dX12_named__2 (fun H locs hP hD hS => ?_)
  obtain ⟨V1, hV1⟩ : ∃ z, z = up2 V 0 0 0 := ⟨_, rfl⟩
  have hP : va_P D vwCl (mw ad kk ks.1 V1 L) H := by rw [hV1]; exact hP
  have hD : va_D A (mw ad kk ks.1 V1 L) := by rw [hV1]; exact hD
  have hMV1 : rgd bM V1 := hMV.put hV1 (i_full _)
  have agV1 : agr [(0, 0), (0, 2), (0, 3), (0, 7), (0, 8)] [4, 5, 6] V V1 := agV.up hV1 rfl
  refine lv_aload_n hx hb dX12_named__5 rfl (lv_at hl 0 rfl) ?_
  refine gA_void (gA_runV (As := []) (rest := []) (ci := 12) (q0 := 0) hx hb hml hown hg hP hD hK hS hA hnw hgk (s_cutAll l D ks H.size ad kk V1 L  hMV1 ) w2011 w2013 w82 w172 w2014 rfl rfl hdV_yX12_cutAll ⟨Nat.le_of_ble_eq_true rfl, Nat.le_of_ble_eq_true rfl⟩ rfl hl.1 rfl (Nat.le_of_ble_eq_true rfl) dX12_named__6 ⟨Nat.le_of_ble_eq_true rfl, Nat.le_of_ble_eq_true rfl⟩) hP hD hK hS hA (fun u3 H locs w4 hP hD hK hS => ?_)
  obtain ⟨V9, L10⟩ := u3
  obtain ⟨hMV9, ajV9, axL10, t5, t6, t7, t8⟩ := w4
  have alL10 : agL [4, 5, 6] L L10 := agL.tr alL axL10 (by decide)
  replace hP : va_P D vwCl (mw ad kk ks.1 V9 L10) H := hP
  replace hD : va_D A (mw ad kk ks.1 V9 L10) := hD
  replace hMV9 : rgd bM V9 := hMV9
  replace ajV9 : agr [(0, 2), (0, 3), (0, 7), (0, 8)] [4, 5, 6] V1 V9 := ajV9
  have agV9 : agr [(0, 0), (0, 2), (0, 3), (0, 7), (0, 8)] [4, 5, 6] V V9 := agV1.tr ajV9 (by decide) (by decide)
  replace t5 : (V9 0 8).toInt = 0 := t5
  replace t6 : (V9 0 7).toInt = 0 := t6
  replace t7 : (V9 0 2).toInt = 0 := t7
  replace t8 : ∃ n : Nat, n ≤ 4000 ∧ (V9 4 n).toInt = 0 := t8
  have r11 : 0 ≤ ((V9 0 8)).toInt ∧ ((V9 0 8)).toInt ≤ 70000 := hMV9 0 8
  have r12 : 0 ≤ ((V9 0 2)).toInt ∧ ((V9 0 2)).toInt ≤ 4000 := hMV9 0 2
  refine lv_aload_n hx hb dX12_named__9 rfl (lv_at hl 0 rfl) ?_
  refine va_get (D := D) (ci := 12) (v := .ref (ad 4)) (C := RX12) (T := TX12) (N := 100) hx hb hg inX12 hown hK hP 0 rfl rfl 4 (by decide) (hg _ w1710) (fun _ h9 => h9) rfl dX12_named__10 ?_
  refine lv_iconst (v := 0) hx hb dX12_named__13 (by decide) ?_
  refine va_iald (D := D) (i := 0) hx hb hK hP 2 1 rfl rfl (i_in (a := 0) (by decide) (by decide)) dX12_named__14 ?_
  refine g_top (v := V9 4 0) (congrArg (V9 4) (by decide)) ?_
  refine lv_iconst (v := 1) hx hb dX12_named__15 (by decide) ?_
  refine lv_icmp_ne (tgt := 28) hx hb dX12_named__16 (by decide) (fun c13 => ?_) (fun c13 => ?_)
  · skip
    have f14 : ((V9 4 0)).toInt ≠ 1 := b_neq rfl (by decide) c13
    refine lv_iconst (v := (-1)) hx hb dX12_named__28 (by decide) ?_
    exact W.iret (v := (-1)) hx hb hr (fun t ht hW => ⟨⟨(-1), (V9, L10), rfl, ⟨hMV9, agV9, alL10, (show (V9 0 2).toInt = 0 from by (first | exact om_b66ba74381d5 t7 | omega))⟩, by rw [ht]; exact hP, va_K.moved hW.alike hK, hD⟩, hS.F ht⟩) hS.2.2 dX12_named__29
  · skip
    have f15 : ((V9 4 0)).toInt = 1 := b_eq rfl (by decide) c13
    refine lv_aload_n hx hb dX12_named__19 rfl (lv_at hl 0 rfl) ?_
    refine va_get (D := D) (ci := 12) (v := .ref (ad 4)) (C := RX12) (T := TX12) (N := 100) hx hb hg inX12 hown hK hP 0 rfl rfl 4 (by decide) (hg _ w1710) (fun _ h9 => h9) rfl dX12_named__20 ?_
    refine lv_iconst (v := 1) hx hb dX12_named__23 (by decide) ?_
    refine va_iald (D := D) (i := 1) hx hb hK hP 2 1 rfl rfl (i_in (a := 1) (by decide) (by decide)) dX12_named__24 ?_
    refine g_top (v := V9 4 1) (congrArg (V9 4) (by decide)) ?_
    refine lv_if_eq (tgt := 30) hx hb dX12_named__25 (by decide) (fun c16 => ?_) (fun c16 => ?_)
    · skip
      have f17 : ((V9 4 1)).toInt = 0 := b_eq rfl (by decide) c16
      refine lv_iload_n hx hb dX12_named__30 rfl (lv_at hl 1 rfl) ?_
      by_cases q18 : p0 = 0
      · refine g_top (v := 0) q18 ?_
        have fq18 : p0.toInt = 0 := b_eq rfl (by decide) q18
        refine lv_tableIn (x := 0) (off := 33) (tgt := 64) hx hb dX12_named__31 (by decide) (by decide) (by decide) (by decide) ?_
        refine lv_aload_n hx hb dX12_named__64 rfl (lv_at hl 0 rfl) ?_
        refine lv_aload_n hx hb dX12_named__65 rfl (lv_at hl 0 rfl) ?_
        refine va_get (D := D) (ci := 12) (v := .ref (ad 14)) (C := RX12) (T := TX12) (N := 100) hx hb hg inX12 hown hK hP 0 rfl rfl 14 (by decide) (hg _ w1720) (fun _ h9 => h9) rfl dX12_named__66 ?_
        refine lv_bipush (v := 24) hx hb dX12_named__69 (by decide) ?_
        refine lv_aload_n hx hb dX12_named__71 rfl (lv_at hl 0 rfl) ?_
        refine va_get (D := D) (ci := 12) (v := .int (V9 0 11)) (C := RX12) (T := TX12) (N := 100) hx hb hg inX12 hown hK hP 0 rfl rfl 11 (by decide) (hg _ w1717) (fun _ h9 => h9) rfl dX12_named__72 ?_
        refine g_top (v := (V 0 11)) ((ajV9 0 11 rfl).trans (up2_k hV1 (by decide))) ?_
        have r19 : 0 ≤ ((V 0 11)).toInt ∧ ((V 0 11)).toInt ≤ 1 := hMV 0 11
        refine lv_imul hx hb dX12_named__75 ?_
        refine lv_topi (fun z20 ez20 => ?_)
        have hz20 : z20.toInt = 24 * ((V 0 11)).toInt := i_mul ez20 (by decide) rfl (by (first | exact om_3f8aba7b6ce1 r19.1 r19.2 | omega))
        refine lv_aload_n hx hb dX12_named__76 rfl (lv_at hl 0 rfl) ?_
        refine va_get (D := D) (ci := 12) (v := .ref (ad 13)) (C := RX12) (T := TX12) (N := 100) hx hb hg inX12 hown hK hP 0 rfl rfl 13 (by decide) (hg _ w1719) (fun _ h9 => h9) rfl dX12_named__77 ?_
        refine lv_aload_n hx hb dX12_named__80 rfl (lv_at hl 0 rfl) ?_
        refine va_get (D := D) (ci := 12) (v := .int (V9 0 11)) (C := RX12) (T := TX12) (N := 100) hx hb hg inX12 hown hK hP 0 rfl rfl 11 (by decide) (hg _ w1717) (fun _ h9 => h9) rfl dX12_named__81 ?_
        refine g_top (v := (V 0 11)) ((ajV9 0 11 rfl).trans (up2_k hV1 (by decide))) ?_
        refine va_iald (D := D) (i := (V 0 11)) hx hb hK hP 6 5 rfl rfl (i_in (a := ((V 0 11)).toInt) rfl (by (first | exact om_8367a84723c7 r19.1 r19.2 | omega))) dX12_named__84 ?_
        refine g_top (v := (V 13 (Int32.toNatClampNeg (V 0 11)))) ((ajV9 13 (Int32.toNatClampNeg (V 0 11)) rfl).trans (up2_o hV1 (by decide))) ?_
        have r21 : 0 ≤ ((V 13 (Int32.toNatClampNeg (V 0 11)))).toInt ∧ ((V 13 (Int32.toNatClampNeg (V 0 11)))).toInt ≤ 24 := hMV 13 (Int32.toNatClampNeg (V 0 11))
        refine lv_aload_n hx hb dX12_named__85 rfl (lv_at hl 0 rfl) ?_
        refine va_get (D := D) (ci := 12) (v := .ref (ad 6)) (C := RX12) (T := TX12) (N := 100) hx hb hg inX12 hown hK hP 0 rfl rfl 6 (by decide) (hg _ w1712) (fun _ h9 => h9) rfl dX12_named__86 ?_
        refine lv_iconst (v := 0) hx hb dX12_named__89 (by decide) ?_
        refine va_lald (D := D) (i := 0) hx hb hK hP 4 3 rfl rfl (i_in (a := 0) (by decide) (by decide)) dX12_named__90 ?_
        refine lv_topl (fun w22 ew22 => ?_)
        refine gA_int (gA_runV (As := [.ref (ad 14), .int z20, .int (V 13 (Int32.toNatClampNeg (V 0 11))), .long w22]) (rest := []) (ci := 12) (q0 := 0) hx hb hml hown hg hP hD hK hS hA hnw hgk (s_find_typeName l D ks H.size ad kk V9 L10 z20 (V 13 (Int32.toNatClampNeg (V 0 11))) w22 hMV9 (by (first | exact om_c44c09625d4d r19.1 r19.2 hz20 | omega)) (by (first | exact om_f82fee59341f r21.1 r21.2 | omega)) (show z20.toInt + ((V 13 (Int32.toNatClampNeg (V 0 11)))).toInt ≤ 48 from by (first | exact om_6f18d472129c r19.2 hz20 r21.2 | omega))) w2047 w2049 w89 w172 w2050 rfl rfl hdV_yX12_find ⟨Nat.le_of_ble_eq_true rfl, Nat.le_of_ble_eq_true rfl⟩ rfl hl.1 rfl (Nat.le_of_ble_eq_true rfl) dX12_named__91 ⟨Nat.le_of_ble_eq_true rfl, Nat.le_of_ble_eq_true rfl⟩) hP hD hK hS hA (fun z23 u24 H locs w25 hP hD hK hS => ?_)
        obtain ⟨rgz23, t26⟩ := w25
        replace rgz23 : (-1) ≤ z23.toInt ∧ z23.toInt ≤ 47 := rgz23
        replace t26 : z23.toInt < ((V 13 (Int32.toNatClampNeg (V 0 11)))).toInt := t26
        exact W.iret (v := z23) hx hb hr (fun t ht hW => ⟨⟨z23, (V9, L10), rfl, ⟨hMV9, agV9, alL10, (show (V9 0 2).toInt = 0 from by (first | exact om_b66ba74381d5 t7 | omega))⟩, by rw [ht]; exact hP, va_K.moved hW.alike hK, hD⟩, hS.F ht⟩) hS.2.2 dX12_named__94
      by_cases q27 : p0 = 1
      · refine g_top (v := 1) q27 ?_
        have fq27 : p0.toInt = 1 := b_eq rfl (by decide) q27
        refine lv_tableIn (x := 1) (off := 64) (tgt := 95) hx hb dX12_named__31 (by decide) (by decide) (by decide) (by decide) ?_
        refine lv_aload_n hx hb dX12_named__95 rfl (lv_at hl 0 rfl) ?_
        refine lv_aload_n hx hb dX12_named__96 rfl (lv_at hl 0 rfl) ?_
        refine va_get (D := D) (ci := 12) (v := .ref (ad 17)) (C := RX12) (T := TX12) (N := 100) hx hb hg inX12 hown hK hP 0 rfl rfl 17 (by decide) (hg _ w1723) (fun _ h9 => h9) rfl dX12_named__97 ?_
        refine lv_bipush (v := 12) hx hb dX12_named__100 (by decide) ?_
        refine lv_aload_n hx hb dX12_named__102 rfl (lv_at hl 0 rfl) ?_
        refine va_get (D := D) (ci := 12) (v := .int (V9 0 11)) (C := RX12) (T := TX12) (N := 100) hx hb hg inX12 hown hK hP 0 rfl rfl 11 (by decide) (hg _ w1717) (fun _ h9 => h9) rfl dX12_named__103 ?_
        refine g_top (v := (V 0 11)) ((ajV9 0 11 rfl).trans (up2_k hV1 (by decide))) ?_
        have r28 : 0 ≤ ((V 0 11)).toInt ∧ ((V 0 11)).toInt ≤ 1 := hMV 0 11
        refine lv_imul hx hb dX12_named__106 ?_
        refine lv_topi (fun z29 ez29 => ?_)
        have hz29 : z29.toInt = 12 * ((V 0 11)).toInt := i_mul ez29 (by decide) rfl (by (first | exact om_630bd6ee60c3 r28.1 r28.2 | omega))
        refine lv_aload_n hx hb dX12_named__107 rfl (lv_at hl 0 rfl) ?_
        refine va_get (D := D) (ci := 12) (v := .ref (ad 16)) (C := RX12) (T := TX12) (N := 100) hx hb hg inX12 hown hK hP 0 rfl rfl 16 (by decide) (hg _ w1722) (fun _ h9 => h9) rfl dX12_named__108 ?_
        refine lv_aload_n hx hb dX12_named__111 rfl (lv_at hl 0 rfl) ?_
        refine va_get (D := D) (ci := 12) (v := .int (V9 0 11)) (C := RX12) (T := TX12) (N := 100) hx hb hg inX12 hown hK hP 0 rfl rfl 11 (by decide) (hg _ w1717) (fun _ h9 => h9) rfl dX12_named__112 ?_
        refine g_top (v := (V 0 11)) ((ajV9 0 11 rfl).trans (up2_k hV1 (by decide))) ?_
        refine va_iald (D := D) (i := (V 0 11)) hx hb hK hP 9 8 rfl rfl (i_in (a := ((V 0 11)).toInt) rfl (by (first | exact om_8367a84723c7 r28.1 r28.2 | omega))) dX12_named__115 ?_
        refine g_top (v := (V 16 (Int32.toNatClampNeg (V 0 11)))) ((ajV9 16 (Int32.toNatClampNeg (V 0 11)) rfl).trans (up2_o hV1 (by decide))) ?_
        have r30 : 0 ≤ ((V 16 (Int32.toNatClampNeg (V 0 11)))).toInt ∧ ((V 16 (Int32.toNatClampNeg (V 0 11)))).toInt ≤ 12 := hMV 16 (Int32.toNatClampNeg (V 0 11))
        refine lv_aload_n hx hb dX12_named__116 rfl (lv_at hl 0 rfl) ?_
        refine va_get (D := D) (ci := 12) (v := .ref (ad 6)) (C := RX12) (T := TX12) (N := 100) hx hb hg inX12 hown hK hP 0 rfl rfl 6 (by decide) (hg _ w1712) (fun _ h9 => h9) rfl dX12_named__117 ?_
        refine lv_iconst (v := 0) hx hb dX12_named__120 (by decide) ?_
        refine va_lald (D := D) (i := 0) hx hb hK hP 4 3 rfl rfl (i_in (a := 0) (by decide) (by decide)) dX12_named__121 ?_
        refine lv_topl (fun w31 ew31 => ?_)
        refine gA_int (gA_runV (As := [.ref (ad 17), .int z29, .int (V 16 (Int32.toNatClampNeg (V 0 11))), .long w31]) (rest := []) (ci := 12) (q0 := 0) hx hb hml hown hg hP hD hK hS hA hnw hgk (s_find_settingName l D ks H.size ad kk V9 L10 z29 (V 16 (Int32.toNatClampNeg (V 0 11))) w31 hMV9 (by (first | exact om_cbb4348e7513 r28.1 r28.2 hz29 | omega)) (by (first | exact om_f5a2411b9512 r30.1 r30.2 | omega)) (show z29.toInt + ((V 16 (Int32.toNatClampNeg (V 0 11)))).toInt ≤ 24 from by (first | exact om_789d02abd9c5 r28.2 hz29 r30.2 | omega))) w2047 w2049 w89 w172 w2050 rfl rfl hdV_yX12_find ⟨Nat.le_of_ble_eq_true rfl, Nat.le_of_ble_eq_true rfl⟩ rfl hl.1 rfl (Nat.le_of_ble_eq_true rfl) dX12_named__122 ⟨Nat.le_of_ble_eq_true rfl, Nat.le_of_ble_eq_true rfl⟩) hP hD hK hS hA (fun z32 u33 H locs w34 hP hD hK hS => ?_)
        obtain ⟨rgz32, t35⟩ := w34
        replace rgz32 : (-1) ≤ z32.toInt ∧ z32.toInt ≤ 47 := rgz32
        replace t35 : z32.toInt < ((V 16 (Int32.toNatClampNeg (V 0 11)))).toInt := t35
        exact W.iret (v := z32) hx hb hr (fun t ht hW => ⟨⟨z32, (V9, L10), rfl, ⟨hMV9, agV9, alL10, (show (V9 0 2).toInt = 0 from by (first | exact om_b66ba74381d5 t7 | omega))⟩, by rw [ht]; exact hP, va_K.moved hW.alike hK, hD⟩, hS.F ht⟩) hS.2.2 dX12_named__125
      by_cases q36 : p0 = 2
      · refine g_top (v := 2) q36 ?_
        have fq36 : p0.toInt = 2 := b_eq rfl (by decide) q36
        refine lv_tableIn (x := 2) (off := 95) (tgt := 126) hx hb dX12_named__31 (by decide) (by decide) (by decide) (by decide) ?_
        refine lv_aload_n hx hb dX12_named__126 rfl (lv_at hl 0 rfl) ?_
        refine lv_aload_n hx hb dX12_named__127 rfl (lv_at hl 0 rfl) ?_
        refine va_get (D := D) (ci := 12) (v := .ref (ad 20)) (C := RX12) (T := TX12) (N := 100) hx hb hg inX12 hown hK hP 0 rfl rfl 20 (by decide) (hg _ w1726) (fun _ h9 => h9) rfl dX12_named__128 ?_
        refine lv_bipush (v := 24) hx hb dX12_named__131 (by decide) ?_
        refine lv_aload_n hx hb dX12_named__133 rfl (lv_at hl 0 rfl) ?_
        refine va_get (D := D) (ci := 12) (v := .int (V9 0 11)) (C := RX12) (T := TX12) (N := 100) hx hb hg inX12 hown hK hP 0 rfl rfl 11 (by decide) (hg _ w1717) (fun _ h9 => h9) rfl dX12_named__134 ?_
        refine g_top (v := (V 0 11)) ((ajV9 0 11 rfl).trans (up2_k hV1 (by decide))) ?_
        have r37 : 0 ≤ ((V 0 11)).toInt ∧ ((V 0 11)).toInt ≤ 1 := hMV 0 11
        refine lv_imul hx hb dX12_named__137 ?_
        refine lv_topi (fun z38 ez38 => ?_)
        have hz38 : z38.toInt = 24 * ((V 0 11)).toInt := i_mul ez38 (by decide) rfl (by (first | exact om_3f8aba7b6ce1 r37.1 r37.2 | omega))
        refine lv_aload_n hx hb dX12_named__138 rfl (lv_at hl 0 rfl) ?_
        refine va_get (D := D) (ci := 12) (v := .ref (ad 19)) (C := RX12) (T := TX12) (N := 100) hx hb hg inX12 hown hK hP 0 rfl rfl 19 (by decide) (hg _ w1725) (fun _ h9 => h9) rfl dX12_named__139 ?_
        refine lv_aload_n hx hb dX12_named__142 rfl (lv_at hl 0 rfl) ?_
        refine va_get (D := D) (ci := 12) (v := .int (V9 0 11)) (C := RX12) (T := TX12) (N := 100) hx hb hg inX12 hown hK hP 0 rfl rfl 11 (by decide) (hg _ w1717) (fun _ h9 => h9) rfl dX12_named__143 ?_
        refine g_top (v := (V 0 11)) ((ajV9 0 11 rfl).trans (up2_k hV1 (by decide))) ?_
        refine va_iald (D := D) (i := (V 0 11)) hx hb hK hP 12 11 rfl rfl (i_in (a := ((V 0 11)).toInt) rfl (by (first | exact om_8367a84723c7 r37.1 r37.2 | omega))) dX12_named__146 ?_
        refine g_top (v := (V 19 (Int32.toNatClampNeg (V 0 11)))) ((ajV9 19 (Int32.toNatClampNeg (V 0 11)) rfl).trans (up2_o hV1 (by decide))) ?_
        have r39 : 0 ≤ ((V 19 (Int32.toNatClampNeg (V 0 11)))).toInt ∧ ((V 19 (Int32.toNatClampNeg (V 0 11)))).toInt ≤ 24 := hMV 19 (Int32.toNatClampNeg (V 0 11))
        refine lv_aload_n hx hb dX12_named__147 rfl (lv_at hl 0 rfl) ?_
        refine va_get (D := D) (ci := 12) (v := .ref (ad 6)) (C := RX12) (T := TX12) (N := 100) hx hb hg inX12 hown hK hP 0 rfl rfl 6 (by decide) (hg _ w1712) (fun _ h9 => h9) rfl dX12_named__148 ?_
        refine lv_iconst (v := 0) hx hb dX12_named__151 (by decide) ?_
        refine va_lald (D := D) (i := 0) hx hb hK hP 4 3 rfl rfl (i_in (a := 0) (by decide) (by decide)) dX12_named__152 ?_
        refine lv_topl (fun w40 ew40 => ?_)
        refine gA_int (gA_runV (As := [.ref (ad 20), .int z38, .int (V 19 (Int32.toNatClampNeg (V 0 11))), .long w40]) (rest := []) (ci := 12) (q0 := 0) hx hb hml hown hg hP hD hK hS hA hnw hgk (s_find_componentName l D ks H.size ad kk V9 L10 z38 (V 19 (Int32.toNatClampNeg (V 0 11))) w40 hMV9 (by (first | exact om_c44c09625d4d r37.1 r37.2 hz38 | omega)) (by (first | exact om_f82fee59341f r39.1 r39.2 | omega)) (show z38.toInt + ((V 19 (Int32.toNatClampNeg (V 0 11)))).toInt ≤ 48 from by (first | exact om_6f18d472129c r37.2 hz38 r39.2 | omega))) w2047 w2049 w89 w172 w2050 rfl rfl hdV_yX12_find ⟨Nat.le_of_ble_eq_true rfl, Nat.le_of_ble_eq_true rfl⟩ rfl hl.1 rfl (Nat.le_of_ble_eq_true rfl) dX12_named__153 ⟨Nat.le_of_ble_eq_true rfl, Nat.le_of_ble_eq_true rfl⟩) hP hD hK hS hA (fun z41 u42 H locs w43 hP hD hK hS => ?_)
        obtain ⟨rgz41, t44⟩ := w43
        replace rgz41 : (-1) ≤ z41.toInt ∧ z41.toInt ≤ 47 := rgz41
        replace t44 : z41.toInt < ((V 19 (Int32.toNatClampNeg (V 0 11)))).toInt := t44
        exact W.iret (v := z41) hx hb hr (fun t ht hW => ⟨⟨z41, (V9, L10), rfl, ⟨hMV9, agV9, alL10, (show (V9 0 2).toInt = 0 from by (first | exact om_b66ba74381d5 t7 | omega))⟩, by rw [ht]; exact hP, va_K.moved hW.alike hK, hD⟩, hS.F ht⟩) hS.2.2 dX12_named__156
      by_cases q45 : p0 = 3
      · refine g_top (v := 3) q45 ?_
        have fq45 : p0.toInt = 3 := b_eq rfl (by decide) q45
        refine lv_tableIn (x := 3) (off := 126) (tgt := 157) hx hb dX12_named__31 (by decide) (by decide) (by decide) (by decide) ?_
        refine lv_aload_n hx hb dX12_named__157 rfl (lv_at hl 0 rfl) ?_
        refine lv_aload_n hx hb dX12_named__158 rfl (lv_at hl 0 rfl) ?_
        refine va_get (D := D) (ci := 12) (v := .ref (ad 36)) (C := RX12) (T := TX12) (N := 100) hx hb hg inX12 hown hK hP 0 rfl rfl 36 (by decide) (hg _ w1742) (fun _ h9 => h9) rfl dX12_named__159 ?_
        refine lv_bipush (v := 20) hx hb dX12_named__162 (by decide) ?_
        refine lv_aload_n hx hb dX12_named__164 rfl (lv_at hl 0 rfl) ?_
        refine va_get (D := D) (ci := 12) (v := .int (V9 0 11)) (C := RX12) (T := TX12) (N := 100) hx hb hg inX12 hown hK hP 0 rfl rfl 11 (by decide) (hg _ w1717) (fun _ h9 => h9) rfl dX12_named__165 ?_
        refine g_top (v := (V 0 11)) ((ajV9 0 11 rfl).trans (up2_k hV1 (by decide))) ?_
        have r46 : 0 ≤ ((V 0 11)).toInt ∧ ((V 0 11)).toInt ≤ 1 := hMV 0 11
        refine lv_imul hx hb dX12_named__168 ?_
        refine lv_topi (fun z47 ez47 => ?_)
        have hz47 : z47.toInt = 20 * ((V 0 11)).toInt := i_mul ez47 (by decide) rfl (by (first | exact om_1c36e316c123 r46.1 r46.2 | omega))
        refine lv_aload_n hx hb dX12_named__169 rfl (lv_at hl 0 rfl) ?_
        refine va_get (D := D) (ci := 12) (v := .ref (ad 35)) (C := RX12) (T := TX12) (N := 100) hx hb hg inX12 hown hK hP 0 rfl rfl 35 (by decide) (hg _ w1741) (fun _ h9 => h9) rfl dX12_named__170 ?_
        refine lv_aload_n hx hb dX12_named__173 rfl (lv_at hl 0 rfl) ?_
        refine va_get (D := D) (ci := 12) (v := .int (V9 0 11)) (C := RX12) (T := TX12) (N := 100) hx hb hg inX12 hown hK hP 0 rfl rfl 11 (by decide) (hg _ w1717) (fun _ h9 => h9) rfl dX12_named__174 ?_
        refine g_top (v := (V 0 11)) ((ajV9 0 11 rfl).trans (up2_k hV1 (by decide))) ?_
        refine va_iald (D := D) (i := (V 0 11)) hx hb hK hP 28 27 rfl rfl (i_in (a := ((V 0 11)).toInt) rfl (by (first | exact om_8367a84723c7 r46.1 r46.2 | omega))) dX12_named__177 ?_
        refine g_top (v := (V 35 (Int32.toNatClampNeg (V 0 11)))) ((ajV9 35 (Int32.toNatClampNeg (V 0 11)) rfl).trans (up2_o hV1 (by decide))) ?_
        have r48 : 0 ≤ ((V 35 (Int32.toNatClampNeg (V 0 11)))).toInt ∧ ((V 35 (Int32.toNatClampNeg (V 0 11)))).toInt ≤ 20 := hMV 35 (Int32.toNatClampNeg (V 0 11))
        refine lv_aload_n hx hb dX12_named__178 rfl (lv_at hl 0 rfl) ?_
        refine va_get (D := D) (ci := 12) (v := .ref (ad 6)) (C := RX12) (T := TX12) (N := 100) hx hb hg inX12 hown hK hP 0 rfl rfl 6 (by decide) (hg _ w1712) (fun _ h9 => h9) rfl dX12_named__179 ?_
        refine lv_iconst (v := 0) hx hb dX12_named__182 (by decide) ?_
        refine va_lald (D := D) (i := 0) hx hb hK hP 4 3 rfl rfl (i_in (a := 0) (by decide) (by decide)) dX12_named__183 ?_
        refine lv_topl (fun w49 ew49 => ?_)
        refine gA_int (gA_runV (As := [.ref (ad 36), .int z47, .int (V 35 (Int32.toNatClampNeg (V 0 11))), .long w49]) (rest := []) (ci := 12) (q0 := 0) hx hb hml hown hg hP hD hK hS hA hnw hgk (s_find_methodName l D ks H.size ad kk V9 L10 z47 (V 35 (Int32.toNatClampNeg (V 0 11))) w49 hMV9 (by (first | exact om_c7296700d4dd r46.1 r46.2 hz47 | omega)) (by (first | exact om_ad40d0ac5b52 r48.1 r48.2 | omega)) (show z47.toInt + ((V 35 (Int32.toNatClampNeg (V 0 11)))).toInt ≤ 40 from by (first | exact om_03a4a2dc5d03 r46.2 hz47 r48.2 | omega))) w2047 w2049 w89 w172 w2050 rfl rfl hdV_yX12_find ⟨Nat.le_of_ble_eq_true rfl, Nat.le_of_ble_eq_true rfl⟩ rfl hl.1 rfl (Nat.le_of_ble_eq_true rfl) dX12_named__184 ⟨Nat.le_of_ble_eq_true rfl, Nat.le_of_ble_eq_true rfl⟩) hP hD hK hS hA (fun z50 u51 H locs w52 hP hD hK hS => ?_)
        obtain ⟨rgz50, t53⟩ := w52
        replace rgz50 : (-1) ≤ z50.toInt ∧ z50.toInt ≤ 47 := rgz50
        replace t53 : z50.toInt < ((V 35 (Int32.toNatClampNeg (V 0 11)))).toInt := t53
        exact W.iret (v := z50) hx hb hr (fun t ht hW => ⟨⟨z50, (V9, L10), rfl, ⟨hMV9, agV9, alL10, (show (V9 0 2).toInt = 0 from by (first | exact om_b66ba74381d5 t7 | omega))⟩, by rw [ht]; exact hP, va_K.moved hW.alike hK, hD⟩, hS.F ht⟩) hS.2.2 dX12_named__187
      by_cases q54 : p0 = 4
      · refine g_top (v := 4) q54 ?_
        have fq54 : p0.toInt = 4 := b_eq rfl (by decide) q54
        refine lv_tableIn (x := 4) (off := 157) (tgt := 188) hx hb dX12_named__31 (by decide) (by decide) (by decide) (by decide) ?_
        refine lv_aload_n hx hb dX12_named__188 rfl (lv_at hl 0 rfl) ?_
        refine lv_aload_n hx hb dX12_named__189 rfl (lv_at hl 0 rfl) ?_
        refine va_get (D := D) (ci := 12) (v := .ref (ad 38)) (C := RX12) (T := TX12) (N := 100) hx hb hg inX12 hown hK hP 0 rfl rfl 38 (by decide) (hg _ w1744) (fun _ h9 => h9) rfl dX12_named__190 ?_
        refine lv_bipush (v := 20) hx hb dX12_named__193 (by decide) ?_
        refine lv_aload_n hx hb dX12_named__195 rfl (lv_at hl 0 rfl) ?_
        refine va_get (D := D) (ci := 12) (v := .int (V9 0 11)) (C := RX12) (T := TX12) (N := 100) hx hb hg inX12 hown hK hP 0 rfl rfl 11 (by decide) (hg _ w1717) (fun _ h9 => h9) rfl dX12_named__196 ?_
        refine g_top (v := (V 0 11)) ((ajV9 0 11 rfl).trans (up2_k hV1 (by decide))) ?_
        have r55 : 0 ≤ ((V 0 11)).toInt ∧ ((V 0 11)).toInt ≤ 1 := hMV 0 11
        refine lv_imul hx hb dX12_named__199 ?_
        refine lv_topi (fun z56 ez56 => ?_)
        have hz56 : z56.toInt = 20 * ((V 0 11)).toInt := i_mul ez56 (by decide) rfl (by (first | exact om_1c36e316c123 r55.1 r55.2 | omega))
        refine lv_aload_n hx hb dX12_named__200 rfl (lv_at hl 0 rfl) ?_
        refine va_get (D := D) (ci := 12) (v := .ref (ad 37)) (C := RX12) (T := TX12) (N := 100) hx hb hg inX12 hown hK hP 0 rfl rfl 37 (by decide) (hg _ w1743) (fun _ h9 => h9) rfl dX12_named__201 ?_
        refine lv_aload_n hx hb dX12_named__204 rfl (lv_at hl 0 rfl) ?_
        refine va_get (D := D) (ci := 12) (v := .int (V9 0 11)) (C := RX12) (T := TX12) (N := 100) hx hb hg inX12 hown hK hP 0 rfl rfl 11 (by decide) (hg _ w1717) (fun _ h9 => h9) rfl dX12_named__205 ?_
        refine g_top (v := (V 0 11)) ((ajV9 0 11 rfl).trans (up2_k hV1 (by decide))) ?_
        refine va_iald (D := D) (i := (V 0 11)) hx hb hK hP 30 29 rfl rfl (i_in (a := ((V 0 11)).toInt) rfl (by (first | exact om_8367a84723c7 r55.1 r55.2 | omega))) dX12_named__208 ?_
        refine g_top (v := (V 37 (Int32.toNatClampNeg (V 0 11)))) ((ajV9 37 (Int32.toNatClampNeg (V 0 11)) rfl).trans (up2_o hV1 (by decide))) ?_
        have r57 : 0 ≤ ((V 37 (Int32.toNatClampNeg (V 0 11)))).toInt ∧ ((V 37 (Int32.toNatClampNeg (V 0 11)))).toInt ≤ 20 := hMV 37 (Int32.toNatClampNeg (V 0 11))
        refine lv_aload_n hx hb dX12_named__209 rfl (lv_at hl 0 rfl) ?_
        refine va_get (D := D) (ci := 12) (v := .ref (ad 6)) (C := RX12) (T := TX12) (N := 100) hx hb hg inX12 hown hK hP 0 rfl rfl 6 (by decide) (hg _ w1712) (fun _ h9 => h9) rfl dX12_named__210 ?_
        refine lv_iconst (v := 0) hx hb dX12_named__213 (by decide) ?_
        refine va_lald (D := D) (i := 0) hx hb hK hP 4 3 rfl rfl (i_in (a := 0) (by decide) (by decide)) dX12_named__214 ?_
        refine lv_topl (fun w58 ew58 => ?_)
        refine gA_int (gA_runV (As := [.ref (ad 38), .int z56, .int (V 37 (Int32.toNatClampNeg (V 0 11))), .long w58]) (rest := []) (ci := 12) (q0 := 0) hx hb hml hown hg hP hD hK hS hA hnw hgk (s_find_callName l D ks H.size ad kk V9 L10 z56 (V 37 (Int32.toNatClampNeg (V 0 11))) w58 hMV9 (by (first | exact om_c7296700d4dd r55.1 r55.2 hz56 | omega)) (by (first | exact om_ad40d0ac5b52 r57.1 r57.2 | omega)) (show z56.toInt + ((V 37 (Int32.toNatClampNeg (V 0 11)))).toInt ≤ 40 from by (first | exact om_03a4a2dc5d03 r55.2 hz56 r57.2 | omega))) w2047 w2049 w89 w172 w2050 rfl rfl hdV_yX12_find ⟨Nat.le_of_ble_eq_true rfl, Nat.le_of_ble_eq_true rfl⟩ rfl hl.1 rfl (Nat.le_of_ble_eq_true rfl) dX12_named__215 ⟨Nat.le_of_ble_eq_true rfl, Nat.le_of_ble_eq_true rfl⟩) hP hD hK hS hA (fun z59 u60 H locs w61 hP hD hK hS => ?_)
        obtain ⟨rgz59, t62⟩ := w61
        replace rgz59 : (-1) ≤ z59.toInt ∧ z59.toInt ≤ 47 := rgz59
        replace t62 : z59.toInt < ((V 37 (Int32.toNatClampNeg (V 0 11)))).toInt := t62
        exact W.iret (v := z59) hx hb hr (fun t ht hW => ⟨⟨z59, (V9, L10), rfl, ⟨hMV9, agV9, alL10, (show (V9 0 2).toInt = 0 from by (first | exact om_b66ba74381d5 t7 | omega))⟩, by rw [ht]; exact hP, va_K.moved hW.alike hK, hD⟩, hS.F ht⟩) hS.2.2 dX12_named__218
      refine lv_tableOut (x := p0) (tgt := 219) hx hb dX12_named__31 (tab_out p0 4 (by decide) (fun k hk => match k, hk with | 0, _ => q18 | 1, _ => q27 | 2, _ => q36 | 3, _ => q45 | 4, _ => q54 | k + 5, hk => absurd hk (by omega))) (by decide) ?_
      refine lv_iconst (v := (-1)) hx hb dX12_named__219 (by decide) ?_
      exact W.iret (v := (-1)) hx hb hr (fun t ht hW => ⟨⟨(-1), (V9, L10), rfl, ⟨hMV9, agV9, alL10, (show (V9 0 2).toInt = 0 from by (first | exact om_b66ba74381d5 t7 | omega))⟩, by rw [ht]; exact hP, va_K.moved hW.alike hK, hD⟩, hS.F ht⟩) hS.2.2 dX12_named__220
    · skip
      have f63 : ((V9 4 1)).toInt ≠ 0 := b_neq rfl (by decide) c16
      refine lv_iconst (v := (-1)) hx hb dX12_named__28 (by decide) ?_
      exact W.iret (v := (-1)) hx hb hr (fun t ht hW => ⟨⟨(-1), (V9, L10), rfl, ⟨hMV9, agV9, alL10, (show (V9 0 2).toInt = 0 from by (first | exact om_b66ba74381d5 t7 | omega))⟩, by rw [ht]; exact hP, va_K.moved hW.alike hK, hD⟩, hS.F ht⟩) hS.2.2 dX12_named__29
end
section
/-! What an E is turned into by the reference: ranges of its code. oc: the order, oa, ob: what goes with it. -/
def oc (V : Vf) (i : Nat) : Int := (V 45 i).toInt
def oa (V : Vf) (i : Nat) : Int := (V 46 i).toInt
def ob (V : Vf) (i : Nat) : Int := (V 47 i).toInt
/-- a PART's last order, behind what is in it: NEGATE, OF, GO -/
def wfU (nd : Int) (ar : Bool) (V : Vf) (m : Nat) : Prop := oc V m = 4 ∨ (oc V m = 14 ∧ 0 ≤ oa V m ∧ oa V m < nd ∧ 0 ≤ ob V m ∧ ob V m ≤ 19) ∨ (oc V m = 15 ∧ ar = true)
/-- NUMBER, ARG, FAIL, SETTING -/
def wfL (V : Vf) (m : Nat) : Prop := oc V m = 2 ∨ oc V m = 3 ∨ oc V m = 10 ∨ (oc V m = 11 ∧ 0 ≤ oa V m ∧ oa V m ≤ 11)
/-- the range from a to b puts one value, with at most h more on the pile meanwhile (nd: how many needs there are; ar: within an around); by fuel -/
def wfE (nd : Int) (ar : Bool) (V : Vf) : Nat → Nat → Nat → Nat → Prop
  | 0, _, _, _ => False
  | f + 1, h, a, b =>
    (oc V a = 1 ∧ ((b = a + 2 ∧ 1 ≤ h ∧ wfL V (a + 1)) ∨ wfE nd ar V f h (a + 1) b ∨ (∃ (m : Nat), wfE nd ar V f h (a + 1) m ∧ b = m + 1 ∧ wfU nd ar V m)
      ∨ (∃ (m1 m2 : Nat), wfE nd ar V f h (a + 1) m1 ∧ oc V m1 = 12 ∧ oa V m1 = (m2 : Int) + 1 ∧ wfE nd ar V f h (m1 + 1) m2 ∧ oc V m2 = 13 ∧ oa V m2 = (b : Int) ∧ wfE nd ar V f h (m2 + 1) b)))
    ∨ (∃ (m m2 j : Nat), wfE nd ar V f h a m ∧ wfE nd ar V f j m m2 ∧ j + 1 ≤ h ∧ b = m2 + 1 ∧ 5 ≤ oc V m2 ∧ oc V m2 ≤ 9)
theorem wfE_lt {nd : Int} {ar : Bool} {V : Vf} : ∀ (f h a b : Nat), wfE nd ar V f h a b → a < b
  | 0, _, _, _, q => q.elim
  | f + 1, h, a, b, q => by
    rcases q with ⟨-, q | q | ⟨m, q, e, -⟩ | ⟨m1, m2, h1, -, -, h2, -, -, h3⟩⟩ | ⟨m, m2, j, h1, h2, -, e, -⟩
    · omega
    · have := wfE_lt f _ _ _ q; omega
    · have := wfE_lt f _ _ _ q; omega
    · have := wfE_lt f _ _ _ h1; have := wfE_lt f _ _ _ h2; have := wfE_lt f _ _ _ h3; omega
    · have := wfE_lt f _ _ _ h1; have := wfE_lt f _ _ _ h2; omega
theorem wfE_up {nd : Int} {ar : Bool} {V : Vf} : ∀ (f h a b : Nat), wfE nd ar V f h a b → wfE nd ar V (f + 1) h a b
  | 0, _, _, _, q => q.elim
  | f + 1, h, a, b, q => by
    rcases q with ⟨h0, q | q | ⟨m, q, e, u⟩ | ⟨m1, m2, h1, q1, q2, h2, q3, q4, h3⟩⟩ | ⟨m, m2, j, h1, h2, e⟩
    · exact Or.inl ⟨h0, Or.inl q⟩
    · exact Or.inl ⟨h0, Or.inr (Or.inl (wfE_up f _ _ _ q))⟩
    · exact Or.inl ⟨h0, Or.inr (Or.inr (Or.inl ⟨m, wfE_up f _ _ _ q, e, u⟩))⟩
    · exact Or.inl ⟨h0, Or.inr (Or.inr (Or.inr ⟨m1, m2, wfE_up f _ _ _ h1, q1, q2, wfE_up f _ _ _ h2, q3, q4, wfE_up f _ _ _ h3⟩))⟩
    · exact Or.inr ⟨m, m2, j, wfE_up f _ _ _ h1, wfE_up f _ _ _ h2, e⟩
theorem wfE_le {nd : Int} {ar : Bool} {V : Vf} {f g h a b : Nat} (q : wfE nd ar V f h a b) (hg : f ≤ g) : wfE nd ar V g h a b := by
  induction hg with
  | refl => exact q
  | step _ ih => exact wfE_up _ _ _ _ ih
def WE (nd : Int) (ar : Bool) (V : Vf) (h a b : Nat) : Prop := ∃ f, wfE nd ar V f h a b
theorem WE.lt {nd : Int} {ar : Bool} {V : Vf} {h a b : Nat} (q : WE nd ar V h a b) : a < b := by
  obtain ⟨f, q⟩ := q
  exact wfE_lt f h a b q
theorem WE_leaf {nd : Int} {ar : Bool} {V : Vf} {h a : Nat} (h0 : oc V a = 1) (hh : 1 ≤ h) (h1 : wfL V (a + 1)) : WE nd ar V h a (a + 2) := ⟨1, Or.inl ⟨h0, Or.inl ⟨rfl, hh, h1⟩⟩⟩
theorem WE_par {nd : Int} {ar : Bool} {V : Vf} {h a b : Nat} (h0 : oc V a = 1) (q : WE nd ar V h (a + 1) b) : WE nd ar V h a b := by
  obtain ⟨f, q⟩ := q
  exact ⟨f + 1, Or.inl ⟨h0, Or.inr (Or.inl q)⟩⟩
theorem WE_un {nd : Int} {ar : Bool} {V : Vf} {h a m : Nat} (h0 : oc V a = 1) (q : WE nd ar V h (a + 1) m) (u : wfU nd ar V m) : WE nd ar V h a (m + 1) := by
  obtain ⟨f, q⟩ := q
  exact ⟨f + 1, Or.inl ⟨h0, Or.inr (Or.inr (Or.inl ⟨m, q, rfl, u⟩))⟩⟩
theorem WE_pick {nd : Int} {ar : Bool} {V : Vf} {h a b m1 m2 : Nat} (h0 : oc V a = 1) (h1 : WE nd ar V h (a + 1) m1) (q1 : oc V m1 = 12) (q2 : oa V m1 = (m2 : Int) + 1) (h2 : WE nd ar V h (m1 + 1) m2) (q3 : oc V m2 = 13) (q4 : oa V m2 = (b : Int)) (h3 : WE nd ar V h (m2 + 1) b) : WE nd ar V h a b := by
  obtain ⟨f1, h1⟩ := h1
  obtain ⟨f2, h2⟩ := h2
  obtain ⟨f3, h3⟩ := h3
  exact ⟨f1 + f2 + f3 + 1, Or.inl ⟨h0, Or.inr (Or.inr (Or.inr ⟨m1, m2, wfE_le h1 (by omega), q1, q2, wfE_le h2 (by omega), q3, q4, wfE_le h3 (by omega)⟩))⟩⟩
theorem WE_bin {nd : Int} {ar : Bool} {V : Vf} {h j a m m2 : Nat} (h1 : WE nd ar V h a m) (h2 : WE nd ar V j m m2) (hj : j + 1 ≤ h) (q : 5 ≤ oc V m2 ∧ oc V m2 ≤ 9) : WE nd ar V h a (m2 + 1) := by
  obtain ⟨f1, h1⟩ := h1
  obtain ⟨f2, h2⟩ := h2
  exact ⟨f1 + f2 + 1, Or.inr ⟨m, m2, j, wfE_le h1 (by omega), wfE_le h2 (by omega), hj, rfl, q.1, q.2⟩⟩
/-- the same code from x to y -/
def same3 (V W : Vf) (x y : Nat) : Prop := ∀ i, x ≤ i → i < y → W 45 i = V 45 i ∧ W 46 i = V 46 i ∧ W 47 i = V 47 i
theorem same3.sub {V W : Vf} {x y x' y' : Nat} (h : same3 V W x y) (h1 : x ≤ x') (h2 : y' ≤ y) : same3 V W x' y' := fun i a b => h i (by omega) (by omega)
theorem same3.tr {V W X : Vf} {x y : Nat} (h : same3 V W x y) (h2 : same3 W X x y) : same3 V X x y := fun i a b => ⟨(h2 i a b).1.trans (h i a b).1, (h2 i a b).2.1.trans (h i a b).2.1, (h2 i a b).2.2.trans (h i a b).2.2⟩
theorem same3.oc {V W : Vf} {x y i : Nat} (h : same3 V W x y) (h1 : x ≤ i) (h2 : i < y) : oc W i = oc V i := congrArg Int32.toInt (h i h1 h2).1
theorem same3.oa {V W : Vf} {x y i : Nat} (h : same3 V W x y) (h1 : x ≤ i) (h2 : i < y) : oa W i = oa V i := congrArg Int32.toInt (h i h1 h2).2.1
theorem same3.ob {V W : Vf} {x y i : Nat} (h : same3 V W x y) (h1 : x ≤ i) (h2 : i < y) : ob W i = ob V i := congrArg Int32.toInt (h i h1 h2).2.2
theorem wfE_same {nd : Int} {ar : Bool} {V W : Vf} : ∀ (f h a b : Nat), same3 V W a b → wfE nd ar V f h a b → wfE nd ar W f h a b
  | 0, _, _, _, _, q => q.elim
  | f + 1, h, a, b, hs, q => by
    rcases q with ⟨h0, q | q | ⟨m, q, e, u⟩ | ⟨m1, m2, h1, q1, q2, h2, q3, q4, h3⟩⟩ | ⟨m, m2, j, h1, h2, hj, e, q⟩
    · obtain ⟨e, hh, q⟩ := q
      refine Or.inl ⟨by rw [hs.oc (by omega) (by omega)]; exact h0, Or.inl ⟨e, hh, ?_⟩⟩
      unfold wfL at q ⊢
      rw [hs.oc (by omega) (by omega), hs.oa (by omega) (by omega)]
      exact q
    · have l1 := wfE_lt f _ _ _ q
      exact Or.inl ⟨by rw [hs.oc (by omega) (by omega)]; exact h0, Or.inr (Or.inl (wfE_same f _ _ _ (hs.sub (by omega) (by omega)) q))⟩
    · have l1 := wfE_lt f _ _ _ q
      refine Or.inl ⟨by rw [hs.oc (by omega) (by omega)]; exact h0, Or.inr (Or.inr (Or.inl ⟨m, wfE_same f _ _ _ (hs.sub (by omega) (by omega)) q, e, ?_⟩))⟩
      unfold wfU at u ⊢
      rw [hs.oc (by omega) (by omega), hs.oa (by omega) (by omega), hs.ob (by omega) (by omega)]
      exact u
    · have l1 := wfE_lt f _ _ _ h1
      have l2 := wfE_lt f _ _ _ h2
      have l3 := wfE_lt f _ _ _ h3
      exact Or.inl ⟨by rw [hs.oc (by omega) (by omega)]; exact h0, Or.inr (Or.inr (Or.inr ⟨m1, m2, wfE_same f _ _ _ (hs.sub (by omega) (by omega)) h1, by rw [hs.oc (by omega) (by omega)]; exact q1, by rw [hs.oa (by omega) (by omega)]; exact q2, wfE_same f _ _ _ (hs.sub (by omega) (by omega)) h2, by rw [hs.oc (by omega) (by omega)]; exact q3, by rw [hs.oa (by omega) (by omega)]; exact q4, wfE_same f _ _ _ (hs.sub (by omega) (by omega)) h3⟩))⟩
    · have l1 := wfE_lt f _ _ _ h1
      have l2 := wfE_lt f _ _ _ h2
      refine Or.inr ⟨m, m2, j, wfE_same f _ _ _ (hs.sub (by omega) (by omega)) h1, wfE_same f _ _ _ (hs.sub (by omega) (by omega)) h2, hj, e, ?_⟩
      rw [hs.oc (by omega) (by omega)]
      exact q
theorem WE.same {nd : Int} {ar : Bool} {V W : Vf} {h a b : Nat} (q : WE nd ar V h a b) (hs : same3 V W a b) : WE nd ar W h a b := by
  obtain ⟨f, q⟩ := q
  exact ⟨f, wfE_same f h a b hs q⟩
/-! From a place on, with k values on the pile: all goes well to the END. lo, hi: where the code lies; hm: how high the pile may grow. By fuel. -/
def OKc (nd : Int) (ar : Bool) (V : Vf) (hm lo hi : Nat) : Nat → Nat → Nat → Prop
  | 0, _, _ => False
  | f + 1, p, k => lo ≤ p ∧ p < hi ∧ k ≤ hm ∧
    ((oc V p = 0 ∧ k = 1) ∨ (oc V p = 1 ∧ OKc nd ar V hm lo hi f (p + 1) k)
    ∨ ((oc V p = 2 ∨ oc V p = 3 ∨ (oc V p = 11 ∧ 0 ≤ oa V p ∧ oa V p ≤ 11)) ∧ k + 1 ≤ hm ∧ OKc nd ar V hm lo hi f (p + 1) (k + 1))
    ∨ oc V p = 10 ∨ (wfU nd ar V p ∧ 1 ≤ k ∧ OKc nd ar V hm lo hi f (p + 1) k)
    ∨ (5 ≤ oc V p ∧ oc V p ≤ 9 ∧ ∃ j : Nat, k = j + 2 ∧ OKc nd ar V hm lo hi f (p + 1) (j + 1))
    ∨ (oc V p = 12 ∧ ∃ j t : Nat, k = j + 1 ∧ oa V p = (t : Int) ∧ OKc nd ar V hm lo hi f (p + 1) j ∧ OKc nd ar V hm lo hi f t j)
    ∨ (oc V p = 13 ∧ ∃ t : Nat, oa V p = (t : Int) ∧ OKc nd ar V hm lo hi f t k))
theorem OKc_up {nd : Int} {ar : Bool} {V : Vf} {hm lo hi : Nat} : ∀ (f p k : Nat), OKc nd ar V hm lo hi f p k → OKc nd ar V hm lo hi (f + 1) p k
  | 0, _, _, q => q.elim
  | f + 1, p, k, q => by
    obtain ⟨a, b, c, q⟩ := q
    refine ⟨a, b, c, ?_⟩
    rcases q with q | ⟨q, r⟩ | ⟨q, z, r⟩ | q | ⟨q, z, r⟩ | ⟨q, z, j, e, r⟩ | ⟨q, j, t, e, z, r, r2⟩ | ⟨q, t, z, r⟩
    · exact Or.inl q
    · exact Or.inr (Or.inl ⟨q, OKc_up f _ _ r⟩)
    · exact Or.inr (Or.inr (Or.inl ⟨q, z, OKc_up f _ _ r⟩))
    · exact Or.inr (Or.inr (Or.inr (Or.inl q)))
    · exact Or.inr (Or.inr (Or.inr (Or.inr (Or.inl ⟨q, z, OKc_up f _ _ r⟩))))
    · exact Or.inr (Or.inr (Or.inr (Or.inr (Or.inr (Or.inl ⟨q, z, j, e, OKc_up f _ _ r⟩)))))
    · exact Or.inr (Or.inr (Or.inr (Or.inr (Or.inr (Or.inr (Or.inl ⟨q, j, t, e, z, OKc_up f _ _ r, OKc_up f _ _ r2⟩))))))
    · exact Or.inr (Or.inr (Or.inr (Or.inr (Or.inr (Or.inr (Or.inr ⟨q, t, z, OKc_up f _ _ r⟩))))))
theorem OKc_le {nd : Int} {ar : Bool} {V : Vf} {hm lo hi f g p k : Nat} (q : OKc nd ar V hm lo hi f p k) (hg : f ≤ g) : OKc nd ar V hm lo hi g p k := by
  induction hg with
  | refl => exact q
  | step _ ih => exact OKc_up _ _ _ ih
theorem OKc_same {nd nd' : Int} {ar : Bool} {V W : Vf} {hm lo hi hi' : Nat} (hn : nd ≤ nd') (hh : hi ≤ hi') (hs : same3 V W lo hi) : ∀ (f p k : Nat), OKc nd ar V hm lo hi f p k → OKc nd' ar W hm lo hi' f p k
  | 0, _, _, q => q.elim
  | f + 1, p, k, q => by
    obtain ⟨a, b, c, q⟩ := q
    refine ⟨a, by omega, c, ?_⟩
    rw [hs.oc a b, hs.oa a b]
    rcases q with q | ⟨q, r⟩ | ⟨q, z, r⟩ | q | ⟨q, z, r⟩ | ⟨q, z, j, e, r⟩ | ⟨q, j, t, e, z, r, r2⟩ | ⟨q, t, z, r⟩
    · exact Or.inl q
    · exact Or.inr (Or.inl ⟨q, OKc_same hn hh hs f _ _ r⟩)
    · exact Or.inr (Or.inr (Or.inl ⟨q, z, OKc_same hn hh hs f _ _ r⟩))
    · exact Or.inr (Or.inr (Or.inr (Or.inl q)))
    · refine Or.inr (Or.inr (Or.inr (Or.inr (Or.inl ⟨?_, z, OKc_same hn hh hs f _ _ r⟩))))
      unfold wfU at q ⊢
      rw [hs.oc a b, hs.oa a b, hs.ob a b]
      rcases q with q | ⟨q1, q2, q3, q4⟩ | q
      · exact Or.inl q
      · exact Or.inr (Or.inl ⟨q1, q2, by omega, q4⟩)
      · exact Or.inr (Or.inr q)
    · exact Or.inr (Or.inr (Or.inr (Or.inr (Or.inr (Or.inl ⟨q, z, j, e, OKc_same hn hh hs f _ _ r⟩)))))
    · exact Or.inr (Or.inr (Or.inr (Or.inr (Or.inr (Or.inr (Or.inl ⟨q, j, t, e, z, OKc_same hn hh hs f _ _ r, OKc_same hn hh hs f _ _ r2⟩))))))
    · exact Or.inr (Or.inr (Or.inr (Or.inr (Or.inr (Or.inr (Or.inr ⟨q, t, z, OKc_same hn hh hs f _ _ r⟩))))))
theorem OKc_k {nd : Int} {ar : Bool} {V : Vf} {hm lo hi f p k : Nat} (q : OKc nd ar V hm lo hi f p k) : k ≤ hm := by
  cases f with
  | zero => exact q.elim
  | succ f => exact q.2.2.1
theorem wfE_first {nd : Int} {ar : Bool} {V : Vf} : ∀ (f h a b : Nat), wfE nd ar V f h a b → oc V a = 1 ∧ 1 ≤ h
  | 0, _, _, _, q => q.elim
  | f + 1, h, a, b, q => by
    rcases q with ⟨h0, q | q | ⟨m, q, e, u⟩ | ⟨m1, m2, e1, q1, q2, e2, q3, q4, e3⟩⟩ | ⟨m, m2, j, e1, e2, hj, e, q⟩
    · exact ⟨h0, q.2.1⟩
    · exact ⟨h0, (wfE_first f _ _ _ q).2⟩
    · exact ⟨h0, (wfE_first f _ _ _ q).2⟩
    · exact ⟨h0, (wfE_first f _ _ _ e1).2⟩
    · exact wfE_first f _ _ _ e1
/-- what an E's range leaves to be done: all goes well from its end on, so all goes well from its start on -/
theorem wfE_OK {nd : Int} {ar : Bool} {V : Vf} {hm lo hi : Nat} : ∀ (f h a b k g : Nat), wfE nd ar V f h a b → lo ≤ a → b < hi → k + h ≤ hm → OKc nd ar V hm lo hi g b (k + 1) → ∃ g', OKc nd ar V hm lo hi g' a k
  | 0, _, _, _, _, _, q, _, _, _, _ => q.elim
  | f + 1, h, a, b, k, g, q, h1, h2, h3, w => by
    rcases q with ⟨h0, q | q | ⟨m, q, e, u⟩ | ⟨m1, m2, e1, q1, q2, e2, q3, q4, e3⟩⟩ | ⟨m, m2, j, e1, e2, hj, e, q⟩
    · obtain ⟨e, hh, q⟩ := q
      subst e
      refine ⟨g + 2, h1, by omega, by omega, Or.inr (Or.inl ⟨h0, by omega, by omega, by omega, ?_⟩)⟩
      rcases q with q | q | q | q
      · exact Or.inr (Or.inr (Or.inl ⟨Or.inl q, by omega, w⟩))
      · exact Or.inr (Or.inr (Or.inl ⟨Or.inr (Or.inl q), by omega, w⟩))
      · exact Or.inr (Or.inr (Or.inr (Or.inl q)))
      · exact Or.inr (Or.inr (Or.inl ⟨Or.inr (Or.inr q), by omega, w⟩))
    · have l1 := wfE_lt f _ _ _ q
      obtain ⟨g1, r⟩ := wfE_OK f h (a + 1) b k g q (by omega) h2 h3 w
      exact ⟨g1 + 1, h1, by omega, by omega, Or.inr (Or.inl ⟨h0, r⟩)⟩
    · subst e
      have l1 := wfE_lt f _ _ _ q
      have w2 : OKc nd ar V hm lo hi (g + 1) m (k + 1) := ⟨by omega, by omega, OKc_k w, Or.inr (Or.inr (Or.inr (Or.inr (Or.inl ⟨u, by omega, w⟩))))⟩
      obtain ⟨g1, r⟩ := wfE_OK f h (a + 1) m k (g + 1) q (by omega) (by omega) h3 w2
      exact ⟨g1 + 1, h1, by omega, by omega, Or.inr (Or.inl ⟨h0, r⟩)⟩
    · have l1 := wfE_lt f _ _ _ e1
      have l2 := wfE_lt f _ _ _ e2
      have l3 := wfE_lt f _ _ _ e3
      obtain ⟨g3, r3⟩ := wfE_OK f h (m2 + 1) b k g e3 (by omega) h2 h3 w
      have w2 : OKc nd ar V hm lo hi (g + 1) m2 (k + 1) := ⟨by omega, by omega, OKc_k w, Or.inr (Or.inr (Or.inr (Or.inr (Or.inr (Or.inr (Or.inr ⟨q3, b, q4, w⟩))))))⟩
      obtain ⟨g2, r2⟩ := wfE_OK f h (m1 + 1) m2 k (g + 1) e2 (by omega) (by omega) h3 w2
      have w1 : OKc nd ar V hm lo hi (g2 + g3 + 1) m1 (k + 1) := ⟨by omega, by omega, OKc_k w, Or.inr (Or.inr (Or.inr (Or.inr (Or.inr (Or.inr (Or.inl ⟨q1, k, m2 + 1, rfl, by omega, OKc_le r2 (by omega), OKc_le r3 (by omega)⟩))))))⟩
      obtain ⟨g1, r1⟩ := wfE_OK f h (a + 1) m1 k _ e1 (by omega) (by omega) h3 w1
      exact ⟨g1 + 1, h1, by omega, by omega, Or.inr (Or.inl ⟨h0, r1⟩)⟩
    · subst e
      have l1 := wfE_lt f _ _ _ e1
      have l2 := wfE_lt f _ _ _ e2
      have l3 := (wfE_first f _ _ _ e2).2
      have w2 : OKc nd ar V hm lo hi (g + 1) m2 (k + 1 + 1) := ⟨by omega, by omega, by omega, Or.inr (Or.inr (Or.inr (Or.inr (Or.inr (Or.inl ⟨q.1, q.2, k, rfl, w⟩)))))⟩
      obtain ⟨g2, r2⟩ := wfE_OK f j m m2 (k + 1) (g + 1) e2 (by omega) (by omega) (by omega) w2
      exact wfE_OK f h a m k g2 e1 h1 (by omega) h3 r2
/-- more needs -/
theorem wfU_nd {nd nd' : Int} {ar : Bool} {V : Vf} {m : Nat} (hn : nd ≤ nd') (h : wfU nd ar V m) : wfU nd' ar V m := by
  rcases h with h | ⟨h, h1, h2, h3⟩ | h
  · exact Or.inl h
  · exact Or.inr (Or.inl ⟨h, h1, by omega, h3⟩)
  · exact Or.inr (Or.inr h)
theorem wfE_nd {nd nd' : Int} {ar : Bool} {V : Vf} (hn : nd ≤ nd') : ∀ (f h a b : Nat), wfE nd ar V f h a b → wfE nd' ar V f h a b
  | 0, _, _, _, q => q.elim
  | f + 1, h, a, b, q => by
    rcases q with ⟨h0, q | q | ⟨m, q, e, u⟩ | ⟨m1, m2, h1, q1, q2, h2, q3, q4, h3⟩⟩ | ⟨m, m2, j, h1, h2, e⟩
    · exact Or.inl ⟨h0, Or.inl q⟩
    · exact Or.inl ⟨h0, Or.inr (Or.inl (wfE_nd hn f _ _ _ q))⟩
    · exact Or.inl ⟨h0, Or.inr (Or.inr (Or.inl ⟨m, wfE_nd hn f _ _ _ q, e, wfU_nd hn u⟩))⟩
    · exact Or.inl ⟨h0, Or.inr (Or.inr (Or.inr ⟨m1, m2, wfE_nd hn f _ _ _ h1, q1, q2, wfE_nd hn f _ _ _ h2, q3, q4, wfE_nd hn f _ _ _ h3⟩))⟩
    · exact Or.inr ⟨m, m2, j, wfE_nd hn f _ _ _ h1, wfE_nd hn f _ _ _ h2, e⟩
/-- an E as it was laid -/
def CEw (nd : Int) (ar : Bool) (V : Vf) (lo hi a : Nat) : Prop := ∃ h b, WE nd ar V h a b ∧ oc V b = 0 ∧ lo ≤ a ∧ b < hi ∧ h ≤ 28
def CE (nd : Int) (ar : Bool) (V : Vf) (lo hi a : Nat) : Prop := oc V a = 1 ∧ (∃ f, OKc nd ar V 28 lo hi f a 0) ∧ CEw nd ar V lo hi a
theorem WE.CE {nd : Int} {ar : Bool} {V : Vf} {lo hi h a b : Nat} (q : WE nd ar V h a b) (e : oc V b = 0) (h1 : lo ≤ a) (h2 : b < hi) (h3 : h ≤ 28) : CE nd ar V lo hi a := by
  have q0 := q
  obtain ⟨f, q⟩ := q
  have l1 := wfE_lt f _ _ _ q
  have w : OKc nd ar V 28 lo hi 1 b (0 + 1) := ⟨by omega, h2, by omega, Or.inl ⟨e, rfl⟩⟩
  exact ⟨(wfE_first f _ _ _ q).1, wfE_OK f h a b 0 1 q h1 h2 (by omega) w, h, b, q0, e, h1, h2, h3⟩
theorem CE.same {nd nd' : Int} {ar : Bool} {V W : Vf} {lo hi hi' a : Nat} (q : CE nd ar V lo hi a) (hn : nd ≤ nd') (hh : hi ≤ hi') (hs : same3 V W lo hi) : CE nd' ar W lo hi' a := by
  obtain ⟨e, ⟨f, q⟩, h, b, w, w0, w1, w2, w3⟩ := q
  have q2 := OKc_same hn hh hs f a 0 q
  have lb := w.lt
  have ww : WE nd' ar W h a b := by
    obtain ⟨g, wg⟩ := WE.same w (fun i h1 h2 => hs i (by omega) (by omega))
    exact ⟨g, wfE_nd hn g _ _ _ wg⟩
  cases f with
  | zero => exact q.elim
  | succ f => exact ⟨by rw [hs.oc q.1 q.2.1]; exact e, ⟨f + 1, q2⟩, h, b, ww, by rw [hs.oc (by omega) w2]; exact w0, w1, by omega, w3⟩

theorem w1758 : Cond.fieldLink RX12 364 "WiringHouseModel" "inAround" "Z" ∈ GW := gw_k tk9_7 163 (by decide +kernel) rfl
theorem w1757 : Cond.fieldLink RX12 361 "WiringHouseModel" "inComponent" "I" ∈ GW := gw_k tk9_7 162 (by decide +kernel) rfl
theorem dk9_dX12_isPart_0_0 : dOk cX12_isPart [(0, .aload_n 0, 1), (1, .getfield 267, 3), (4, .ifCond .ne 105, 3), (109, .iconst 0, 1), (110, .ireturn, 1), (7, .aload_n 0, 1), (8, .getfield 24, 3), (11, .aload_n 0, 1), (12, .getfield 264, 3), (15, .iaload, 1), (16, .iconst 2, 1), (17, .if_icmp .eq 88, 3), (105, .iconst 1, 1), (106, .goto 4, 3), (20, .aload_n 0, 1), (21, .bipush 40, 2), (23, .invokevirtual 270, 3), (26, .ifCond .ne 79, 3), (29, .aload_n 0, 1), (30, .bipush 45, 2), (32, .invokevirtual 270, 3), (35, .ifCond .ne 70, 3), (38, .aload_n 0, 1), (39, .bipush 15, 2)] = true ∧ dOk cX12_isPart [(41, .invokevirtual 277, 3), (44, .ifCond .ne 61, 3), (47, .aload_n 0, 1), (48, .bipush 16, 2), (50, .invokevirtual 277, 3), (53, .ifCond .ne 52, 3), (56, .aload_n 0, 1), (57, .iconst 2, 1), (58, .invokevirtual 277, 3), (61, .ifCond .ne 44, 3), (64, .aload_n 0, 1), (65, .bipush 17, 2), (67, .invokevirtual 277, 3), (70, .ifCond .ne 35, 3), (73, .aload_n 0, 1), (74, .bipush 18, 2), (76, .invokevirtual 277, 3), (79, .ifCond .eq 10, 3), (89, .aload_n 0, 1), (90, .bipush 19, 2), (92, .invokevirtual 277, 3), (95, .ifCond .eq 14, 3), (98, .aload_n 0, 1), (99, .getfield 364, 3)] = true ∧ dOk cX12_isPart [(102, .ifCond .eq 7, 3), (82, .aload_n 0, 1), (83, .getfield 361, 3), (86, .ifCond .ge 19, 3)] = true := by decide +kernel
theorem dX12_isPart_0 : decode cX12_isPart 0 = .ok (.aload_n 0, 1) := dr9 dk9_dX12_isPart_0_0.1 0 (0, .aload_n 0, 1) rfl
theorem dX12_isPart_1 : decode cX12_isPart 1 = .ok (.getfield 267, 3) := dr9 dk9_dX12_isPart_0_0.1 1 (1, .getfield 267, 3) rfl
theorem dX12_isPart_4 : decode cX12_isPart 4 = .ok (.ifCond .ne 105, 3) := dr9 dk9_dX12_isPart_0_0.1 2 (4, .ifCond .ne 105, 3) rfl
theorem dX12_isPart_109 : decode cX12_isPart 109 = .ok (.iconst 0, 1) := dr9 dk9_dX12_isPart_0_0.1 3 (109, .iconst 0, 1) rfl
theorem dX12_isPart_110 : decode cX12_isPart 110 = .ok (.ireturn, 1) := dr9 dk9_dX12_isPart_0_0.1 4 (110, .ireturn, 1) rfl
theorem dX12_isPart_7 : decode cX12_isPart 7 = .ok (.aload_n 0, 1) := dr9 dk9_dX12_isPart_0_0.1 5 (7, .aload_n 0, 1) rfl
theorem dX12_isPart_8 : decode cX12_isPart 8 = .ok (.getfield 24, 3) := dr9 dk9_dX12_isPart_0_0.1 6 (8, .getfield 24, 3) rfl
theorem dX12_isPart_11 : decode cX12_isPart 11 = .ok (.aload_n 0, 1) := dr9 dk9_dX12_isPart_0_0.1 7 (11, .aload_n 0, 1) rfl
theorem dX12_isPart_12 : decode cX12_isPart 12 = .ok (.getfield 264, 3) := dr9 dk9_dX12_isPart_0_0.1 8 (12, .getfield 264, 3) rfl
theorem dX12_isPart_15 : decode cX12_isPart 15 = .ok (.iaload, 1) := dr9 dk9_dX12_isPart_0_0.1 9 (15, .iaload, 1) rfl
theorem dX12_isPart_16 : decode cX12_isPart 16 = .ok (.iconst 2, 1) := dr9 dk9_dX12_isPart_0_0.1 10 (16, .iconst 2, 1) rfl
theorem dX12_isPart_17 : decode cX12_isPart 17 = .ok (.if_icmp .eq 88, 3) := dr9 dk9_dX12_isPart_0_0.1 11 (17, .if_icmp .eq 88, 3) rfl
theorem dX12_isPart_105 : decode cX12_isPart 105 = .ok (.iconst 1, 1) := dr9 dk9_dX12_isPart_0_0.1 12 (105, .iconst 1, 1) rfl
theorem dX12_isPart_106 : decode cX12_isPart 106 = .ok (.goto 4, 3) := dr9 dk9_dX12_isPart_0_0.1 13 (106, .goto 4, 3) rfl
theorem dX12_isPart_20 : decode cX12_isPart 20 = .ok (.aload_n 0, 1) := dr9 dk9_dX12_isPart_0_0.1 14 (20, .aload_n 0, 1) rfl
theorem dX12_isPart_21 : decode cX12_isPart 21 = .ok (.bipush 40, 2) := dr9 dk9_dX12_isPart_0_0.1 15 (21, .bipush 40, 2) rfl
theorem dX12_isPart_23 : decode cX12_isPart 23 = .ok (.invokevirtual 270, 3) := dr9 dk9_dX12_isPart_0_0.1 16 (23, .invokevirtual 270, 3) rfl
theorem dX12_isPart_26 : decode cX12_isPart 26 = .ok (.ifCond .ne 79, 3) := dr9 dk9_dX12_isPart_0_0.1 17 (26, .ifCond .ne 79, 3) rfl
theorem dX12_isPart_29 : decode cX12_isPart 29 = .ok (.aload_n 0, 1) := dr9 dk9_dX12_isPart_0_0.1 18 (29, .aload_n 0, 1) rfl
theorem dX12_isPart_30 : decode cX12_isPart 30 = .ok (.bipush 45, 2) := dr9 dk9_dX12_isPart_0_0.1 19 (30, .bipush 45, 2) rfl
theorem dX12_isPart_32 : decode cX12_isPart 32 = .ok (.invokevirtual 270, 3) := dr9 dk9_dX12_isPart_0_0.1 20 (32, .invokevirtual 270, 3) rfl
theorem dX12_isPart_35 : decode cX12_isPart 35 = .ok (.ifCond .ne 70, 3) := dr9 dk9_dX12_isPart_0_0.1 21 (35, .ifCond .ne 70, 3) rfl
theorem dX12_isPart_38 : decode cX12_isPart 38 = .ok (.aload_n 0, 1) := dr9 dk9_dX12_isPart_0_0.1 22 (38, .aload_n 0, 1) rfl
theorem dX12_isPart_39 : decode cX12_isPart 39 = .ok (.bipush 15, 2) := dr9 dk9_dX12_isPart_0_0.1 23 (39, .bipush 15, 2) rfl
theorem dX12_isPart_41 : decode cX12_isPart 41 = .ok (.invokevirtual 277, 3) := dr9 dk9_dX12_isPart_0_0.2.1 0 (41, .invokevirtual 277, 3) rfl
theorem dX12_isPart_44 : decode cX12_isPart 44 = .ok (.ifCond .ne 61, 3) := dr9 dk9_dX12_isPart_0_0.2.1 1 (44, .ifCond .ne 61, 3) rfl
theorem dX12_isPart_47 : decode cX12_isPart 47 = .ok (.aload_n 0, 1) := dr9 dk9_dX12_isPart_0_0.2.1 2 (47, .aload_n 0, 1) rfl
theorem dX12_isPart_48 : decode cX12_isPart 48 = .ok (.bipush 16, 2) := dr9 dk9_dX12_isPart_0_0.2.1 3 (48, .bipush 16, 2) rfl
theorem dX12_isPart_50 : decode cX12_isPart 50 = .ok (.invokevirtual 277, 3) := dr9 dk9_dX12_isPart_0_0.2.1 4 (50, .invokevirtual 277, 3) rfl
theorem dX12_isPart_53 : decode cX12_isPart 53 = .ok (.ifCond .ne 52, 3) := dr9 dk9_dX12_isPart_0_0.2.1 5 (53, .ifCond .ne 52, 3) rfl
theorem dX12_isPart_56 : decode cX12_isPart 56 = .ok (.aload_n 0, 1) := dr9 dk9_dX12_isPart_0_0.2.1 6 (56, .aload_n 0, 1) rfl
theorem dX12_isPart_57 : decode cX12_isPart 57 = .ok (.iconst 2, 1) := dr9 dk9_dX12_isPart_0_0.2.1 7 (57, .iconst 2, 1) rfl
theorem dX12_isPart_58 : decode cX12_isPart 58 = .ok (.invokevirtual 277, 3) := dr9 dk9_dX12_isPart_0_0.2.1 8 (58, .invokevirtual 277, 3) rfl
theorem dX12_isPart_61 : decode cX12_isPart 61 = .ok (.ifCond .ne 44, 3) := dr9 dk9_dX12_isPart_0_0.2.1 9 (61, .ifCond .ne 44, 3) rfl
theorem dX12_isPart_64 : decode cX12_isPart 64 = .ok (.aload_n 0, 1) := dr9 dk9_dX12_isPart_0_0.2.1 10 (64, .aload_n 0, 1) rfl
theorem dX12_isPart_65 : decode cX12_isPart 65 = .ok (.bipush 17, 2) := dr9 dk9_dX12_isPart_0_0.2.1 11 (65, .bipush 17, 2) rfl
theorem dX12_isPart_67 : decode cX12_isPart 67 = .ok (.invokevirtual 277, 3) := dr9 dk9_dX12_isPart_0_0.2.1 12 (67, .invokevirtual 277, 3) rfl
theorem dX12_isPart_70 : decode cX12_isPart 70 = .ok (.ifCond .ne 35, 3) := dr9 dk9_dX12_isPart_0_0.2.1 13 (70, .ifCond .ne 35, 3) rfl
theorem dX12_isPart_73 : decode cX12_isPart 73 = .ok (.aload_n 0, 1) := dr9 dk9_dX12_isPart_0_0.2.1 14 (73, .aload_n 0, 1) rfl
theorem dX12_isPart_74 : decode cX12_isPart 74 = .ok (.bipush 18, 2) := dr9 dk9_dX12_isPart_0_0.2.1 15 (74, .bipush 18, 2) rfl
theorem dX12_isPart_76 : decode cX12_isPart 76 = .ok (.invokevirtual 277, 3) := dr9 dk9_dX12_isPart_0_0.2.1 16 (76, .invokevirtual 277, 3) rfl
theorem dX12_isPart_79 : decode cX12_isPart 79 = .ok (.ifCond .eq 10, 3) := dr9 dk9_dX12_isPart_0_0.2.1 17 (79, .ifCond .eq 10, 3) rfl
theorem dX12_isPart_89 : decode cX12_isPart 89 = .ok (.aload_n 0, 1) := dr9 dk9_dX12_isPart_0_0.2.1 18 (89, .aload_n 0, 1) rfl
theorem dX12_isPart_90 : decode cX12_isPart 90 = .ok (.bipush 19, 2) := dr9 dk9_dX12_isPart_0_0.2.1 19 (90, .bipush 19, 2) rfl
theorem dX12_isPart_92 : decode cX12_isPart 92 = .ok (.invokevirtual 277, 3) := dr9 dk9_dX12_isPart_0_0.2.1 20 (92, .invokevirtual 277, 3) rfl
theorem dX12_isPart_95 : decode cX12_isPart 95 = .ok (.ifCond .eq 14, 3) := dr9 dk9_dX12_isPart_0_0.2.1 21 (95, .ifCond .eq 14, 3) rfl
theorem dX12_isPart_98 : decode cX12_isPart 98 = .ok (.aload_n 0, 1) := dr9 dk9_dX12_isPart_0_0.2.1 22 (98, .aload_n 0, 1) rfl
theorem dX12_isPart_99 : decode cX12_isPart 99 = .ok (.getfield 364, 3) := dr9 dk9_dX12_isPart_0_0.2.1 23 (99, .getfield 364, 3) rfl
theorem dX12_isPart_102 : decode cX12_isPart 102 = .ok (.ifCond .eq 7, 3) := dr9 dk9_dX12_isPart_0_0.2.2 0 (102, .ifCond .eq 7, 3) rfl
theorem dX12_isPart_82 : decode cX12_isPart 82 = .ok (.aload_n 0, 1) := dr9 dk9_dX12_isPart_0_0.2.2 1 (82, .aload_n 0, 1) rfl
theorem dX12_isPart_83 : decode cX12_isPart 83 = .ok (.getfield 361, 3) := dr9 dk9_dX12_isPart_0_0.2.2 2 (83, .getfield 361, 3) rfl
theorem dX12_isPart_86 : decode cX12_isPart 86 = .ok (.ifCond .ge 19, 3) := dr9 dk9_dX12_isPart_0_0.2.2 3 (86, .ifCond .ge 19, 3) rfl
abbrev r_s_isPart : Room := { frames := 1, cells := 0, slots := 0, locals := 21 }
abbrev q_s_isPart (D : va_G) (ks : KS) (ad : Nat → Nat) (kk : Nat → ClassId) (V : Vf) (L : Lf) (n : Nat) (A : Nat → Prop) : Array Value → State → Outcome → State → Prop := va_Qi (fun (r : Int32) (_ : Unit) => (0 ≤ r.toInt ∧ r.toInt ≤ 1) ∧ (Imp (r.toInt = 1) ((V 0 8).toInt = 0 ∧ 0 ≤ (V 0 7).toInt ∧ (V 0 7).toInt < n))) (fun _ t => gq D A (mw ad kk ks.1 V L) (mty kk) t) A
end
section
/-- one order was laid at A, nothing else of the code has changed -/
def emitted (V W : Vf) (A : Nat) (a b c : Int32) : Prop := (W 45 A = a ∧ W 46 A = b ∧ W 47 A = c) ∧ ∀ i, i ≠ A → W 45 i = V 45 i ∧ W 46 i = V 46 i ∧ W 47 i = V 47 i
theorem emit_w {V V1 V2 V3 V4 : Vf} {z1 z2 z3 a b c v : Int32} {S : Int} (h1 : V1 = up2 V 45 (Int32.toNatClampNeg z1) a) (h2 : V2 = up2 V1 46 (Int32.toNatClampNeg z2) b) (h3 : V3 = up2 V2 47 (Int32.toNatClampNeg z3) c) (h4 : V4 = up2 V3 0 48 v) (e1 : z1.toInt = S) (e2 : z2.toInt = S) (e3 : z3.toInt = S) : emitted V V4 S.toNat a b c := by
  have k1 : Int32.toNatClampNeg z1 = S.toNat := by rw [← e1]; rfl
  have k2 : Int32.toNatClampNeg z2 = S.toNat := by rw [← e2]; rfl
  have k3 : Int32.toNatClampNeg z3 = S.toNat := by rw [← e3]; rfl
  rw [k1] at h1
  rw [k2] at h2
  rw [k3] at h3
  refine ⟨⟨?_, ?_, ?_⟩, fun i hi => ⟨?_, ?_, ?_⟩⟩
  · exact (up2_o h4 (by decide)).trans ((up2_o h3 (by decide)).trans ((up2_o h2 (by decide)).trans (up2_s h1)))
  · exact (up2_o h4 (by decide)).trans ((up2_o h3 (by decide)).trans (up2_s h2))
  · exact (up2_o h4 (by decide)).trans (up2_s h3)
  · exact (up2_o h4 (by decide)).trans ((up2_o h3 (by decide)).trans ((up2_o h2 (by decide)).trans (up2_k h1 hi)))
  · exact (up2_o h4 (by decide)).trans ((up2_o h3 (by decide)).trans ((up2_k h2 hi).trans (up2_o h1 (by decide))))
  · exact (up2_o h4 (by decide)).trans ((up2_k h3 hi).trans ((up2_o h2 (by decide)).trans (up2_o h1 (by decide))))
theorem emitted.same {V W : Vf} {A x y : Nat} {a b c : Int32} (h : emitted V W A a b c) (hy : y ≤ A ∨ A < x) : same3 V W x y := fun i h1 h2 => h.2 i (by omega)
/-- nothing of the code has changed but from a to b -/
def sameX (V W : Vf) (a b : Nat) : Prop := ∀ i, i < a ∨ b ≤ i → W 45 i = V 45 i ∧ W 46 i = V 46 i ∧ W 47 i = V 47 i
theorem sameX.rf {V : Vf} {a b : Nat} : sameX V V a b := fun _ _ => ⟨rfl, rfl, rfl⟩
theorem sameX.tr {V W X : Vf} {a b a' : Nat} (h : sameX V W a b) (h2 : sameX W X a' b) (ha : a ≤ a') : sameX V X a b := fun i hi =>
  have q := h i hi
  have r := h2 i (by omega)
  ⟨r.1.trans q.1, r.2.1.trans q.2.1, r.2.2.trans q.2.2⟩
theorem sameX.agr {fs : List (Nat × Nat)} {cs : List Nat} {V W : Vf} {a b : Nat} (h : agr fs cs V W) (h1 : ∀ k, wrL fs cs 45 k = false) (h2 : ∀ k, wrL fs cs 46 k = false) (h3 : ∀ k, wrL fs cs 47 k = false) : sameX V W a b := fun i _ => ⟨h _ _ (h1 i), h _ _ (h2 i), h _ _ (h3 i)⟩
theorem emitted.X {V W : Vf} {A a' b' : Nat} {a b c : Int32} (h : emitted V W A a b c) (h1 : a' ≤ A) (h2 : A < b') : sameX V W a' b' := fun i hi => h.2 i (by omega)
theorem sameX.three {V W : Vf} {a b x y : Nat} (h : sameX V W a b) (hy : y ≤ a ∨ b ≤ x) : same3 V W x y := fun i h1 h2 => h i (by omega)


abbrev r_s_emit2 : Room := { frames := 0, cells := 0, slots := 0, locals := 0 }
abbrev q_s_emit2 (D : va_G) (ks : KS) (ad : Nat → Nat) (kk : Nat → ClassId) (V : Vf) (L : Lf) (p0 : Int32) (p1 : Int32) (p2 : Int32) (A : Nat → Prop) : Array Value → State → Outcome → State → Prop := va_Qi (fun (r : Int32) (u : Vf × Lf) => rgd bM u.1 ∧ agr [(0, 48)] [45, 46, 47] V u.1 ∧ u.2 = L ∧ (0 ≤ r.toInt ∧ r.toInt ≤ 20000) ∧ ((u.1 0 48).toInt = (V 0 48).toInt + 1) ∧ (r.toInt = (V 0 49).toInt + (V 0 48).toInt) ∧ (emitted V u.1 (((V 0 49).toInt + (V 0 48).toInt).toNat) p0 p1 p2)) (fun u t => gq D A (mw ad kk ks.1 u.1 u.2) (mty kk) t) A
end
