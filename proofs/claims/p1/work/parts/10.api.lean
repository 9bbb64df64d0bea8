theorem w753 : Cond.code yX9_append cX9_append 6 none ∈ GW := gw_mem 753 (by decide +kernel) rfl
theorem w750 : Cond.methodLink RX11 65 yX9_append ∈ GW := gw_mem 750 (by decide +kernel) rfl
theorem w751 : Cond.instanceMethod yX9_append ∈ GW := gw_mem 751 (by decide +kernel) rfl
theorem w752 : Cond.selects RX9 yX9_append yX9_append ∈ GW := gw_mem 752 (by decide +kernel) rfl
theorem hdV_yX9_append : yX9_append.cls = RX9 ∧ yX9_append.cls ≠ "java/lang/invoke/MethodHandle" ∧ yX9_append.cls ≠ "java/lang/invoke/VarHandle" ∧ (parseMethodDescriptor yX9_append.desc).map (fun d => d.parameters.length) = some 1 := by decide +kernel
theorem n257 : lw_tbl[257]? = some (Cond.fieldLinkNest RX11 69 "WiringHouse$Tape" "length" "I" "WiringHouse") := by decide +kernel
theorem w761 : Cond.code yX1_read cX1_read 4 (some .int) ∈ GW := gw_mem 761 (by decide +kernel) rfl
theorem w758 : Cond.methodLink RX11 73 yX1_read ∈ GW := gw_mem 758 (by decide +kernel) rfl
theorem w759 : Cond.instanceMethod yX1_read ∈ GW := gw_mem 759 (by decide +kernel) rfl
theorem w760 : Cond.selects RX1 yX1_read yX1_read ∈ GW := gw_mem 760 (by decide +kernel) rfl
theorem hdV_yX1_read : yX1_read.cls = RX1 ∧ yX1_read.cls ≠ "java/lang/invoke/MethodHandle" ∧ yX1_read.cls ≠ "java/lang/invoke/VarHandle" ∧ (parseMethodDescriptor yX1_read.desc).map (fun d => d.parameters.length) = some 1 := by decide +kernel
theorem w1022 : Cond.code yX9_empty cX9_empty 1 none ∈ GW := gw_mem 1022 (by decide +kernel) rfl
theorem w1019 : Cond.methodLink RX11 77 yX9_empty ∈ GW := gw_mem 1019 (by decide +kernel) rfl
theorem w1020 : Cond.instanceMethod yX9_empty ∈ GW := gw_mem 1020 (by decide +kernel) rfl
theorem w1021 : Cond.selects RX9 yX9_empty yX9_empty ∈ GW := gw_mem 1021 (by decide +kernel) rfl
theorem hdV_yX9_empty : yX9_empty.cls = RX9 ∧ yX9_empty.cls ≠ "java/lang/invoke/MethodHandle" ∧ yX9_empty.cls ≠ "java/lang/invoke/VarHandle" ∧ (parseMethodDescriptor yX9_empty.desc).map (fun d => d.parameters.length) = some 0 := by decide +kernel
theorem w1026 : Cond.code yX8_clear cX8_clear 2 none ∈ GW := gw_mem 1026 (by decide +kernel) rfl
theorem w1023 : Cond.methodLink RX11 80 yX8_clear ∈ GW := gw_mem 1023 (by decide +kernel) rfl
theorem w1024 : Cond.instanceMethod yX8_clear ∈ GW := gw_mem 1024 (by decide +kernel) rfl
theorem w1025 : Cond.selects RX8 yX8_clear yX8_clear ∈ GW := gw_mem 1025 (by decide +kernel) rfl
theorem hdV_yX8_clear : yX8_clear.cls = RX8 ∧ yX8_clear.cls ≠ "java/lang/invoke/MethodHandle" ∧ yX8_clear.cls ≠ "java/lang/invoke/VarHandle" ∧ (parseMethodDescriptor yX8_clear.desc).map (fun d => d.parameters.length) = some 0 := by decide +kernel
theorem w1034 : Cond.code yX7_clear cX7_clear 1 none ∈ GW := gw_mem 1034 (by decide +kernel) rfl
theorem w1031 : Cond.methodLink RX11 83 yX7_clear ∈ GW := gw_mem 1031 (by decide +kernel) rfl
theorem w1032 : Cond.instanceMethod yX7_clear ∈ GW := gw_mem 1032 (by decide +kernel) rfl
theorem w1033 : Cond.selects RX7 yX7_clear yX7_clear ∈ GW := gw_mem 1033 (by decide +kernel) rfl
theorem hdV_yX7_clear : yX7_clear.cls = RX7 ∧ yX7_clear.cls ≠ "java/lang/invoke/MethodHandle" ∧ yX7_clear.cls ≠ "java/lang/invoke/VarHandle" ∧ (parseMethodDescriptor yX7_clear.desc).map (fun d => d.parameters.length) = some 0 := by decide +kernel
theorem w1038 : Cond.code yX2_clear cX2_clear 1 none ∈ GW := gw_mem 1038 (by decide +kernel) rfl
theorem w1035 : Cond.methodLink RX11 84 yX2_clear ∈ GW := gw_mem 1035 (by decide +kernel) rfl
theorem w1036 : Cond.instanceMethod yX2_clear ∈ GW := gw_mem 1036 (by decide +kernel) rfl
theorem w1037 : Cond.selects RX2 yX2_clear yX2_clear ∈ GW := gw_mem 1037 (by decide +kernel) rfl
theorem hdV_yX2_clear : yX2_clear.cls = RX2 ∧ yX2_clear.cls ≠ "java/lang/invoke/MethodHandle" ∧ yX2_clear.cls ≠ "java/lang/invoke/VarHandle" ∧ (parseMethodDescriptor yX2_clear.desc).map (fun d => d.parameters.length) = some 0 := by decide +kernel
theorem w1042 : Cond.code yX5_takeBook cX5_takeBook 2 none ∈ GW := gw_mem 1042 (by decide +kernel) rfl
theorem w1039 : Cond.methodLink RX11 85 yX5_takeBook ∈ GW := gw_mem 1039 (by decide +kernel) rfl
theorem w1040 : Cond.instanceMethod yX5_takeBook ∈ GW := gw_mem 1040 (by decide +kernel) rfl
theorem w1041 : Cond.selects RX5 yX5_takeBook yX5_takeBook ∈ GW := gw_mem 1041 (by decide +kernel) rfl
theorem hdV_yX5_takeBook : yX5_takeBook.cls = RX5 ∧ yX5_takeBook.cls ≠ "java/lang/invoke/MethodHandle" ∧ yX5_takeBook.cls ≠ "java/lang/invoke/VarHandle" ∧ (parseMethodDescriptor yX5_takeBook.desc).map (fun d => d.parameters.length) = some 1 := by decide +kernel
theorem w723 : Cond.fieldLink RX11 89 "WiringHouse" "ready" "Z" ∈ GW := gw_mem 723 (by decide +kernel) rfl
theorem w1051 : Cond.methodLink RX11 96 yX9_begin ∈ GW := gw_mem 1051 (by decide +kernel) rfl
theorem n263 : lw_tbl[263]? = some (Cond.fieldLinkNest RX11 99 "WiringHouse$Tape" "kind" "I" "WiringHouse") := by decide +kernel
theorem n267 : lw_tbl[267]? = some (Cond.fieldLinkNest RX11 102 "WiringHouse$Tape" "value" "J" "WiringHouse") := by decide +kernel
theorem w1052 : Cond.methodLink RX11 106 yX9_next ∈ GW := gw_mem 1052 (by decide +kernel) rfl
theorem n598 : lw_tbl[598]? = some (Cond.fieldLinkNest RX11 113 "WiringHouse$Book" "settings" "LWiringHouse$Names;" "WiringHouse") := by decide +kernel
theorem n483 : lw_tbl[483]? = some (Cond.fieldLinkNest RX11 117 "WiringHouse$Names" "size" "I" "WiringHouse") := by decide +kernel
theorem w1068 : Cond.code yX2_examine cX2_examine 3 (some .int) ∈ GW := gw_mem 1068 (by decide +kernel) rfl
theorem w1065 : Cond.methodLink RX11 126 yX2_examine ∈ GW := gw_mem 1065 (by decide +kernel) rfl
theorem w1066 : Cond.instanceMethod yX2_examine ∈ GW := gw_mem 1066 (by decide +kernel) rfl
theorem w1067 : Cond.selects RX2 yX2_examine yX2_examine ∈ GW := gw_mem 1067 (by decide +kernel) rfl
theorem hdV_yX2_examine : yX2_examine.cls = RX2 ∧ yX2_examine.cls ≠ "java/lang/invoke/MethodHandle" ∧ yX2_examine.cls ≠ "java/lang/invoke/VarHandle" ∧ (parseMethodDescriptor yX2_examine.desc).map (fun d => d.parameters.length) = some 1 := by decide +kernel
theorem w1120 : Cond.code yX2_tell cX2_tell 3 (some .int) ∈ GW := gw_mem 1120 (by decide +kernel) rfl
theorem w1117 : Cond.methodLink RX11 129 yX2_tell ∈ GW := gw_mem 1117 (by decide +kernel) rfl
theorem w1118 : Cond.instanceMethod yX2_tell ∈ GW := gw_mem 1118 (by decide +kernel) rfl
theorem w1119 : Cond.selects RX2 yX2_tell yX2_tell ∈ GW := gw_mem 1119 (by decide +kernel) rfl
theorem hdV_yX2_tell : yX2_tell.cls = RX2 ∧ yX2_tell.cls ≠ "java/lang/invoke/MethodHandle" ∧ yX2_tell.cls ≠ "java/lang/invoke/VarHandle" ∧ (parseMethodDescriptor yX2_tell.desc).map (fun d => d.parameters.length) = some 2 := by decide +kernel
theorem w1132 : Cond.code yX2_onRing cX2_onRing 4 (some .int) ∈ GW := gw_mem 1132 (by decide +kernel) rfl
theorem w1129 : Cond.methodLink RX11 133 yX2_onRing ∈ GW := gw_mem 1129 (by decide +kernel) rfl
theorem w1130 : Cond.instanceMethod yX2_onRing ∈ GW := gw_mem 1130 (by decide +kernel) rfl
theorem w1131 : Cond.selects RX2 yX2_onRing yX2_onRing ∈ GW := gw_mem 1131 (by decide +kernel) rfl
theorem hdV_yX2_onRing : yX2_onRing.cls = RX2 ∧ yX2_onRing.cls ≠ "java/lang/invoke/MethodHandle" ∧ yX2_onRing.cls ≠ "java/lang/invoke/VarHandle" ∧ (parseMethodDescriptor yX2_onRing.desc).map (fun d => d.parameters.length) = some 2 := by decide +kernel
theorem w1140 : Cond.code yX0_has cX0_has 2 (some .boolean) ∈ GW := gw_mem 1140 (by decide +kernel) rfl
theorem w1137 : Cond.methodLink RX11 136 yX0_has ∈ GW := gw_mem 1137 (by decide +kernel) rfl
theorem w1138 : Cond.instanceMethod yX0_has ∈ GW := gw_mem 1138 (by decide +kernel) rfl
theorem w1139 : Cond.selects RX0 yX0_has yX0_has ∈ GW := gw_mem 1139 (by decide +kernel) rfl
theorem hdV_yX0_has : yX0_has.cls = RX0 ∧ yX0_has.cls ≠ "java/lang/invoke/MethodHandle" ∧ yX0_has.cls ≠ "java/lang/invoke/VarHandle" ∧ (parseMethodDescriptor yX0_has.desc).map (fun d => d.parameters.length) = some 1 := by decide +kernel
theorem w1161 : Cond.code yX8_isOpen cX8_isOpen 2 (some .boolean) ∈ GW := gw_mem 1161 (by decide +kernel) rfl
theorem w1158 : Cond.methodLink RX11 182 yX8_isOpen ∈ GW := gw_mem 1158 (by decide +kernel) rfl
theorem w1159 : Cond.instanceMethod yX8_isOpen ∈ GW := gw_mem 1159 (by decide +kernel) rfl
theorem w1160 : Cond.selects RX8 yX8_isOpen yX8_isOpen ∈ GW := gw_mem 1160 (by decide +kernel) rfl
theorem hdV_yX8_isOpen : yX8_isOpen.cls = RX8 ∧ yX8_isOpen.cls ≠ "java/lang/invoke/MethodHandle" ∧ yX8_isOpen.cls ≠ "java/lang/invoke/VarHandle" ∧ (parseMethodDescriptor yX8_isOpen.desc).map (fun d => d.parameters.length) = some 1 := by decide +kernel
theorem n374 : lw_tbl[374]? = some (Cond.fieldLinkNest RX11 185 "WiringHouse$Stock" "scopeKinds" "[I" "WiringHouse") := by decide +kernel
theorem w1169 : Cond.code yX7_noteCause cX7_noteCause 3 none ∈ GW := gw_mem 1169 (by decide +kernel) rfl
theorem w1166 : Cond.methodLink RX11 188 yX7_noteCause ∈ GW := gw_mem 1166 (by decide +kernel) rfl
theorem w1167 : Cond.instanceMethod yX7_noteCause ∈ GW := gw_mem 1167 (by decide +kernel) rfl
theorem w1168 : Cond.selects RX7 yX7_noteCause yX7_noteCause ∈ GW := gw_mem 1168 (by decide +kernel) rfl
theorem hdV_yX7_noteCause : yX7_noteCause.cls = RX7 ∧ yX7_noteCause.cls ≠ "java/lang/invoke/MethodHandle" ∧ yX7_noteCause.cls ≠ "java/lang/invoke/VarHandle" ∧ (parseMethodDescriptor yX7_noteCause.desc).map (fun d => d.parameters.length) = some 2 := by decide +kernel
theorem w1170 : Cond.methodLink RX11 192 yX5_restart ∈ GW := gw_mem 1170 (by decide +kernel) rfl
theorem w1174 : Cond.code yX11_ends cX11_ends 3 (some .int) ∈ GW := gw_mem 1174 (by decide +kernel) rfl
theorem w1171 : Cond.methodLink RX11 195 yX11_ends ∈ GW := gw_mem 1171 (by decide +kernel) rfl
theorem w1173 : Cond.instanceMethod yX11_ends ∈ GW := gw_mem 1173 (by decide +kernel) rfl
theorem w42 : Cond.selects RX11 yX11_ends yX11_ends ∈ GW := gw_mem 42 (by decide +kernel) rfl
theorem w156 : Cond.initialized RX11 ∈ GW := gw_mem 156 (by decide +kernel) rfl
theorem hdV_yX11_ends : yX11_ends.cls = RX11 ∧ yX11_ends.cls ≠ "java/lang/invoke/MethodHandle" ∧ yX11_ends.cls ≠ "java/lang/invoke/VarHandle" ∧ (parseMethodDescriptor yX11_ends.desc).map (fun d => d.parameters.length) = some 2 := by decide +kernel
theorem w1517 : Cond.code yX7_forgetThings cX7_forgetThings 1 none ∈ GW := gw_mem 1517 (by decide +kernel) rfl
theorem w1514 : Cond.methodLink RX11 212 yX7_forgetThings ∈ GW := gw_mem 1514 (by decide +kernel) rfl
theorem w1515 : Cond.instanceMethod yX7_forgetThings ∈ GW := gw_mem 1515 (by decide +kernel) rfl
theorem w1516 : Cond.selects RX7 yX7_forgetThings yX7_forgetThings ∈ GW := gw_mem 1516 (by decide +kernel) rfl
theorem hdV_yX7_forgetThings : yX7_forgetThings.cls = RX7 ∧ yX7_forgetThings.cls ≠ "java/lang/invoke/MethodHandle" ∧ yX7_forgetThings.cls ≠ "java/lang/invoke/VarHandle" ∧ (parseMethodDescriptor yX7_forgetThings.desc).map (fun d => d.parameters.length) = some 0 := by decide +kernel
theorem w1299 : Cond.code yX8_isMade cX8_isMade 2 (some .boolean) ∈ GW := gw_mem 1299 (by decide +kernel) rfl
theorem w1518 : Cond.methodLink RX11 215 yX8_isMade ∈ GW := gw_mem 1518 (by decide +kernel) rfl
theorem w1297 : Cond.instanceMethod yX8_isMade ∈ GW := gw_mem 1297 (by decide +kernel) rfl
theorem w1298 : Cond.selects RX8 yX8_isMade yX8_isMade ∈ GW := gw_mem 1298 (by decide +kernel) rfl
theorem hdV_yX8_isMade : yX8_isMade.cls = RX8 ∧ yX8_isMade.cls ≠ "java/lang/invoke/MethodHandle" ∧ yX8_isMade.cls ≠ "java/lang/invoke/VarHandle" ∧ (parseMethodDescriptor yX8_isMade.desc).map (fun d => d.parameters.length) = some 1 := by decide +kernel
theorem w1527 : Cond.code yX8_innermost cX8_innermost 4 (some .int) ∈ GW := gw_mem 1527 (by decide +kernel) rfl
theorem w1524 : Cond.methodLink RX11 228 yX8_innermost ∈ GW := gw_mem 1524 (by decide +kernel) rfl
theorem w1525 : Cond.instanceMethod yX8_innermost ∈ GW := gw_mem 1525 (by decide +kernel) rfl
theorem w1526 : Cond.selects RX8 yX8_innermost yX8_innermost ∈ GW := gw_mem 1526 (by decide +kernel) rfl
theorem hdV_yX8_innermost : yX8_innermost.cls = RX8 ∧ yX8_innermost.cls ≠ "java/lang/invoke/MethodHandle" ∧ yX8_innermost.cls ≠ "java/lang/invoke/VarHandle" ∧ (parseMethodDescriptor yX8_innermost.desc).map (fun d => d.parameters.length) = some 1 := by decide +kernel
theorem w1535 : Cond.code yX8_latestMade cX8_latestMade 5 (some .int) ∈ GW := gw_mem 1535 (by decide +kernel) rfl
theorem w1532 : Cond.methodLink RX11 231 yX8_latestMade ∈ GW := gw_mem 1532 (by decide +kernel) rfl
theorem w1533 : Cond.instanceMethod yX8_latestMade ∈ GW := gw_mem 1533 (by decide +kernel) rfl
theorem w1534 : Cond.selects RX8 yX8_latestMade yX8_latestMade ∈ GW := gw_mem 1534 (by decide +kernel) rfl
theorem hdV_yX8_latestMade : yX8_latestMade.cls = RX8 ∧ yX8_latestMade.cls ≠ "java/lang/invoke/MethodHandle" ∧ yX8_latestMade.cls ≠ "java/lang/invoke/VarHandle" ∧ (parseMethodDescriptor yX8_latestMade.desc).map (fun d => d.parameters.length) = some 1 := by decide +kernel
theorem w1541 : Cond.methodLink RX11 241 yX8_shut ∈ GW := gw_mem 1541 (by decide +kernel) rfl
theorem w1545 : Cond.code yX8_reopenHouse cX8_reopenHouse 1 none ∈ GW := gw_mem 1545 (by decide +kernel) rfl
theorem w1542 : Cond.methodLink RX11 245 yX8_reopenHouse ∈ GW := gw_mem 1542 (by decide +kernel) rfl
theorem w1543 : Cond.instanceMethod yX8_reopenHouse ∈ GW := gw_mem 1543 (by decide +kernel) rfl
theorem w1544 : Cond.selects RX8 yX8_reopenHouse yX8_reopenHouse ∈ GW := gw_mem 1544 (by decide +kernel) rfl
theorem hdV_yX8_reopenHouse : yX8_reopenHouse.cls = RX8 ∧ yX8_reopenHouse.cls ≠ "java/lang/invoke/MethodHandle" ∧ yX8_reopenHouse.cls ≠ "java/lang/invoke/VarHandle" ∧ (parseMethodDescriptor yX8_reopenHouse.desc).map (fun d => d.parameters.length) = some 0 := by decide +kernel
theorem w1557 : Cond.code yX7_kindOfCause cX7_kindOfCause 2 (some .int) ∈ GW := gw_mem 1557 (by decide +kernel) rfl
theorem w1554 : Cond.methodLink RX11 248 yX7_kindOfCause ∈ GW := gw_mem 1554 (by decide +kernel) rfl
theorem w1555 : Cond.instanceMethod yX7_kindOfCause ∈ GW := gw_mem 1555 (by decide +kernel) rfl
theorem w1556 : Cond.selects RX7 yX7_kindOfCause yX7_kindOfCause ∈ GW := gw_mem 1556 (by decide +kernel) rfl
theorem hdV_yX7_kindOfCause : yX7_kindOfCause.cls = RX7 ∧ yX7_kindOfCause.cls ≠ "java/lang/invoke/MethodHandle" ∧ yX7_kindOfCause.cls ≠ "java/lang/invoke/VarHandle" ∧ (parseMethodDescriptor yX7_kindOfCause.desc).map (fun d => d.parameters.length) = some 1 := by decide +kernel
theorem w1442 : Cond.code yX8_joinedTo cX8_joinedTo 6 (some .int) ∈ GW := gw_mem 1442 (by decide +kernel) rfl
theorem w1562 : Cond.methodLink RX11 264 yX8_joinedTo ∈ GW := gw_mem 1562 (by decide +kernel) rfl
theorem w1440 : Cond.instanceMethod yX8_joinedTo ∈ GW := gw_mem 1440 (by decide +kernel) rfl
theorem w1441 : Cond.selects RX8 yX8_joinedTo yX8_joinedTo ∈ GW := gw_mem 1441 (by decide +kernel) rfl
theorem hdV_yX8_joinedTo : yX8_joinedTo.cls = RX8 ∧ yX8_joinedTo.cls ≠ "java/lang/invoke/MethodHandle" ∧ yX8_joinedTo.cls ≠ "java/lang/invoke/VarHandle" ∧ (parseMethodDescriptor yX8_joinedTo.desc).map (fun d => d.parameters.length) = some 3 := by decide +kernel
theorem w1570 : Cond.code yX7_ofClosing cX7_ofClosing 3 (some .int) ∈ GW := gw_mem 1570 (by decide +kernel) rfl
theorem w1567 : Cond.methodLink RX11 268 yX7_ofClosing ∈ GW := gw_mem 1567 (by decide +kernel) rfl
theorem w1568 : Cond.instanceMethod yX7_ofClosing ∈ GW := gw_mem 1568 (by decide +kernel) rfl
theorem w1569 : Cond.selects RX7 yX7_ofClosing yX7_ofClosing ∈ GW := gw_mem 1569 (by decide +kernel) rfl
theorem hdV_yX7_ofClosing : yX7_ofClosing.cls = RX7 ∧ yX7_ofClosing.cls ≠ "java/lang/invoke/MethodHandle" ∧ yX7_ofClosing.cls ≠ "java/lang/invoke/VarHandle" ∧ (parseMethodDescriptor yX7_ofClosing.desc).map (fun d => d.parameters.length) = some 2 := by decide +kernel
theorem w1584 : Cond.code yX7_ofThing cX7_ofThing 3 (some .int) ∈ GW := gw_mem 1584 (by decide +kernel) rfl
theorem w1581 : Cond.methodLink RX11 278 yX7_ofThing ∈ GW := gw_mem 1581 (by decide +kernel) rfl
theorem w1582 : Cond.instanceMethod yX7_ofThing ∈ GW := gw_mem 1582 (by decide +kernel) rfl
theorem w1583 : Cond.selects RX7 yX7_ofThing yX7_ofThing ∈ GW := gw_mem 1583 (by decide +kernel) rfl
theorem hdV_yX7_ofThing : yX7_ofThing.cls = RX7 ∧ yX7_ofThing.cls ≠ "java/lang/invoke/MethodHandle" ∧ yX7_ofThing.cls ≠ "java/lang/invoke/VarHandle" ∧ (parseMethodDescriptor yX7_ofThing.desc).map (fun d => d.parameters.length) = some 2 := by decide +kernel
theorem n595 : lw_tbl[595]? = some (Cond.fieldLinkNest RX11 281 "WiringHouse$Book" "types" "LWiringHouse$Names;" "WiringHouse") := by decide +kernel
theorem n602 : lw_tbl[602]? = some (Cond.fieldLinkNest RX11 284 "WiringHouse$Book" "names" "LWiringHouse$Names;" "WiringHouse") := by decide +kernel
theorem n604 : lw_tbl[604]? = some (Cond.fieldLinkNest RX11 218 "WiringHouse$Book" "methods" "LWiringHouse$Names;" "WiringHouse") := by decide +kernel
theorem n627 : lw_tbl[627]? = some (Cond.fieldLinkNest RX11 287 "WiringHouse$Book" "wrapCount" "I" "WiringHouse") := by decide +kernel
theorem w1592 : Cond.code yX8_openScopes cX8_openScopes 3 (some .int) ∈ GW := gw_mem 1592 (by decide +kernel) rfl
theorem w1589 : Cond.methodLink RX11 290 yX8_openScopes ∈ GW := gw_mem 1589 (by decide +kernel) rfl
theorem w1590 : Cond.instanceMethod yX8_openScopes ∈ GW := gw_mem 1590 (by decide +kernel) rfl
theorem w1591 : Cond.selects RX8 yX8_openScopes yX8_openScopes ∈ GW := gw_mem 1591 (by decide +kernel) rfl
theorem hdV_yX8_openScopes : yX8_openScopes.cls = RX8 ∧ yX8_openScopes.cls ≠ "java/lang/invoke/MethodHandle" ∧ yX8_openScopes.cls ≠ "java/lang/invoke/VarHandle" ∧ (parseMethodDescriptor yX8_openScopes.desc).map (fun d => d.parameters.length) = some 0 := by decide +kernel
theorem n392 : lw_tbl[392]? = some (Cond.fieldLinkNest RX11 293 "WiringHouse$Stock" "objectCount" "I" "WiringHouse") := by decide +kernel
theorem w1596 : Cond.code yX8_madeObjects cX8_madeObjects 3 (some .int) ∈ GW := gw_mem 1596 (by decide +kernel) rfl
theorem w1593 : Cond.methodLink RX11 296 yX8_madeObjects ∈ GW := gw_mem 1593 (by decide +kernel) rfl
theorem w1594 : Cond.instanceMethod yX8_madeObjects ∈ GW := gw_mem 1594 (by decide +kernel) rfl
theorem w1595 : Cond.selects RX8 yX8_madeObjects yX8_madeObjects ∈ GW := gw_mem 1595 (by decide +kernel) rfl
theorem hdV_yX8_madeObjects : yX8_madeObjects.cls = RX8 ∧ yX8_madeObjects.cls ≠ "java/lang/invoke/MethodHandle" ∧ yX8_madeObjects.cls ≠ "java/lang/invoke/VarHandle" ∧ (parseMethodDescriptor yX8_madeObjects.desc).map (fun d => d.parameters.length) = some 0 := by decide +kernel
theorem n683 : lw_tbl[683]? = some (Cond.fieldLinkNest RX11 299 "WiringHouse$Machine" "stepsInAll" "I" "WiringHouse") := by decide +kernel
theorem n681 : lw_tbl[681]? = some (Cond.fieldLinkNest RX11 302 "WiringHouse$Machine" "stepsNow" "I" "WiringHouse") := by decide +kernel
theorem n346 : lw_tbl[346]? = some (Cond.fieldLinkNest RX11 305 "WiringHouse$Checker" "faults" "I" "WiringHouse") := by decide +kernel
theorem dX9_append_0 : decode cX9_append 0 = .ok (.bipush 56, 2) := by decide +kernel
theorem dX9_append_2 : decode cX9_append 2 = .ok (.istore_n 3, 1) := by decide +kernel
theorem dX9_append_3 : decode cX9_append 3 = .ok (.iload_n 3, 1) := by decide +kernel
theorem dX9_append_4 : decode cX9_append 4 = .ok (.ifCond .lt 81, 3) := by decide +kernel
theorem dX9_append_85 : decode cX9_append 85 = .ok (.return_, 1) := by decide +kernel
theorem dX9_append_7 : decode cX9_append 7 = .ok (.lload_n 1, 1) := by decide +kernel
theorem dX9_append_8 : decode cX9_append 8 = .ok (.iload_n 3, 1) := by decide +kernel
theorem dX9_append_9 : decode cX9_append 9 = .ok (.lushr, 1) := by decide +kernel
theorem dX9_append_10 : decode cX9_append 10 = .ok (.l2i, 1) := by decide +kernel
theorem dX9_append_11 : decode cX9_append 11 = .ok (.sipush 255, 3) := by decide +kernel
theorem dX9_append_14 : decode cX9_append 14 = .ok (.iand, 1) := by decide +kernel
theorem dX9_append_15 : decode cX9_append 15 = .ok (.istore 4, 2) := by decide +kernel
theorem dX9_append_17 : decode cX9_append 17 = .ok (.iload 4, 2) := by decide +kernel
theorem dX9_append_19 : decode cX9_append 19 = .ok (.bipush 10, 2) := by decide +kernel
theorem dX9_append_21 : decode cX9_append 21 = .ok (.if_icmp .eq 17, 3) := by decide +kernel
theorem dX9_append_38 : decode cX9_append 38 = .ok (.iconst 1, 1) := by decide +kernel
theorem dX9_append_39 : decode cX9_append 39 = .ok (.goto 4, 3) := by decide +kernel
theorem dX9_append_43 : decode cX9_append 43 = .ok (.istore 5, 2) := by decide +kernel
theorem dX9_append_45 : decode cX9_append 45 = .ok (.iload 5, 2) := by decide +kernel
theorem dX9_append_47 : decode cX9_append 47 = .ok (.ifCond .eq 32, 3) := by decide +kernel
theorem dX9_append_50 : decode cX9_append 50 = .ok (.aload_n 0, 1) := by decide +kernel
theorem dX9_append_51 : decode cX9_append 51 = .ok (.getfield 47, 3) := by decide +kernel
theorem dX9_append_54 : decode cX9_append 54 = .ok (.sipush 4000, 3) := by decide +kernel
theorem dX9_append_57 : decode cX9_append 57 = .ok (.if_icmp .ge 22, 3) := by decide +kernel
theorem dX9_append_79 : decode cX9_append 79 = .ok (.iinc 3 (-8), 3) := by decide +kernel
theorem dX9_append_82 : decode cX9_append 82 = .ok (.goto (-79), 3) := by decide +kernel
theorem dX9_append_60 : decode cX9_append 60 = .ok (.aload_n 0, 1) := by decide +kernel
theorem dX9_append_61 : decode cX9_append 61 = .ok (.getfield 9, 3) := by decide +kernel
theorem dX9_append_64 : decode cX9_append 64 = .ok (.aload_n 0, 1) := by decide +kernel
theorem dX9_append_65 : decode cX9_append 65 = .ok (.dup, 1) := by decide +kernel
theorem dX9_append_66 : decode cX9_append 66 = .ok (.getfield 47, 3) := by decide +kernel
theorem dX9_append_69 : decode cX9_append 69 = .ok (.dup_x1, 1) := by decide +kernel
theorem dX9_append_70 : decode cX9_append 70 = .ok (.iconst 1, 1) := by decide +kernel
theorem dX9_append_71 : decode cX9_append 71 = .ok (.iadd, 1) := by decide +kernel
theorem dX9_append_72 : decode cX9_append 72 = .ok (.putfield 47, 3) := by decide +kernel
theorem dX9_append_75 : decode cX9_append 75 = .ok (.iload 4, 2) := by decide +kernel
theorem dX9_append_77 : decode cX9_append 77 = .ok (.i2b, 1) := by decide +kernel
theorem dX9_append_78 : decode cX9_append 78 = .ok (.bastore, 1) := by decide +kernel
theorem dX9_append_24 : decode cX9_append 24 = .ok (.iload 4, 2) := by decide +kernel
theorem dX9_append_26 : decode cX9_append 26 = .ok (.bipush 32, 2) := by decide +kernel
theorem dX9_append_28 : decode cX9_append 28 = .ok (.if_icmp .lt 14, 3) := by decide +kernel
theorem dX9_append_42 : decode cX9_append 42 = .ok (.iconst 0, 1) := by decide +kernel
theorem dX9_append_31 : decode cX9_append 31 = .ok (.iload 4, 2) := by decide +kernel
theorem dX9_append_33 : decode cX9_append 33 = .ok (.bipush 126, 2) := by decide +kernel
theorem dX9_append_35 : decode cX9_append 35 = .ok (.if_icmp .gt 7, 3) := by decide +kernel
theorem dX11_feed_0 : decode cX11_feed 0 = .ok (.aload_n 0, 1) := by decide +kernel
theorem dX11_feed_1 : decode cX11_feed 1 = .ok (.getfield 10, 3) := by decide +kernel
theorem dX11_feed_4 : decode cX11_feed 4 = .ok (.lload_n 1, 1) := by decide +kernel
theorem dX11_feed_5 : decode cX11_feed 5 = .ok (.invokevirtual 65, 3) := by decide +kernel
theorem dX11_feed_8 : decode cX11_feed 8 = .ok (.aload_n 0, 1) := by decide +kernel
theorem dX11_feed_9 : decode cX11_feed 9 = .ok (.getfield 10, 3) := by decide +kernel
theorem dX11_feed_12 : decode cX11_feed 12 = .ok (.lload_n 3, 1) := by decide +kernel
theorem dX11_feed_13 : decode cX11_feed 13 = .ok (.invokevirtual 65, 3) := by decide +kernel
theorem dX11_feed_16 : decode cX11_feed 16 = .ok (.aload_n 0, 1) := by decide +kernel
theorem dX11_feed_17 : decode cX11_feed 17 = .ok (.getfield 10, 3) := by decide +kernel
theorem dX11_feed_20 : decode cX11_feed 20 = .ok (.lload 5, 2) := by decide +kernel
theorem dX11_feed_22 : decode cX11_feed 22 = .ok (.invokevirtual 65, 3) := by decide +kernel
theorem dX11_feed_25 : decode cX11_feed 25 = .ok (.aload_n 0, 1) := by decide +kernel
theorem dX11_feed_26 : decode cX11_feed 26 = .ok (.getfield 10, 3) := by decide +kernel
theorem dX11_feed_29 : decode cX11_feed 29 = .ok (.getfield 69, 3) := by decide +kernel
theorem dX11_feed_32 : decode cX11_feed 32 = .ok (.ireturn, 1) := by decide +kernel
theorem dX11_book_0 : decode cX11_book 0 = .ok (.aload_n 0, 1) := by decide +kernel
theorem dX11_book_1 : decode cX11_book 1 = .ok (.getfield 21, 3) := by decide +kernel
theorem dX11_book_4 : decode cX11_book 4 = .ok (.aload_n 0, 1) := by decide +kernel
theorem dX11_book_5 : decode cX11_book 5 = .ok (.getfield 53, 3) := by decide +kernel
theorem dX11_book_8 : decode cX11_book 8 = .ok (.invokevirtual 73, 3) := by decide +kernel
theorem dX11_book_11 : decode cX11_book 11 = .ok (.istore_n 1, 1) := by decide +kernel
theorem dX11_book_12 : decode cX11_book 12 = .ok (.aload_n 0, 1) := by decide +kernel
theorem dX11_book_13 : decode cX11_book 13 = .ok (.getfield 10, 3) := by decide +kernel
theorem dX11_book_16 : decode cX11_book 16 = .ok (.invokevirtual 77, 3) := by decide +kernel
theorem dX11_book_19 : decode cX11_book 19 = .ok (.iload_n 1, 1) := by decide +kernel
theorem dX11_book_20 : decode cX11_book 20 = .ok (.ifCond .eq 5, 3) := by decide +kernel
theorem dX11_book_25 : decode cX11_book 25 = .ok (.aload_n 0, 1) := by decide +kernel
theorem dX11_book_26 : decode cX11_book 26 = .ok (.getfield 49, 3) := by decide +kernel
theorem dX11_book_29 : decode cX11_book 29 = .ok (.astore_n 2, 1) := by decide +kernel
theorem dX11_book_30 : decode cX11_book 30 = .ok (.aload_n 0, 1) := by decide +kernel
theorem dX11_book_31 : decode cX11_book 31 = .ok (.aload_n 0, 1) := by decide +kernel
theorem dX11_book_32 : decode cX11_book 32 = .ok (.getfield 53, 3) := by decide +kernel
theorem dX11_book_35 : decode cX11_book 35 = .ok (.putfield 49, 3) := by decide +kernel
theorem dX11_book_38 : decode cX11_book 38 = .ok (.aload_n 0, 1) := by decide +kernel
theorem dX11_book_39 : decode cX11_book 39 = .ok (.aload_n 2, 1) := by decide +kernel
theorem dX11_book_40 : decode cX11_book 40 = .ok (.putfield 53, 3) := by decide +kernel
theorem dX11_book_43 : decode cX11_book 43 = .ok (.aload_n 0, 1) := by decide +kernel
theorem dX11_book_44 : decode cX11_book 44 = .ok (.getfield 35, 3) := by decide +kernel
theorem dX11_book_47 : decode cX11_book 47 = .ok (.invokevirtual 80, 3) := by decide +kernel
theorem dX11_book_50 : decode cX11_book 50 = .ok (.aload_n 0, 1) := by decide +kernel
theorem dX11_book_51 : decode cX11_book 51 = .ok (.getfield 42, 3) := by decide +kernel
theorem dX11_book_54 : decode cX11_book 54 = .ok (.invokevirtual 83, 3) := by decide +kernel
theorem dX11_book_57 : decode cX11_book 57 = .ok (.aload_n 0, 1) := by decide +kernel
theorem dX11_book_58 : decode cX11_book 58 = .ok (.getfield 28, 3) := by decide +kernel
theorem dX11_book_61 : decode cX11_book 61 = .ok (.invokevirtual 84, 3) := by decide +kernel
theorem dX11_book_64 : decode cX11_book 64 = .ok (.aload_n 0, 1) := by decide +kernel
theorem dX11_book_65 : decode cX11_book 65 = .ok (.getfield 61, 3) := by decide +kernel
theorem dX11_book_68 : decode cX11_book 68 = .ok (.aload_n 0, 1) := by decide +kernel
theorem dX11_book_69 : decode cX11_book 69 = .ok (.getfield 49, 3) := by decide +kernel
theorem dX11_book_72 : decode cX11_book 72 = .ok (.invokevirtual 85, 3) := by decide +kernel
theorem dX11_book_75 : decode cX11_book 75 = .ok (.aload_n 0, 1) := by decide +kernel
theorem dX11_book_76 : decode cX11_book 76 = .ok (.iconst 0, 1) := by decide +kernel
theorem dX11_book_77 : decode cX11_book 77 = .ok (.putfield 89, 3) := by decide +kernel
theorem dX11_book_80 : decode cX11_book 80 = .ok (.aload_n 0, 1) := by decide +kernel
theorem dX11_book_81 : decode cX11_book 81 = .ok (.iconst 0, 1) := by decide +kernel
theorem dX11_book_82 : decode cX11_book 82 = .ok (.putfield 93, 3) := by decide +kernel
theorem dX11_book_85 : decode cX11_book 85 = .ok (.iconst 0, 1) := by decide +kernel
theorem dX11_book_86 : decode cX11_book 86 = .ok (.ireturn, 1) := by decide +kernel
theorem dX11_named_0 : decode cX11_named 0 = .ok (.aload_n 0, 1) := by decide +kernel
theorem dX11_named_1 : decode cX11_named 1 = .ok (.getfield 10, 3) := by decide +kernel
theorem dX11_named_4 : decode cX11_named 4 = .ok (.invokevirtual 96, 3) := by decide +kernel
theorem dX11_named_7 : decode cX11_named 7 = .ok (.aload_n 0, 1) := by decide +kernel
theorem dX11_named_8 : decode cX11_named 8 = .ok (.getfield 10, 3) := by decide +kernel
theorem dX11_named_11 : decode cX11_named 11 = .ok (.getfield 99, 3) := by decide +kernel
theorem dX11_named_14 : decode cX11_named 14 = .ok (.iconst 3, 1) := by decide +kernel
theorem dX11_named_15 : decode cX11_named 15 = .ok (.if_icmp .ne 7, 3) := by decide +kernel
theorem dX11_named_22 : decode cX11_named 22 = .ok (.iconst 0, 1) := by decide +kernel
theorem dX11_named_23 : decode cX11_named 23 = .ok (.istore_n 2, 1) := by decide +kernel
theorem dX11_named_24 : decode cX11_named 24 = .ok (.aload_n 0, 1) := by decide +kernel
theorem dX11_named_25 : decode cX11_named 25 = .ok (.getfield 10, 3) := by decide +kernel
theorem dX11_named_28 : decode cX11_named 28 = .ok (.getfield 102, 3) := by decide +kernel
theorem dX11_named_31 : decode cX11_named 31 = .ok (.lstore_n 3, 1) := by decide +kernel
theorem dX11_named_32 : decode cX11_named 32 = .ok (.aload_n 0, 1) := by decide +kernel
theorem dX11_named_33 : decode cX11_named 33 = .ok (.getfield 10, 3) := by decide +kernel
theorem dX11_named_36 : decode cX11_named 36 = .ok (.invokevirtual 106, 3) := by decide +kernel
theorem dX11_named_39 : decode cX11_named 39 = .ok (.aload_n 0, 1) := by decide +kernel
theorem dX11_named_40 : decode cX11_named 40 = .ok (.getfield 10, 3) := by decide +kernel
theorem dX11_named_43 : decode cX11_named 43 = .ok (.getfield 99, 3) := by decide +kernel
theorem dX11_named_46 : decode cX11_named 46 = .ok (.ifCond .ne 7, 3) := by decide +kernel
theorem dX11_named_49 : decode cX11_named 49 = .ok (.iconst 1, 1) := by decide +kernel
theorem dX11_named_50 : decode cX11_named 50 = .ok (.goto 4, 3) := by decide +kernel
theorem dX11_named_54 : decode cX11_named 54 = .ok (.istore 5, 2) := by decide +kernel
theorem dX11_named_56 : decode cX11_named 56 = .ok (.aload_n 0, 1) := by decide +kernel
theorem dX11_named_57 : decode cX11_named 57 = .ok (.getfield 10, 3) := by decide +kernel
theorem dX11_named_60 : decode cX11_named 60 = .ok (.invokevirtual 77, 3) := by decide +kernel
theorem dX11_named_63 : decode cX11_named 63 = .ok (.iload_n 2, 1) := by decide +kernel
theorem dX11_named_64 : decode cX11_named 64 = .ok (.ifCond .eq 20, 3) := by decide +kernel
theorem dX11_named_84 : decode cX11_named 84 = .ok (.iconst (-1), 1) := by decide +kernel
theorem dX11_named_85 : decode cX11_named 85 = .ok (.ireturn, 1) := by decide +kernel
theorem dX11_setting_0 : decode cX11_setting 0 = .ok (.aload_n 0, 1) := by decide +kernel
theorem dX11_setting_1 : decode cX11_setting 1 = .ok (.getfield 89, 3) := by decide +kernel
theorem dX11_setting_4 : decode cX11_setting 4 = .ok (.ifCond .ne 21, 3) := by decide +kernel
theorem dX11_setting_7 : decode cX11_setting 7 = .ok (.iload_n 1, 1) := by decide +kernel
theorem dX11_setting_8 : decode cX11_setting 8 = .ok (.ifCond .lt 17, 3) := by decide +kernel
theorem dX11_setting_25 : decode cX11_setting 25 = .ok (.iconst 0, 1) := by decide +kernel
theorem dX11_setting_26 : decode cX11_setting 26 = .ok (.ireturn, 1) := by decide +kernel
theorem dX11_setting_11 : decode cX11_setting 11 = .ok (.iload_n 1, 1) := by decide +kernel
theorem dX11_setting_12 : decode cX11_setting 12 = .ok (.aload_n 0, 1) := by decide +kernel
theorem dX11_setting_13 : decode cX11_setting 13 = .ok (.getfield 49, 3) := by decide +kernel
theorem dX11_setting_16 : decode cX11_setting 16 = .ok (.getfield 113, 3) := by decide +kernel
theorem dX11_setting_19 : decode cX11_setting 19 = .ok (.getfield 117, 3) := by decide +kernel
theorem dX11_setting_22 : decode cX11_setting 22 = .ok (.if_icmp .lt 5, 3) := by decide +kernel
theorem dX11_check_0 : decode cX11_check 0 = .ok (.aload_n 0, 1) := by decide +kernel
theorem dX11_check_1 : decode cX11_check 1 = .ok (.getfield 28, 3) := by decide +kernel
theorem dX11_check_4 : decode cX11_check 4 = .ok (.aload_n 0, 1) := by decide +kernel
theorem dX11_check_5 : decode cX11_check 5 = .ok (.getfield 49, 3) := by decide +kernel
theorem dX11_check_8 : decode cX11_check 8 = .ok (.invokevirtual 126, 3) := by decide +kernel
theorem dX11_check_11 : decode cX11_check 11 = .ok (.istore_n 1, 1) := by decide +kernel
theorem dX11_check_12 : decode cX11_check 12 = .ok (.aload_n 0, 1) := by decide +kernel
theorem dX11_check_13 : decode cX11_check 13 = .ok (.iload_n 1, 1) := by decide +kernel
theorem dX11_check_14 : decode cX11_check 14 = .ok (.ifCond .ne 7, 3) := by decide +kernel
theorem dX11_check_17 : decode cX11_check 17 = .ok (.iconst 1, 1) := by decide +kernel
theorem dX11_check_18 : decode cX11_check 18 = .ok (.goto 4, 3) := by decide +kernel
theorem dX11_check_22 : decode cX11_check 22 = .ok (.putfield 89, 3) := by decide +kernel
theorem dX11_check_25 : decode cX11_check 25 = .ok (.iload_n 1, 1) := by decide +kernel
theorem dX11_check_26 : decode cX11_check 26 = .ok (.ireturn, 1) := by decide +kernel
theorem dX11_fault_0 : decode cX11_fault 0 = .ok (.aload_n 0, 1) := by decide +kernel
theorem dX11_fault_1 : decode cX11_fault 1 = .ok (.getfield 28, 3) := by decide +kernel
theorem dX11_fault_4 : decode cX11_fault 4 = .ok (.iload_n 1, 1) := by decide +kernel
theorem dX11_fault_5 : decode cX11_fault 5 = .ok (.iload_n 2, 1) := by decide +kernel
theorem dX11_fault_6 : decode cX11_fault 6 = .ok (.invokevirtual 129, 3) := by decide +kernel
theorem dX11_fault_9 : decode cX11_fault 9 = .ok (.ireturn, 1) := by decide +kernel
theorem dX11_cycle_0 : decode cX11_cycle 0 = .ok (.aload_n 0, 1) := by decide +kernel
theorem dX11_cycle_1 : decode cX11_cycle 1 = .ok (.getfield 28, 3) := by decide +kernel
theorem dX11_cycle_4 : decode cX11_cycle 4 = .ok (.iload_n 1, 1) := by decide +kernel
theorem dX11_cycle_5 : decode cX11_cycle 5 = .ok (.iload_n 2, 1) := by decide +kernel
theorem dX11_cycle_6 : decode cX11_cycle 6 = .ok (.invokevirtual 133, 3) := by decide +kernel
theorem dX11_cycle_9 : decode cX11_cycle 9 = .ok (.ireturn, 1) := by decide +kernel
theorem dX11_candidate_0 : decode cX11_candidate 0 = .ok (.aload_n 0, 1) := by decide +kernel
theorem dX11_candidate_1 : decode cX11_candidate 1 = .ok (.getfield 49, 3) := by decide +kernel
theorem dX11_candidate_4 : decode cX11_candidate 4 = .ok (.iload_n 1, 1) := by decide +kernel
theorem dX11_candidate_5 : decode cX11_candidate 5 = .ok (.invokevirtual 136, 3) := by decide +kernel
theorem dX11_candidate_8 : decode cX11_candidate 8 = .ok (.ifCond .eq 27, 3) := by decide +kernel
theorem dX11_candidate_35 : decode cX11_candidate 35 = .ok (.iconst (-1), 1) := by decide +kernel
theorem dX11_candidate_36 : decode cX11_candidate 36 = .ok (.ireturn, 1) := by decide +kernel
theorem dX11_day_0 : decode cX11_day 0 = .ok (.aload_n 0, 1) := by decide +kernel
theorem dX11_day_1 : decode cX11_day 1 = .ok (.getfield 89, 3) := by decide +kernel
theorem dX11_day_4 : decode cX11_day 4 = .ok (.ifCond .eq 15, 3) := by decide +kernel
theorem dX11_day_19 : decode cX11_day 19 = .ok (.iconst (-1), 1) := by decide +kernel
theorem dX11_day_20 : decode cX11_day 20 = .ok (.ireturn, 1) := by decide +kernel
theorem dX11_meal_0 : decode cX11_meal 0 = .ok (.aload_n 0, 1) := by decide +kernel
theorem dX11_meal_1 : decode cX11_meal 1 = .ok (.getfield 35, 3) := by decide +kernel
theorem dX11_meal_4 : decode cX11_meal 4 = .ok (.iload_n 1, 1) := by decide +kernel
theorem dX11_meal_5 : decode cX11_meal 5 = .ok (.invokevirtual 182, 3) := by decide +kernel
theorem dX11_meal_8 : decode cX11_meal 8 = .ok (.ifCond .eq 20, 3) := by decide +kernel
theorem dX11_meal_11 : decode cX11_meal 11 = .ok (.aload_n 0, 1) := by decide +kernel
theorem dX11_meal_12 : decode cX11_meal 12 = .ok (.getfield 35, 3) := by decide +kernel
theorem dX11_meal_15 : decode cX11_meal 15 = .ok (.getfield 185, 3) := by decide +kernel
theorem dX11_meal_18 : decode cX11_meal 18 = .ok (.iload_n 1, 1) := by decide +kernel
theorem dX11_meal_19 : decode cX11_meal 19 = .ok (.iaload, 1) := by decide +kernel
theorem dX11_meal_20 : decode cX11_meal 20 = .ok (.iconst 1, 1) := by decide +kernel
theorem dX11_meal_21 : decode cX11_meal 21 = .ok (.if_icmp .ne 7, 3) := by decide +kernel
theorem dX11_meal_28 : decode cX11_meal 28 = .ok (.iconst 0, 1) := by decide +kernel
theorem dX11_meal_29 : decode cX11_meal 29 = .ok (.istore_n 2, 1) := by decide +kernel
theorem dX11_meal_30 : decode cX11_meal 30 = .ok (.aload_n 0, 1) := by decide +kernel
theorem dX11_meal_31 : decode cX11_meal 31 = .ok (.getfield 89, 3) := by decide +kernel
theorem dX11_meal_34 : decode cX11_meal 34 = .ok (.ifCond .eq 19, 3) := by decide +kernel
theorem dX11_meal_53 : decode cX11_meal 53 = .ok (.iconst (-1), 1) := by decide +kernel
theorem dX11_meal_54 : decode cX11_meal 54 = .ok (.ireturn, 1) := by decide +kernel
theorem dX11_get_0 : decode cX11_get 0 = .ok (.aload_n 0, 1) := by decide +kernel
theorem dX11_get_1 : decode cX11_get 1 = .ok (.getfield 42, 3) := by decide +kernel
theorem dX11_get_4 : decode cX11_get 4 = .ok (.iconst 0, 1) := by decide +kernel
theorem dX11_get_5 : decode cX11_get 5 = .ok (.iconst 0, 1) := by decide +kernel
theorem dX11_get_6 : decode cX11_get 6 = .ok (.invokevirtual 188, 3) := by decide +kernel
theorem dX11_get_9 : decode cX11_get 9 = .ok (.aload_n 0, 1) := by decide +kernel
theorem dX11_get_10 : decode cX11_get 10 = .ok (.getfield 61, 3) := by decide +kernel
theorem dX11_get_13 : decode cX11_get 13 = .ok (.invokevirtual 192, 3) := by decide +kernel
theorem dX11_get_16 : decode cX11_get 16 = .ok (.aload_n 0, 1) := by decide +kernel
theorem dX11_get_17 : decode cX11_get 17 = .ok (.getfield 89, 3) := by decide +kernel
theorem dX11_get_20 : decode cX11_get 20 = .ok (.ifCond .ne 10, 3) := by decide +kernel
theorem dX11_get_23 : decode cX11_get 23 = .ok (.aload_n 0, 1) := by decide +kernel
theorem dX11_get_24 : decode cX11_get 24 = .ok (.iconst 4, 1) := by decide +kernel
theorem dX11_get_25 : decode cX11_get 25 = .ok (.iconst (-1), 1) := by decide +kernel
theorem dX11_get_26 : decode cX11_get 26 = .ok (.invokevirtual 195, 3) := by decide +kernel
theorem dX11_get_29 : decode cX11_get 29 = .ok (.ireturn, 1) := by decide +kernel
theorem dX11_call_0 : decode cX11_call 0 = .ok (.aload_n 0, 1) := by decide +kernel
theorem dX11_call_1 : decode cX11_call 1 = .ok (.getfield 42, 3) := by decide +kernel
theorem dX11_call_4 : decode cX11_call 4 = .ok (.iconst 0, 1) := by decide +kernel
theorem dX11_call_5 : decode cX11_call 5 = .ok (.iconst 0, 1) := by decide +kernel
theorem dX11_call_6 : decode cX11_call 6 = .ok (.invokevirtual 188, 3) := by decide +kernel
theorem dX11_call_9 : decode cX11_call 9 = .ok (.aload_n 0, 1) := by decide +kernel
theorem dX11_call_10 : decode cX11_call 10 = .ok (.getfield 42, 3) := by decide +kernel
theorem dX11_call_13 : decode cX11_call 13 = .ok (.invokevirtual 212, 3) := by decide +kernel
theorem dX11_call_16 : decode cX11_call 16 = .ok (.aload_n 0, 1) := by decide +kernel
theorem dX11_call_17 : decode cX11_call 17 = .ok (.getfield 61, 3) := by decide +kernel
theorem dX11_call_20 : decode cX11_call 20 = .ok (.invokevirtual 192, 3) := by decide +kernel
theorem dX11_call_23 : decode cX11_call 23 = .ok (.aload_n 0, 1) := by decide +kernel
theorem dX11_call_24 : decode cX11_call 24 = .ok (.getfield 35, 3) := by decide +kernel
theorem dX11_call_27 : decode cX11_call 27 = .ok (.iload_n 1, 1) := by decide +kernel
theorem dX11_call_28 : decode cX11_call 28 = .ok (.invokevirtual 182, 3) := by decide +kernel
theorem dX11_call_31 : decode cX11_call 31 = .ok (.ifCond .ne 10, 3) := by decide +kernel
theorem dX11_call_41 : decode cX11_call 41 = .ok (.aload_n 0, 1) := by decide +kernel
theorem dX11_call_42 : decode cX11_call 42 = .ok (.getfield 35, 3) := by decide +kernel
theorem dX11_call_45 : decode cX11_call 45 = .ok (.iload_n 2, 1) := by decide +kernel
theorem dX11_call_46 : decode cX11_call 46 = .ok (.invokevirtual 215, 3) := by decide +kernel
theorem dX11_call_49 : decode cX11_call 49 = .ok (.ifCond .eq 21, 3) := by decide +kernel
theorem dX11_call_70 : decode cX11_call 70 = .ok (.aload_n 0, 1) := by decide +kernel
theorem dX11_call_71 : decode cX11_call 71 = .ok (.iconst 4, 1) := by decide +kernel
theorem dX11_call_72 : decode cX11_call 72 = .ok (.iconst 0, 1) := by decide +kernel
theorem dX11_call_73 : decode cX11_call 73 = .ok (.invokevirtual 195, 3) := by decide +kernel
theorem dX11_call_76 : decode cX11_call 76 = .ok (.ireturn, 1) := by decide +kernel
theorem dX11_call_34 : decode cX11_call 34 = .ok (.aload_n 0, 1) := by decide +kernel
theorem dX11_call_35 : decode cX11_call 35 = .ok (.iconst 3, 1) := by decide +kernel
theorem dX11_call_36 : decode cX11_call 36 = .ok (.iconst 0, 1) := by decide +kernel
theorem dX11_call_37 : decode cX11_call 37 = .ok (.invokevirtual 195, 3) := by decide +kernel
theorem dX11_call_40 : decode cX11_call 40 = .ok (.ireturn, 1) := by decide +kernel
theorem dX11_close_0 : decode cX11_close 0 = .ok (.aload_n 0, 1) := by decide +kernel
theorem dX11_close_1 : decode cX11_close 1 = .ok (.getfield 61, 3) := by decide +kernel
theorem dX11_close_4 : decode cX11_close 4 = .ok (.invokevirtual 192, 3) := by decide +kernel
theorem dX11_close_7 : decode cX11_close 7 = .ok (.aload_n 0, 1) := by decide +kernel
theorem dX11_close_8 : decode cX11_close 8 = .ok (.getfield 35, 3) := by decide +kernel
theorem dX11_close_11 : decode cX11_close 11 = .ok (.iload_n 1, 1) := by decide +kernel
theorem dX11_close_12 : decode cX11_close 12 = .ok (.invokevirtual 182, 3) := by decide +kernel
theorem dX11_close_15 : decode cX11_close 15 = .ok (.ifCond .ne 10, 3) := by decide +kernel
theorem dX11_close_25 : decode cX11_close 25 = .ok (.iconst 0, 1) := by decide +kernel
theorem dX11_close_26 : decode cX11_close 26 = .ok (.istore_n 2, 1) := by decide +kernel
theorem dX11_close_27 : decode cX11_close 27 = .ok (.iconst 0, 1) := by decide +kernel
theorem dX11_close_28 : decode cX11_close 28 = .ok (.istore_n 3, 1) := by decide +kernel
theorem dX11_close_29 : decode cX11_close 29 = .ok (.iconst 0, 1) := by decide +kernel
theorem dX11_close_30 : decode cX11_close 30 = .ok (.istore 4, 2) := by decide +kernel
theorem dX11_close_32 : decode cX11_close 32 = .ok (.iload 4, 2) := by decide +kernel
theorem dX11_close_34 : decode cX11_close 34 = .ok (.sipush 340, 3) := by decide +kernel
theorem dX11_close_37 : decode cX11_close 37 = .ok (.if_icmp .ge 89, 3) := by decide +kernel
theorem dX11_close_40 : decode cX11_close 40 = .ok (.aload_n 0, 1) := by decide +kernel
theorem dX11_close_41 : decode cX11_close 41 = .ok (.getfield 35, 3) := by decide +kernel
theorem dX11_close_44 : decode cX11_close 44 = .ok (.iload_n 1, 1) := by decide +kernel
theorem dX11_close_45 : decode cX11_close 45 = .ok (.invokevirtual 182, 3) := by decide +kernel
theorem dX11_close_48 : decode cX11_close 48 = .ok (.ifCond .eq 78, 3) := by decide +kernel
theorem dX11_close_51 : decode cX11_close 51 = .ok (.aload_n 0, 1) := by decide +kernel
theorem dX11_close_52 : decode cX11_close 52 = .ok (.getfield 35, 3) := by decide +kernel
theorem dX11_close_55 : decode cX11_close 55 = .ok (.iload_n 1, 1) := by decide +kernel
theorem dX11_close_56 : decode cX11_close 56 = .ok (.invokevirtual 228, 3) := by decide +kernel
theorem dX11_close_59 : decode cX11_close 59 = .ok (.istore 5, 2) := by decide +kernel
theorem dX11_close_61 : decode cX11_close 61 = .ok (.aload_n 0, 1) := by decide +kernel
theorem dX11_close_62 : decode cX11_close 62 = .ok (.getfield 35, 3) := by decide +kernel
theorem dX11_close_65 : decode cX11_close 65 = .ok (.iload 5, 2) := by decide +kernel
theorem dX11_close_67 : decode cX11_close 67 = .ok (.invokevirtual 231, 3) := by decide +kernel
theorem dX11_close_70 : decode cX11_close 70 = .ok (.istore 6, 2) := by decide +kernel
theorem dX11_close_72 : decode cX11_close 72 = .ok (.iload 6, 2) := by decide +kernel
theorem dX11_close_74 : decode cX11_close 74 = .ok (.iconst (-1), 1) := by decide +kernel
theorem dX11_close_75 : decode cX11_close 75 = .ok (.if_icmp .eq 36, 3) := by decide +kernel
theorem dX11_close_111 : decode cX11_close 111 = .ok (.aload_n 0, 1) := by decide +kernel
theorem dX11_close_112 : decode cX11_close 112 = .ok (.getfield 35, 3) := by decide +kernel
theorem dX11_close_115 : decode cX11_close 115 = .ok (.iload 5, 2) := by decide +kernel
theorem dX11_close_117 : decode cX11_close 117 = .ok (.invokevirtual 241, 3) := by decide +kernel
theorem dX11_close_120 : decode cX11_close 120 = .ok (.iinc 4 1, 3) := by decide +kernel
theorem dX11_close_123 : decode cX11_close 123 = .ok (.goto (-91), 3) := by decide +kernel
theorem dX11_close_126 : decode cX11_close 126 = .ok (.aload_n 0, 1) := by decide +kernel
theorem dX11_close_127 : decode cX11_close 127 = .ok (.getfield 35, 3) := by decide +kernel
theorem dX11_close_130 : decode cX11_close 130 = .ok (.invokevirtual 245, 3) := by decide +kernel
theorem dX11_close_133 : decode cX11_close 133 = .ok (.iload_n 2, 1) := by decide +kernel
theorem dX11_close_134 : decode cX11_close 134 = .ok (.ifCond .eq 13, 3) := by decide +kernel
theorem dX11_close_147 : decode cX11_close 147 = .ok (.aload_n 0, 1) := by decide +kernel
theorem dX11_close_148 : decode cX11_close 148 = .ok (.iconst 0, 1) := by decide +kernel
theorem dX11_close_149 : decode cX11_close 149 = .ok (.iload_n 3, 1) := by decide +kernel
theorem dX11_close_150 : decode cX11_close 150 = .ok (.invokevirtual 195, 3) := by decide +kernel
theorem dX11_close_153 : decode cX11_close 153 = .ok (.ireturn, 1) := by decide +kernel
theorem dX11_close_18 : decode cX11_close 18 = .ok (.aload_n 0, 1) := by decide +kernel
theorem dX11_close_19 : decode cX11_close 19 = .ok (.iconst 3, 1) := by decide +kernel
theorem dX11_close_20 : decode cX11_close 20 = .ok (.iconst (-1), 1) := by decide +kernel
theorem dX11_close_21 : decode cX11_close 21 = .ok (.invokevirtual 195, 3) := by decide +kernel
theorem dX11_close_24 : decode cX11_close 24 = .ok (.ireturn, 1) := by decide +kernel
theorem dX11_outcome_0 : decode cX11_outcome 0 = .ok (.aload_n 0, 1) := by decide +kernel
theorem dX11_outcome_1 : decode cX11_outcome 1 = .ok (.getfield 93, 3) := by decide +kernel
theorem dX11_outcome_4 : decode cX11_outcome 4 = .ok (.ireturn, 1) := by decide +kernel
theorem dX11_cause_0 : decode cX11_cause 0 = .ok (.aload_n 0, 1) := by decide +kernel
theorem dX11_cause_1 : decode cX11_cause 1 = .ok (.getfield 42, 3) := by decide +kernel
theorem dX11_cause_4 : decode cX11_cause 4 = .ok (.iload_n 1, 1) := by decide +kernel
theorem dX11_cause_5 : decode cX11_cause 5 = .ok (.invokevirtual 248, 3) := by decide +kernel
theorem dX11_cause_8 : decode cX11_cause 8 = .ok (.ireturn, 1) := by decide +kernel
theorem dX11_joined_0 : decode cX11_joined 0 = .ok (.aload_n 0, 1) := by decide +kernel
theorem dX11_joined_1 : decode cX11_joined 1 = .ok (.getfield 35, 3) := by decide +kernel
theorem dX11_joined_4 : decode cX11_joined 4 = .ok (.iload_n 1, 1) := by decide +kernel
theorem dX11_joined_5 : decode cX11_joined 5 = .ok (.iload_n 2, 1) := by decide +kernel
theorem dX11_joined_6 : decode cX11_joined 6 = .ok (.iload_n 3, 1) := by decide +kernel
theorem dX11_joined_7 : decode cX11_joined 7 = .ok (.invokevirtual 264, 3) := by decide +kernel
theorem dX11_joined_10 : decode cX11_joined 10 = .ok (.ireturn, 1) := by decide +kernel
theorem dX11_closed_0 : decode cX11_closed 0 = .ok (.aload_n 0, 1) := by decide +kernel
theorem dX11_closed_1 : decode cX11_closed 1 = .ok (.getfield 42, 3) := by decide +kernel
theorem dX11_closed_4 : decode cX11_closed 4 = .ok (.iload_n 1, 1) := by decide +kernel
theorem dX11_closed_5 : decode cX11_closed 5 = .ok (.iload_n 2, 1) := by decide +kernel
theorem dX11_closed_6 : decode cX11_closed 6 = .ok (.invokevirtual 268, 3) := by decide +kernel
theorem dX11_closed_9 : decode cX11_closed 9 = .ok (.ireturn, 1) := by decide +kernel
theorem dX11_spoiled_0 : decode cX11_spoiled 0 = .ok (.aload_n 0, 1) := by decide +kernel
theorem dX11_spoiled_1 : decode cX11_spoiled 1 = .ok (.getfield 35, 3) := by decide +kernel
theorem dX11_spoiled_4 : decode cX11_spoiled 4 = .ok (.iload_n 1, 1) := by decide +kernel
theorem dX11_spoiled_5 : decode cX11_spoiled 5 = .ok (.invokevirtual 182, 3) := by decide +kernel
theorem dX11_spoiled_8 : decode cX11_spoiled 8 = .ok (.ifCond .eq 14, 3) := by decide +kernel
theorem dX11_spoiled_11 : decode cX11_spoiled 11 = .ok (.aload_n 0, 1) := by decide +kernel
theorem dX11_spoiled_12 : decode cX11_spoiled 12 = .ok (.getfield 49, 3) := by decide +kernel
theorem dX11_spoiled_15 : decode cX11_spoiled 15 = .ok (.iload_n 2, 1) := by decide +kernel
theorem dX11_spoiled_16 : decode cX11_spoiled 16 = .ok (.invokevirtual 136, 3) := by decide +kernel
theorem dX11_spoiled_19 : decode cX11_spoiled 19 = .ok (.ifCond .ne 5, 3) := by decide +kernel
theorem dX11_spoiled_22 : decode cX11_spoiled 22 = .ok (.iconst (-1), 1) := by decide +kernel
theorem dX11_spoiled_23 : decode cX11_spoiled 23 = .ok (.ireturn, 1) := by decide +kernel
theorem dX11_did_0 : decode cX11_did 0 = .ok (.aload_n 0, 1) := by decide +kernel
theorem dX11_did_1 : decode cX11_did 1 = .ok (.getfield 42, 3) := by decide +kernel
theorem dX11_did_4 : decode cX11_did 4 = .ok (.iload_n 1, 1) := by decide +kernel
theorem dX11_did_5 : decode cX11_did 5 = .ok (.iload_n 2, 1) := by decide +kernel
theorem dX11_did_6 : decode cX11_did 6 = .ok (.invokevirtual 278, 3) := by decide +kernel
theorem dX11_did_9 : decode cX11_did 9 = .ok (.ireturn, 1) := by decide +kernel
theorem dX11_count_0 : decode cX11_count 0 = .ok (.iload_n 1, 1) := by decide +kernel
theorem dX11_count_1 : decode cX11_count 1 = .ok (.tableswitch 188 0 12 #[67, 78, 89, 100, 111, 119, 127, 135, 143, 156, 164, 172, 180], 67) := by decide +kernel
theorem dX11_count_68 : decode cX11_count 68 = .ok (.aload_n 0, 1) := by decide +kernel
theorem dX11_count_69 : decode cX11_count 69 = .ok (.getfield 49, 3) := by decide +kernel
theorem dX11_count_72 : decode cX11_count 72 = .ok (.getfield 281, 3) := by decide +kernel
theorem dX11_count_75 : decode cX11_count 75 = .ok (.getfield 117, 3) := by decide +kernel
theorem dX11_count_78 : decode cX11_count 78 = .ok (.ireturn, 1) := by decide +kernel
theorem dX11_count_79 : decode cX11_count 79 = .ok (.aload_n 0, 1) := by decide +kernel
theorem dX11_count_80 : decode cX11_count 80 = .ok (.getfield 49, 3) := by decide +kernel
theorem dX11_count_83 : decode cX11_count 83 = .ok (.getfield 113, 3) := by decide +kernel
theorem dX11_count_86 : decode cX11_count 86 = .ok (.getfield 117, 3) := by decide +kernel
theorem dX11_count_89 : decode cX11_count 89 = .ok (.ireturn, 1) := by decide +kernel
theorem dX11_count_90 : decode cX11_count 90 = .ok (.aload_n 0, 1) := by decide +kernel
theorem dX11_count_91 : decode cX11_count 91 = .ok (.getfield 49, 3) := by decide +kernel
theorem dX11_count_94 : decode cX11_count 94 = .ok (.getfield 284, 3) := by decide +kernel
theorem dX11_count_97 : decode cX11_count 97 = .ok (.getfield 117, 3) := by decide +kernel
theorem dX11_count_100 : decode cX11_count 100 = .ok (.ireturn, 1) := by decide +kernel
theorem dX11_count_101 : decode cX11_count 101 = .ok (.aload_n 0, 1) := by decide +kernel
theorem dX11_count_102 : decode cX11_count 102 = .ok (.getfield 49, 3) := by decide +kernel
theorem dX11_count_105 : decode cX11_count 105 = .ok (.getfield 218, 3) := by decide +kernel
theorem dX11_count_108 : decode cX11_count 108 = .ok (.getfield 117, 3) := by decide +kernel
theorem dX11_count_111 : decode cX11_count 111 = .ok (.ireturn, 1) := by decide +kernel
theorem dX11_count_112 : decode cX11_count 112 = .ok (.aload_n 0, 1) := by decide +kernel
theorem dX11_count_113 : decode cX11_count 113 = .ok (.getfield 49, 3) := by decide +kernel
theorem dX11_count_116 : decode cX11_count 116 = .ok (.getfield 287, 3) := by decide +kernel
theorem dX11_count_119 : decode cX11_count 119 = .ok (.ireturn, 1) := by decide +kernel
theorem dX11_count_120 : decode cX11_count 120 = .ok (.aload_n 0, 1) := by decide +kernel
theorem dX11_count_121 : decode cX11_count 121 = .ok (.getfield 35, 3) := by decide +kernel
theorem dX11_count_124 : decode cX11_count 124 = .ok (.invokevirtual 290, 3) := by decide +kernel
theorem dX11_count_127 : decode cX11_count 127 = .ok (.ireturn, 1) := by decide +kernel
theorem dX11_count_128 : decode cX11_count 128 = .ok (.aload_n 0, 1) := by decide +kernel
theorem dX11_count_129 : decode cX11_count 129 = .ok (.getfield 35, 3) := by decide +kernel
theorem dX11_count_132 : decode cX11_count 132 = .ok (.getfield 293, 3) := by decide +kernel
theorem dX11_count_135 : decode cX11_count 135 = .ok (.ireturn, 1) := by decide +kernel
theorem dX11_count_136 : decode cX11_count 136 = .ok (.aload_n 0, 1) := by decide +kernel
theorem dX11_count_137 : decode cX11_count 137 = .ok (.getfield 35, 3) := by decide +kernel
theorem dX11_count_140 : decode cX11_count 140 = .ok (.invokevirtual 296, 3) := by decide +kernel
theorem dX11_count_143 : decode cX11_count 143 = .ok (.ireturn, 1) := by decide +kernel
theorem dX11_count_144 : decode cX11_count 144 = .ok (.aload_n 0, 1) := by decide +kernel
theorem dX11_count_145 : decode cX11_count 145 = .ok (.getfield 89, 3) := by decide +kernel
theorem dX11_count_148 : decode cX11_count 148 = .ok (.ifCond .eq 7, 3) := by decide +kernel
theorem dX11_count_155 : decode cX11_count 155 = .ok (.iconst 0, 1) := by decide +kernel
theorem dX11_count_156 : decode cX11_count 156 = .ok (.ireturn, 1) := by decide +kernel
theorem dX11_count_157 : decode cX11_count 157 = .ok (.aload_n 0, 1) := by decide +kernel
theorem dX11_count_158 : decode cX11_count 158 = .ok (.getfield 61, 3) := by decide +kernel
theorem dX11_count_161 : decode cX11_count 161 = .ok (.getfield 299, 3) := by decide +kernel
theorem dX11_count_164 : decode cX11_count 164 = .ok (.ireturn, 1) := by decide +kernel
theorem dX11_count_165 : decode cX11_count 165 = .ok (.aload_n 0, 1) := by decide +kernel
theorem dX11_count_166 : decode cX11_count 166 = .ok (.getfield 61, 3) := by decide +kernel
theorem dX11_count_169 : decode cX11_count 169 = .ok (.getfield 302, 3) := by decide +kernel
theorem dX11_count_172 : decode cX11_count 172 = .ok (.ireturn, 1) := by decide +kernel
theorem dX11_count_173 : decode cX11_count 173 = .ok (.aload_n 0, 1) := by decide +kernel
theorem dX11_count_174 : decode cX11_count 174 = .ok (.getfield 28, 3) := by decide +kernel
theorem dX11_count_177 : decode cX11_count 177 = .ok (.getfield 305, 3) := by decide +kernel
theorem dX11_count_180 : decode cX11_count 180 = .ok (.ireturn, 1) := by decide +kernel
theorem dX11_count_181 : decode cX11_count 181 = .ok (.aload_n 0, 1) := by decide +kernel
theorem dX11_count_182 : decode cX11_count 182 = .ok (.getfield 10, 3) := by decide +kernel
theorem dX11_count_185 : decode cX11_count 185 = .ok (.getfield 69, 3) := by decide +kernel
theorem dX11_count_188 : decode cX11_count 188 = .ok (.ireturn, 1) := by decide +kernel
theorem dX11_count_189 : decode cX11_count 189 = .ok (.iconst (-1), 1) := by decide +kernel
theorem dX11_count_190 : decode cX11_count 190 = .ok (.ireturn, 1) := by decide +kernel
/-! how the tape grows: its length, eight signs of a long (the class shifts by >>>, the reference by >>) -/
def shv (n : Nat) : Int32 := Int32.ofInt (8 * (n : Int) - 8)
def sgc (v : Int64) (y : Int32) : Int32 := ((v.toUInt64 >>> (y.toInt64.toUInt64 &&& Int64.toUInt64 63)).toInt64).toInt32 &&& 255
def sgm (v : Int64) (y : Int32) : Int32 := (v >>> (y.toInt64 &&& 63)).toInt32 &&& 255
def stp (s : Int32) (k : Nat) : Nat := if (s = 10 ∨ (32 ≤ s ∧ s ≤ 126)) ∧ k < 4000 then k + 1 else k
def apk : Nat → Int64 → Nat → Nat
  | 0, _, k => k
  | n + 1, v, k => apk n v (stp (sgc v (shv (n + 1))) k)
def apm : Nat → Int64 → Nat → Nat
  | 0, _, k => k
  | n + 1, v, k => apm n v (stp (sgm v (shv (n + 1))) k)
theorem stp_le {s : Int32} {k : Nat} (h : k ≤ 4000) : stp s k ≤ 4000 := by
  unfold stp
  split
  · omega
  · exact h
theorem apk_le : ∀ (n : Nat) (v : Int64) (k : Nat), k ≤ 4000 → apk n v k ≤ 4000
  | 0, _, _, h => h
  | n + 1, v, _, h => apk_le n v _ (stp_le h)
theorem apm_le : ∀ (n : Nat) (v : Int64) (k : Nat), k ≤ 4000 → apm n v k ≤ 4000
  | 0, _, _, h => h
  | n + 1, v, _, h => apm_le n v _ (stp_le h)
theorem stp_y1 {s : Int32} {k : Nat} (h : s = 10) (hk : k < 4000) : stp s k = k + 1 := if_pos ⟨Or.inl h, hk⟩
theorem stp_y2 {s : Int32} {k : Nat} (h1 : ¬ s < 32) (h2 : ¬ 126 < s) (hk : k < 4000) : stp s k = k + 1 := if_pos ⟨Or.inr ⟨Int32.not_lt.mp h1, Int32.not_lt.mp h2⟩, hk⟩
theorem stp_n1 {s : Int32} {k : Nat} (h0 : ¬ s = 10) (h1 : s < 32) : stp s k = k := if_neg (fun h => h.1.elim h0 (fun z => absurd z.1 (Int32.not_le.mpr h1)))
theorem stp_n2 {s : Int32} {k : Nat} (h0 : ¬ s = 10) (h1 : 126 < s) : stp s k = k := if_neg (fun h => h.1.elim h0 (fun z => absurd z.2 (Int32.not_le.mpr h1)))
theorem stp_f {s : Int32} {k : Nat} (h : 4000 ≤ k) : stp s k = k := if_neg (fun z => absurd z.2 (by omega))
theorem shv_lt : ∀ n, n < 8 → ¬ shv (n + 1) < 0 := by decide +kernel
theorem shv_ge : ∀ n, n < 8 → 0 ≤ shv (n + 1) := by decide +kernel
theorem shv_dec : ∀ n, n < 8 → shv (n + 1) + Int32.ofInt (-8) = shv n := by decide +kernel
/-- what count() answers on a fresh house -/
def cnt_ (w : Int32) : Int32 := if w = 0 then 0 else if w = 1 then 0 else if w = 2 then 0 else if w = 3 then 0 else if w = 4 then 0 else if w = 5 then 1 else if w = 6 then 0 else if w = 7 then 0 else if w = 8 then 0 else if w = 9 then 0 else if w = 10 then 0 else if w = 11 then 0 else if w = 12 then 0 else -1
abbrev r_c_append : Room := { frames := 0, cells := 0, slots := 0, locals := 0 }
abbrev q_c_append (D : va_G) (tp : Nat) (t0 : Nat) (t1 : Nat) (t2 : Nat) (t3 : Nat) (t4 : Nat) (k : Nat) (kt0 : ClassId) (fs : Nat → Int32) (ev : Int64) (A : Nat → Prop) : Array Value → State → Outcome → State → Prop := va_Qv (fun (u : Nat → Int32) => True) (fun u t => gq D A ((fun (u : Nat → Int32) => [(tp, .inr (9, [.ref t0, .ref t1, .ref t2, .ref t3, .ref t4, .int (nI (apk 8 ev k)), .int 0, .int 0, .int 0, .int 0, .int 0, .long 0])), (t0, .inl (kt0, 4000, .inl (u)))]) u) ((fun (u : Nat → Int32) => ([(kt0, .byte)] : List (ClassId × FieldType))) u) t) A
set_option maxHeartbeats 4000000 in
set_option maxRecDepth 100000 in
theorem c_append (l : Launch) (D : va_G) (ks : Nat × Nat × Option Nat) (sz : Nat) (tp : Nat) (t0 : Nat) (t1 : Nat) (t2 : Nat) (t3 : Nat) (t4 : Nat) (k : Nat) (kt0 : ClassId) (fs : Nat → Int32) (ev : Int64) (hk : k ≤ 4000) : Met l yX9_append (Cond.code yX9_append cX9_append 6 none :: GW) r_c_append (va_Pc [.ref tp, .long ev] (gp D ks [(tp, .inr (9, [.ref t0, .ref t1, .ref t2, .ref t3, .ref t4, .int (nI k), .int 0, .int 0, .int 0, .int 0, .int 0, .long 0])), (t0, .inl (kt0, 4000, .inl (fs)))] [(kt0, .byte)] sz)) (q_c_append D tp t0 t1 t2 t3 t4 k kt0 fs ev (va_A [(tp, .inr (9, [.ref t0, .ref t1, .ref t2, .ref t3, .ref t4, .int (nI k), .int 0, .int 0, .int 0, .int 0, .int 0, .long 0])), (t0, .inl (kt0, 4000, .inl (fs)))] sz)) 0 0 (va_A [(tp, .inr (9, [.ref t0, .ref t1, .ref t2, .ref t3, .ref t4, .int (nI k), .int 0, .int 0, .int 0, .int 0, .int 0, .long 0])), (t0, .inl (kt0, 4000, .inl (fs)))] sz) := by
  refine g_met (q_c_append D tp t0 t1 t2 t3 t4 k kt0 fs ev) (by decide) (Nat.le_of_ble_eq_true rfl) ?_
  intro p e s m below meth c A ls H locs hx hb hr hml hown hg hlocks hin hnw hgk hP hK hD hS hA hl
  have hown : s.vm.findClass RX9 = some m.cls := hown
  have hl : lv_has ls 6 [(0, .ref tp), (1, .long ev)] := hl
  obtain ⟨NF, hNF⟩ : ∃ z, apk 8 ev k = z := ⟨_, rfl⟩
  refine lv_bipush (v := 56) hx hb dX9_append_0 (by decide) ?_
  refine lv_istore_n (lv' := [(3, .int 56), (0, .ref tp), (1, .long ev)]) hx hb dX9_append_2 rfl hl (by decide) rfl (fun ls hl => ?_)
  have vlp1 : ∀ (n : Nat) (kk : Nat) (fs_ : Nat → Int32) (H : Heap) (locs : List Loc) (ls : Array Slot), n ≤ 8 → kk ≤ 4000 → apk n ev kk = NF → va_P D vwCl [(tp, .inr (9, [.ref t0, .ref t1, .ref t2, .ref t3, .ref t4, .int (nI kk), .int 0, .int 0, .int 0, .int 0, .int 0, .long 0])), (t0, .inl (kt0, 4000, .inl (fs_)))] H → va_D A [(tp, .inr (9, [.ref t0, .ref t1, .ref t2, .ref t3, .ref t4, .int (nI kk), .int 0, .int 0, .int 0, .int 0, .int 0, .long 0])), (t0, .inl (kt0, 4000, .inl (fs_)))] → va_S A s.heap H locs → lv_has ls 6 [(3, .int (shv n)), (0, .ref tp), (1, .long ev)] → W p l e r_c_append s m ([.ref tp, .long ev] : List Value).toArray below meth c H locs (0) (0) (MQ below (q_c_append D tp t0 t1 t2 t3 t4 k kt0 fs ev A) ([.ref tp, .long ev] : List Value).toArray s 0 0 A) (F0 m 3 ls []) := by
    intro n
    induction n with
    | zero =>
      intro kk fs_ H locs ls h8 hk9 hap hP hD hS hl
      have hap : kk = NF := hap
      rw [← hNF] at hap
      subst hap
      refine lv_iload_n hx hb dX9_append_3 rfl (lv_at hl 0 rfl) ?_
      refine lv_if_lt (tgt := 85) hx hb dX9_append_4 (by decide) (fun _ => ?_) (fun q => absurd (by decide) q)
      refine W.widen (k := 0) (n := 0) (Nat.le_of_ble_eq_true rfl) (Nat.le_of_ble_eq_true rfl) ?_
      have hP9 := hP.sub (ws' := [(tp, .inr (9, [.ref t0, .ref t1, .ref t2, .ref t3, .ref t4, .int (nI (apk 8 ev k)), .int 0, .int 0, .int 0, .int 0, .int 0, .long 0])), (t0, .inl (kt0, 4000, .inl (fs_)))]) [0, 1] rfl
      have hD9 := hD.sub (ws' := [(tp, .inr (9, [.ref t0, .ref t1, .ref t2, .ref t3, .ref t4, .int (nI (apk 8 ev k)), .int 0, .int 0, .int 0, .int 0, .int 0, .long 0])), (t0, .inl (kt0, 4000, .inl (fs_)))]) [0, 1] (by decide) rfl
      have hK9 := hK.sub (tys' := [(kt0, .byte)]) [0] rfl
      exact W.vret hx hb hr (fun t ht hW => ⟨⟨(fs_), rfl, (by first | rfl | trivial | assumption | decide), by rw [ht]; exact hP9, va_K.moved hW.alike hK9, hD9⟩, hS.F ht⟩) hS.2.2 dX9_append_85
    | succ n ih =>
      intro kk fs_ H locs ls h8 hk9 hap hP hD hS hl
      refine lv_iload_n hx hb dX9_append_3 rfl (lv_at hl 0 rfl) ?_
      refine lv_if_lt (tgt := 85) hx hb dX9_append_4 (by decide) (fun q => absurd q (shv_lt n (by omega))) (fun _ => ?_)
      refine lv_lload_n hx hb dX9_append_7 rfl (lv_at hl 2 rfl) ?_
      refine lv_iload_n hx hb dX9_append_8 rfl (lv_at hl 0 rfl) ?_
      refine lv_lushr hx hb dX9_append_9 rfl ?_
      refine lv_l2i hx hb dX9_append_10 rfl ?_
      refine lv_sipush (v := 255) hx hb dX9_append_11 (by decide) ?_
      refine lv_iand hx hb dX9_append_14 ?_
      refine lv_topi (fun sg esg => ?_)
      refine lv_istore (lv' := [(4, .int sg), (3, .int (shv (n + 1))), (0, .ref tp), (1, .long ev)]) hx hb dX9_append_15 hl (by decide) rfl (fun ls hl => ?_)
      refine lv_iload hx hb dX9_append_17 (lv_at hl 0 rfl) ?_
      refine lv_bipush (v := 10) hx hb dX9_append_19 (by decide) ?_
      refine lv_icmp_eq (tgt := 38) hx hb dX9_append_21 (by decide) (fun vc4 => ?_) (fun vc4 => ?_)
      · skip
        refine lv_iconst (v := 1) hx hb dX9_append_38 (by decide) ?_
        refine lv_goto (tgt := 43) hx hb dX9_append_39 (by decide) ?_
        refine lv_istore (lv' := [(5, .int 1), (4, .int sg), (3, .int (shv (n + 1))), (0, .ref tp), (1, .long ev)]) hx hb dX9_append_43 hl (by decide) rfl (fun ls hl => ?_)
        refine lv_iload hx hb dX9_append_45 (lv_at hl 0 rfl) ?_
        refine lv_if_eq (tgt := 79) hx hb dX9_append_47 (by decide) (fun q => absurd q (by decide)) (fun _ => ?_)
        refine lv_aload_n hx hb dX9_append_50 rfl (lv_at hl 3 rfl) ?_
        refine va_get (D := D) (ci := 9) (v := .int (nI kk)) (C := RX9) (T := TX9) (N := 12) hx hb hg inX9 hown hK hP 0 rfl rfl 5 (by decide) (hg _ w258) (fun _ h9 => h9) rfl dX9_append_51 ?_
        refine lv_sipush (v := 4000) hx hb dX9_append_54 (by decide) ?_
        refine lv_icmp_ge (tgt := 79) hx hb dX9_append_57 (by decide) (fun vc5 => ?_) (fun vc5 => ?_)
        · skip
          have gvc5 : 4000 ≤ kk := g_ge_ge (L := 4000) (by omega) (by omega) vc5
          refine lv_iinc (v := shv n) (lv' := [(3, .int (shv n)), (5, .int 1), (4, .int sg), (0, .ref tp), (1, .long ev)]) hx hb dX9_append_79 hl (k := 2) rfl (shv_dec n (by omega)) (by decide) rfl (fun ls hl => ?_)
          refine lv_goto (tgt := 3) hx hb dX9_append_82 (by decide) ?_
          have e1 : apk n ev (stp sg kk) = NF := by rw [esg]; exact hap
          rw [stp_f gvc5] at e1
          exact ih kk fs_ H locs ls (by omega) (by omega) e1 (hP.sub [0, 1] rfl) (hD.sub [0, 1] (by decide) rfl) hS (lv_sub hl [0, 3, 4] rfl)
        · skip
          have gvc5 : kk < 4000 := g_lt_ge (L := 4000) (by omega) (by omega) vc5
          refine lv_aload_n hx hb dX9_append_60 rfl (lv_at hl 3 rfl) ?_
          refine va_get (D := D) (ci := 9) (v := .ref t0) (C := RX9) (T := TX9) (N := 12) hx hb hg inX9 hown hK hP 0 rfl rfl 0 (by decide) (hg _ w252) (fun _ h9 => h9) rfl dX9_append_61 ?_
          refine lv_aload_n hx hb dX9_append_64 rfl (lv_at hl 3 rfl) ?_
          refine lv_dup hx hb dX9_append_65 rfl ?_
          refine va_get (D := D) (ci := 9) (v := .int (nI kk)) (C := RX9) (T := TX9) (N := 12) hx hb hg inX9 hown hK hP 0 rfl rfl 5 (by decide) (hg _ w258) (fun _ h9 => h9) rfl dX9_append_66 ?_
          refine lv_dup_x1 hx hb dX9_append_69 rfl rfl ?_
          refine lv_iconst (v := 1) hx hb dX9_append_70 (by decide) ?_
          refine lv_iadd hx hb dX9_append_71 ?_
          refine g_top (v := nI (kk + 1)) (nI_1 _) ?_
          refine va_put (D := D) (ci := 9) (v := .int (nI (kk + 1))) (ty := tyX9 5) (C := RX9) (T := TX9) (N := 12) hx hb hg inX9 tyX9 tyX9_ok nmX9 hown hK hP hD hS 0 rfl rfl 5 (by decide) (hg _ w258) (fun _ h9 => h9) rfl (tyX9_ok 5 (by decide)) rfl rfl (Nat.le_of_ble_eq_true rfl) dX9_append_72 (fun H locs hP hD hS => ?_)
          have hP : va_P D vwCl [(tp, .inr (9, [.ref t0, .ref t1, .ref t2, .ref t3, .ref t4, .int (nI (kk + 1)), .int 0, .int 0, .int 0, .int 0, .int 0, .long 0])), (t0, .inl (kt0, 4000, .inl (fs_)))] H := hP
          have hD : va_D A [(tp, .inr (9, [.ref t0, .ref t1, .ref t2, .ref t3, .ref t4, .int (nI (kk + 1)), .int 0, .int 0, .int 0, .int 0, .int 0, .long 0])), (t0, .inl (kt0, 4000, .inl (fs_)))] := hD
          refine lv_iload hx hb dX9_append_75 (lv_at hl 1 rfl) ?_
          refine lv_i2b hx hb dX9_append_77 rfl ?_
          refine va_bast (D := D) (i := (nI kk)) (x := (sg).toInt8.toInt32) hx hb hK hP hD hS 1 0 rfl rfl (vp_in_nI (by omega) (by omega)) dX9_append_78 (fun H locs hP hD hS => ?_)
          obtain ⟨vf6, hP, hD⟩ : ∃ vf6 : Nat → Int32, va_P D vwCl [(tp, .inr (9, [.ref t0, .ref t1, .ref t2, .ref t3, .ref t4, .int (nI (kk + 1)), .int 0, .int 0, .int 0, .int 0, .int 0, .long 0])), (t0, .inl (kt0, 4000, .inl (vf6)))] H ∧ va_D A [(tp, .inr (9, [.ref t0, .ref t1, .ref t2, .ref t3, .ref t4, .int (nI (kk + 1)), .int 0, .int 0, .int 0, .int 0, .int 0, .long 0])), (t0, .inl (kt0, 4000, .inl (vf6)))] := ⟨_, hP, hD⟩
          refine lv_iinc (v := shv n) (lv' := [(3, .int (shv n)), (5, .int 1), (4, .int sg), (0, .ref tp), (1, .long ev)]) hx hb dX9_append_79 hl (k := 2) rfl (shv_dec n (by omega)) (by decide) rfl (fun ls hl => ?_)
          refine lv_goto (tgt := 3) hx hb dX9_append_82 (by decide) ?_
          have e1 : apk n ev (stp sg kk) = NF := by rw [esg]; exact hap
          rw [stp_y1 vc4 gvc5] at e1
          exact ih (kk + 1) vf6 H locs ls (by omega) (by omega) e1 (hP.sub [0, 1] rfl) (hD.sub [0, 1] (by decide) rfl) hS (lv_sub hl [0, 3, 4] rfl)
      · skip
        refine lv_iload hx hb dX9_append_24 (lv_at hl 0 rfl) ?_
        refine lv_bipush (v := 32) hx hb dX9_append_26 (by decide) ?_
        refine lv_icmp_lt (tgt := 42) hx hb dX9_append_28 (by decide) (fun vc7 => ?_) (fun vc7 => ?_)
        · skip
          refine lv_iconst (v := 0) hx hb dX9_append_42 (by decide) ?_
          refine lv_istore (lv' := [(5, .int 0), (4, .int sg), (3, .int (shv (n + 1))), (0, .ref tp), (1, .long ev)]) hx hb dX9_append_43 hl (by decide) rfl (fun ls hl => ?_)
          refine lv_iload hx hb dX9_append_45 (lv_at hl 0 rfl) ?_
          refine lv_if_eq (tgt := 79) hx hb dX9_append_47 (by decide) (fun _ => ?_) (fun q => absurd (by decide) q)
          refine lv_iinc (v := shv n) (lv' := [(3, .int (shv n)), (5, .int 0), (4, .int sg), (0, .ref tp), (1, .long ev)]) hx hb dX9_append_79 hl (k := 2) rfl (shv_dec n (by omega)) (by decide) rfl (fun ls hl => ?_)
          refine lv_goto (tgt := 3) hx hb dX9_append_82 (by decide) ?_
          have e1 : apk n ev (stp sg kk) = NF := by rw [esg]; exact hap
          rw [stp_n1 vc4 vc7] at e1
          exact ih kk fs_ H locs ls (by omega) (by omega) e1 (hP.sub [0, 1] rfl) (hD.sub [0, 1] (by decide) rfl) hS (lv_sub hl [0, 3, 4] rfl)
        · skip
          refine lv_iload hx hb dX9_append_31 (lv_at hl 0 rfl) ?_
          refine lv_bipush (v := 126) hx hb dX9_append_33 (by decide) ?_
          refine lv_icmp_gt (tgt := 42) hx hb dX9_append_35 (by decide) (fun vc8 => ?_) (fun vc8 => ?_)
          · skip
            refine lv_iconst (v := 0) hx hb dX9_append_42 (by decide) ?_
            refine lv_istore (lv' := [(5, .int 0), (4, .int sg), (3, .int (shv (n + 1))), (0, .ref tp), (1, .long ev)]) hx hb dX9_append_43 hl (by decide) rfl (fun ls hl => ?_)
            refine lv_iload hx hb dX9_append_45 (lv_at hl 0 rfl) ?_
            refine lv_if_eq (tgt := 79) hx hb dX9_append_47 (by decide) (fun _ => ?_) (fun q => absurd (by decide) q)
            refine lv_iinc (v := shv n) (lv' := [(3, .int (shv n)), (5, .int 0), (4, .int sg), (0, .ref tp), (1, .long ev)]) hx hb dX9_append_79 hl (k := 2) rfl (shv_dec n (by omega)) (by decide) rfl (fun ls hl => ?_)
            refine lv_goto (tgt := 3) hx hb dX9_append_82 (by decide) ?_
            have e1 : apk n ev (stp sg kk) = NF := by rw [esg]; exact hap
            rw [stp_n2 vc4 vc8] at e1
            exact ih kk fs_ H locs ls (by omega) (by omega) e1 (hP.sub [0, 1] rfl) (hD.sub [0, 1] (by decide) rfl) hS (lv_sub hl [0, 3, 4] rfl)
          · skip
            refine lv_iconst (v := 1) hx hb dX9_append_38 (by decide) ?_
            refine lv_goto (tgt := 43) hx hb dX9_append_39 (by decide) ?_
            refine lv_istore (lv' := [(5, .int 1), (4, .int sg), (3, .int (shv (n + 1))), (0, .ref tp), (1, .long ev)]) hx hb dX9_append_43 hl (by decide) rfl (fun ls hl => ?_)
            refine lv_iload hx hb dX9_append_45 (lv_at hl 0 rfl) ?_
            refine lv_if_eq (tgt := 79) hx hb dX9_append_47 (by decide) (fun q => absurd q (by decide)) (fun _ => ?_)
            refine lv_aload_n hx hb dX9_append_50 rfl (lv_at hl 3 rfl) ?_
            refine va_get (D := D) (ci := 9) (v := .int (nI kk)) (C := RX9) (T := TX9) (N := 12) hx hb hg inX9 hown hK hP 0 rfl rfl 5 (by decide) (hg _ w258) (fun _ h9 => h9) rfl dX9_append_51 ?_
            refine lv_sipush (v := 4000) hx hb dX9_append_54 (by decide) ?_
            refine lv_icmp_ge (tgt := 79) hx hb dX9_append_57 (by decide) (fun vc9 => ?_) (fun vc9 => ?_)
            · skip
              have gvc9 : 4000 ≤ kk := g_ge_ge (L := 4000) (by omega) (by omega) vc9
              refine lv_iinc (v := shv n) (lv' := [(3, .int (shv n)), (5, .int 1), (4, .int sg), (0, .ref tp), (1, .long ev)]) hx hb dX9_append_79 hl (k := 2) rfl (shv_dec n (by omega)) (by decide) rfl (fun ls hl => ?_)
              refine lv_goto (tgt := 3) hx hb dX9_append_82 (by decide) ?_
              have e1 : apk n ev (stp sg kk) = NF := by rw [esg]; exact hap
              rw [stp_f gvc9] at e1
              exact ih kk fs_ H locs ls (by omega) (by omega) e1 (hP.sub [0, 1] rfl) (hD.sub [0, 1] (by decide) rfl) hS (lv_sub hl [0, 3, 4] rfl)
            · skip
              have gvc9 : kk < 4000 := g_lt_ge (L := 4000) (by omega) (by omega) vc9
              refine lv_aload_n hx hb dX9_append_60 rfl (lv_at hl 3 rfl) ?_
              refine va_get (D := D) (ci := 9) (v := .ref t0) (C := RX9) (T := TX9) (N := 12) hx hb hg inX9 hown hK hP 0 rfl rfl 0 (by decide) (hg _ w252) (fun _ h9 => h9) rfl dX9_append_61 ?_
              refine lv_aload_n hx hb dX9_append_64 rfl (lv_at hl 3 rfl) ?_
              refine lv_dup hx hb dX9_append_65 rfl ?_
              refine va_get (D := D) (ci := 9) (v := .int (nI kk)) (C := RX9) (T := TX9) (N := 12) hx hb hg inX9 hown hK hP 0 rfl rfl 5 (by decide) (hg _ w258) (fun _ h9 => h9) rfl dX9_append_66 ?_
              refine lv_dup_x1 hx hb dX9_append_69 rfl rfl ?_
              refine lv_iconst (v := 1) hx hb dX9_append_70 (by decide) ?_
              refine lv_iadd hx hb dX9_append_71 ?_
              refine g_top (v := nI (kk + 1)) (nI_1 _) ?_
              refine va_put (D := D) (ci := 9) (v := .int (nI (kk + 1))) (ty := tyX9 5) (C := RX9) (T := TX9) (N := 12) hx hb hg inX9 tyX9 tyX9_ok nmX9 hown hK hP hD hS 0 rfl rfl 5 (by decide) (hg _ w258) (fun _ h9 => h9) rfl (tyX9_ok 5 (by decide)) rfl rfl (Nat.le_of_ble_eq_true rfl) dX9_append_72 (fun H locs hP hD hS => ?_)
              have hP : va_P D vwCl [(tp, .inr (9, [.ref t0, .ref t1, .ref t2, .ref t3, .ref t4, .int (nI (kk + 1)), .int 0, .int 0, .int 0, .int 0, .int 0, .long 0])), (t0, .inl (kt0, 4000, .inl (fs_)))] H := hP
              have hD : va_D A [(tp, .inr (9, [.ref t0, .ref t1, .ref t2, .ref t3, .ref t4, .int (nI (kk + 1)), .int 0, .int 0, .int 0, .int 0, .int 0, .long 0])), (t0, .inl (kt0, 4000, .inl (fs_)))] := hD
              refine lv_iload hx hb dX9_append_75 (lv_at hl 1 rfl) ?_
              refine lv_i2b hx hb dX9_append_77 rfl ?_
              refine va_bast (D := D) (i := (nI kk)) (x := (sg).toInt8.toInt32) hx hb hK hP hD hS 1 0 rfl rfl (vp_in_nI (by omega) (by omega)) dX9_append_78 (fun H locs hP hD hS => ?_)
              obtain ⟨vf10, hP, hD⟩ : ∃ vf10 : Nat → Int32, va_P D vwCl [(tp, .inr (9, [.ref t0, .ref t1, .ref t2, .ref t3, .ref t4, .int (nI (kk + 1)), .int 0, .int 0, .int 0, .int 0, .int 0, .long 0])), (t0, .inl (kt0, 4000, .inl (vf10)))] H ∧ va_D A [(tp, .inr (9, [.ref t0, .ref t1, .ref t2, .ref t3, .ref t4, .int (nI (kk + 1)), .int 0, .int 0, .int 0, .int 0, .int 0, .long 0])), (t0, .inl (kt0, 4000, .inl (vf10)))] := ⟨_, hP, hD⟩
              refine lv_iinc (v := shv n) (lv' := [(3, .int (shv n)), (5, .int 1), (4, .int sg), (0, .ref tp), (1, .long ev)]) hx hb dX9_append_79 hl (k := 2) rfl (shv_dec n (by omega)) (by decide) rfl (fun ls hl => ?_)
              refine lv_goto (tgt := 3) hx hb dX9_append_82 (by decide) ?_
              have e1 : apk n ev (stp sg kk) = NF := by rw [esg]; exact hap
              rw [stp_y2 vc7 vc8 gvc9] at e1
              exact ih (kk + 1) vf10 H locs ls (by omega) (by omega) e1 (hP.sub [0, 1] rfl) (hD.sub [0, 1] (by decide) rfl) hS (lv_sub hl [0, 3, 4] rfl)
  exact vlp1 8 k fs H locs ls (by omega) hk hNF hP hD hS hl
abbrev r_c_feed : Room := { frames := 1, cells := 0, slots := 0, locals := 25 }
abbrev q_c_feed (D : va_G) (h0 : Nat) (tp : Nat) (rd : Nat) (ck : Nat) (sk : Nat) (nt : Nat) (mc : Nat) (sh : Nat) (sp : Nat) (t0 : Nat) (t1 : Nat) (t2 : Nat) (t3 : Nat) (t4 : Nat) (kt0 : ClassId) (va : Int64) (vb : Int64) (vd : Int64) (A : Nat → Prop) : Array Value → State → Outcome → State → Prop := va_Qi (fun (r : Int32) (_ : Unit) => r = nI (apk 8 vd (apk 8 vb (apk 8 va 0)))) (fun u t => gq D A ((fun (_ : Unit) => []) u) ((fun (_ : Unit) => ([] : List (ClassId × FieldType))) u) t) A
set_option maxHeartbeats 4000000 in
set_option maxRecDepth 100000 in
theorem c_feed (l : Launch) (D : va_G) (ks : Nat × Nat × Option Nat) (sz : Nat) (h0 : Nat) (tp : Nat) (rd : Nat) (ck : Nat) (sk : Nat) (nt : Nat) (mc : Nat) (sh : Nat) (sp : Nat) (t0 : Nat) (t1 : Nat) (t2 : Nat) (t3 : Nat) (t4 : Nat) (kt0 : ClassId) (va : Int64) (vb : Int64) (vd : Int64) : Met l yX11_feed (Cond.code yX11_feed cX11_feed 7 (some .int) :: GW) r_c_feed (va_Pc [.ref h0, .long va, .long vb, .long vd] (gp D ks [(h0, .inr (11, [.ref tp, .ref rd, .ref ck, .ref sk, .ref nt, .ref mc, .ref sh, .ref sp, .int 0, .int 0])), (tp, .inr (9, [.ref t0, .ref t1, .ref t2, .ref t3, .ref t4, .int 0, .int 0, .int 0, .int 0, .int 0, .int 0, .long 0])), (t0, .inl (kt0, 4000, .inl (fun _ => 0)))] [(kt0, .byte)] sz)) (q_c_feed D h0 tp rd ck sk nt mc sh sp t0 t1 t2 t3 t4 kt0 va vb vd (va_A [(h0, .inr (11, [.ref tp, .ref rd, .ref ck, .ref sk, .ref nt, .ref mc, .ref sh, .ref sp, .int 0, .int 0])), (tp, .inr (9, [.ref t0, .ref t1, .ref t2, .ref t3, .ref t4, .int 0, .int 0, .int 0, .int 0, .int 0, .int 0, .long 0])), (t0, .inl (kt0, 4000, .inl (fun _ => 0)))] sz)) 0 0 (va_A [(h0, .inr (11, [.ref tp, .ref rd, .ref ck, .ref sk, .ref nt, .ref mc, .ref sh, .ref sp, .int 0, .int 0])), (tp, .inr (9, [.ref t0, .ref t1, .ref t2, .ref t3, .ref t4, .int 0, .int 0, .int 0, .int 0, .int 0, .int 0, .long 0])), (t0, .inl (kt0, 4000, .inl (fun _ => 0)))] sz) := by
  refine g_met (q_c_feed D h0 tp rd ck sk nt mc sh sp t0 t1 t2 t3 t4 kt0 va vb vd) (by decide) (Nat.le_of_ble_eq_true rfl) ?_
  intro p e s m below meth c A ls H locs hx hb hr hml hown hg hlocks hin hnw hgk hP hK hD hS hA hl
  have hown : s.vm.findClass RX11 = some m.cls := hown
  have hl : lv_has ls 7 [(0, .ref h0), (1, .long va), (3, .long vb), (5, .long vd)] := hl
  refine lv_aload_n hx hb dX11_feed_0 rfl (lv_at hl 0 rfl) ?_
  refine va_get (D := D) (ci := 11) (v := .ref tp) (C := RX11) (T := TX11) (N := 10) hx hb hg inX11 hown hK hP 0 rfl rfl 0 (by decide) (hg _ w715) (fun _ h9 => h9) rfl dX11_feed_1 ?_
  refine lv_lload_n hx hb dX11_feed_4 rfl (lv_at hl 1 rfl) ?_
  refine g_void (wr := [(h0, .inr (11, [.ref tp, .ref rd, .ref ck, .ref sk, .ref nt, .ref mc, .ref sh, .ref sp, .int 0, .int 0]))]) (tr := []) (g_runV (As := [.long va]) (rest := []) (wc := [(tp, .inr (9, [.ref t0, .ref t1, .ref t2, .ref t3, .ref t4, .int (nI 0), .int 0, .int 0, .int 0, .int 0, .int 0, .long 0])), (t0, .inl (kt0, 4000, .inl ((fun _ => 0))))]) (tc := [(kt0, .byte)]) (ci := 9) (q0 := 1) hx hb hml hown hg gw_self hP hD hK hS hA hnw hgk [1, 2] [0] (by decide) rfl rfl (c_append l D ks H.size tp t0 t1 t2 t3 t4 0 kt0 (fun _ => 0) va (by decide)) w750 w751 w752 w157 w753 rfl rfl hdV_yX9_append ⟨Nat.le_of_ble_eq_true rfl, Nat.le_of_ble_eq_true rfl⟩ rfl hl.1 rfl (Nat.le_of_ble_eq_true rfl) dX11_feed_5 ⟨Nat.le_of_ble_eq_true rfl, Nat.le_of_ble_eq_true rfl⟩) hP hD hK hS hA [1, 2] [0] [] rfl rfl (by decide) (by decide) rfl (fun vu3 H locs vhw2 hP hD hK hS => ?_)
  obtain ⟨vg__1, rfl⟩ : ∃ z, z = vu3 := ⟨_, rfl⟩
  have hP : va_P D vwCl [(h0, .inr (11, [.ref tp, .ref rd, .ref ck, .ref sk, .ref nt, .ref mc, .ref sh, .ref sp, .int 0, .int 0])), (tp, .inr (9, [.ref t0, .ref t1, .ref t2, .ref t3, .ref t4, .int (nI (apk 8 va 0)), .int 0, .int 0, .int 0, .int 0, .int 0, .long 0])), (t0, .inl (kt0, 4000, .inl (vg__1)))] H := hP
  have hD : va_D A [(h0, .inr (11, [.ref tp, .ref rd, .ref ck, .ref sk, .ref nt, .ref mc, .ref sh, .ref sp, .int 0, .int 0])), (tp, .inr (9, [.ref t0, .ref t1, .ref t2, .ref t3, .ref t4, .int (nI (apk 8 va 0)), .int 0, .int 0, .int 0, .int 0, .int 0, .long 0])), (t0, .inl (kt0, 4000, .inl (vg__1)))] := hD
  have hK : va_K D vwCl [(kt0, .byte)] s := hK
  refine lv_aload_n hx hb dX11_feed_8 rfl (lv_at hl 0 rfl) ?_
  refine va_get (D := D) (ci := 11) (v := .ref tp) (C := RX11) (T := TX11) (N := 10) hx hb hg inX11 hown hK hP 0 rfl rfl 0 (by decide) (hg _ w715) (fun _ h9 => h9) rfl dX11_feed_9 ?_
  refine lv_lload_n hx hb dX11_feed_12 rfl (lv_at hl 2 rfl) ?_
  refine g_void (wr := [(h0, .inr (11, [.ref tp, .ref rd, .ref ck, .ref sk, .ref nt, .ref mc, .ref sh, .ref sp, .int 0, .int 0]))]) (tr := []) (g_runV (As := [.long vb]) (rest := []) (wc := [(tp, .inr (9, [.ref t0, .ref t1, .ref t2, .ref t3, .ref t4, .int (nI (apk 8 va 0)), .int 0, .int 0, .int 0, .int 0, .int 0, .long 0])), (t0, .inl (kt0, 4000, .inl (vg__1)))]) (tc := [(kt0, .byte)]) (ci := 9) (q0 := 1) hx hb hml hown hg gw_self hP hD hK hS hA hnw hgk [1, 2] [0] (by decide) rfl rfl (c_append l D ks H.size tp t0 t1 t2 t3 t4 (apk 8 va 0) kt0 vg__1 vb (apk_le 8 _ _ (by decide))) w750 w751 w752 w157 w753 rfl rfl hdV_yX9_append ⟨Nat.le_of_ble_eq_true rfl, Nat.le_of_ble_eq_true rfl⟩ rfl hl.1 rfl (Nat.le_of_ble_eq_true rfl) dX11_feed_13 ⟨Nat.le_of_ble_eq_true rfl, Nat.le_of_ble_eq_true rfl⟩) hP hD hK hS hA [1, 2] [0] [] rfl rfl (by decide) (by decide) rfl (fun vu6 H locs vhw5 hP hD hK hS => ?_)
  obtain ⟨vg__4, rfl⟩ : ∃ z, z = vu6 := ⟨_, rfl⟩
  have hP : va_P D vwCl [(h0, .inr (11, [.ref tp, .ref rd, .ref ck, .ref sk, .ref nt, .ref mc, .ref sh, .ref sp, .int 0, .int 0])), (tp, .inr (9, [.ref t0, .ref t1, .ref t2, .ref t3, .ref t4, .int (nI (apk 8 vb (apk 8 va 0))), .int 0, .int 0, .int 0, .int 0, .int 0, .long 0])), (t0, .inl (kt0, 4000, .inl (vg__4)))] H := hP
  have hD : va_D A [(h0, .inr (11, [.ref tp, .ref rd, .ref ck, .ref sk, .ref nt, .ref mc, .ref sh, .ref sp, .int 0, .int 0])), (tp, .inr (9, [.ref t0, .ref t1, .ref t2, .ref t3, .ref t4, .int (nI (apk 8 vb (apk 8 va 0))), .int 0, .int 0, .int 0, .int 0, .int 0, .long 0])), (t0, .inl (kt0, 4000, .inl (vg__4)))] := hD
  have hK : va_K D vwCl [(kt0, .byte)] s := hK
  refine lv_aload_n hx hb dX11_feed_16 rfl (lv_at hl 0 rfl) ?_
  refine va_get (D := D) (ci := 11) (v := .ref tp) (C := RX11) (T := TX11) (N := 10) hx hb hg inX11 hown hK hP 0 rfl rfl 0 (by decide) (hg _ w715) (fun _ h9 => h9) rfl dX11_feed_17 ?_
  refine lv_lload hx hb dX11_feed_20 (lv_at hl 3 rfl) ?_
  refine g_void (wr := [(h0, .inr (11, [.ref tp, .ref rd, .ref ck, .ref sk, .ref nt, .ref mc, .ref sh, .ref sp, .int 0, .int 0]))]) (tr := []) (g_runV (As := [.long vd]) (rest := []) (wc := [(tp, .inr (9, [.ref t0, .ref t1, .ref t2, .ref t3, .ref t4, .int (nI (apk 8 vb (apk 8 va 0))), .int 0, .int 0, .int 0, .int 0, .int 0, .long 0])), (t0, .inl (kt0, 4000, .inl (vg__4)))]) (tc := [(kt0, .byte)]) (ci := 9) (q0 := 1) hx hb hml hown hg gw_self hP hD hK hS hA hnw hgk [1, 2] [0] (by decide) rfl rfl (c_append l D ks H.size tp t0 t1 t2 t3 t4 (apk 8 vb (apk 8 va 0)) kt0 vg__4 vd (apk_le 8 _ _ (apk_le 8 _ _ (by decide)))) w750 w751 w752 w157 w753 rfl rfl hdV_yX9_append ⟨Nat.le_of_ble_eq_true rfl, Nat.le_of_ble_eq_true rfl⟩ rfl hl.1 rfl (Nat.le_of_ble_eq_true rfl) dX11_feed_22 ⟨Nat.le_of_ble_eq_true rfl, Nat.le_of_ble_eq_true rfl⟩) hP hD hK hS hA [1, 2] [0] [] rfl rfl (by decide) (by decide) rfl (fun vu9 H locs vhw8 hP hD hK hS => ?_)
  obtain ⟨vg__7, rfl⟩ : ∃ z, z = vu9 := ⟨_, rfl⟩
  have hP : va_P D vwCl [(h0, .inr (11, [.ref tp, .ref rd, .ref ck, .ref sk, .ref nt, .ref mc, .ref sh, .ref sp, .int 0, .int 0])), (tp, .inr (9, [.ref t0, .ref t1, .ref t2, .ref t3, .ref t4, .int (nI (apk 8 vd (apk 8 vb (apk 8 va 0)))), .int 0, .int 0, .int 0, .int 0, .int 0, .long 0])), (t0, .inl (kt0, 4000, .inl (vg__7)))] H := hP
  have hD : va_D A [(h0, .inr (11, [.ref tp, .ref rd, .ref ck, .ref sk, .ref nt, .ref mc, .ref sh, .ref sp, .int 0, .int 0])), (tp, .inr (9, [.ref t0, .ref t1, .ref t2, .ref t3, .ref t4, .int (nI (apk 8 vd (apk 8 vb (apk 8 va 0)))), .int 0, .int 0, .int 0, .int 0, .int 0, .long 0])), (t0, .inl (kt0, 4000, .inl (vg__7)))] := hD
  have hK : va_K D vwCl [(kt0, .byte)] s := hK
  refine lv_aload_n hx hb dX11_feed_25 rfl (lv_at hl 0 rfl) ?_
  refine va_get (D := D) (ci := 11) (v := .ref tp) (C := RX11) (T := TX11) (N := 10) hx hb hg inX11 hown hK hP 0 rfl rfl 0 (by decide) (hg _ w715) (fun _ h9 => h9) rfl dX11_feed_26 ?_
  refine va_getN (D := D) (ci := 9) (v := .int (nI (apk 8 vd (apk 8 vb (apk 8 va 0))))) (C := RX9) (T := TX9) (N := 12) hx hb hg inX9 hown hK hP 1 rfl rfl 5 (by decide) (hnw.use 257 n257 rfl) (fun _ h9 => h9) rfl dX11_feed_29 ?_
  refine W.widen (k := 0) (n := 0) (Nat.le_of_ble_eq_true rfl) (Nat.le_of_ble_eq_true rfl) ?_
  have hP9 := hP.sub (ws' := []) [] rfl
  have hD9 := hD.sub (ws' := []) [] (by decide) rfl
  have hK9 := hK.sub (tys' := []) [] rfl
  exact W.iret (v := (nI (apk 8 vd (apk 8 vb (apk 8 va 0))))) hx hb hr (fun t ht hW => ⟨⟨(nI (apk 8 vd (apk 8 vb (apk 8 va 0)))), (), rfl, (by first | rfl | trivial | assumption | decide), by rw [ht]; exact hP9, va_K.moved hW.alike hK9, hD9⟩, hS.F ht⟩) hS.2.2 dX11_feed_32
abbrev r_c_book : Room := { frames := 3, cells := 0, slots := 0, locals := 64 }
abbrev q_c_book (D : va_G) (h0 : Nat) (tp : Nat) (rd : Nat) (ck : Nat) (sk : Nat) (nt : Nat) (mc : Nat) (sh : Nat) (sp : Nat) (t0 : Nat) (t1 : Nat) (t2 : Nat) (t3 : Nat) (t4 : Nat) (kt2 : ClassId) (kt3 : ClassId) (kt4 : ClassId) (f0 : Nat) (f1 : Nat) (f2 : Nat) (f3 : Nat) (f4 : Nat) (g5 : Nat) (g6 : Nat) (g7 : Nat) (g8 : Nat) (g9 : Nat) (g10 : Nat) (j0 : Nat) (j1 : Nat) (j2 : Nat) (j3 : Nat) (j4 : Nat) (s0 : Nat) (s1 : Nat) (s2 : Nat) (s3 : Nat) (s4 : Nat) (s5 : Nat) (s6 : Nat) (s7 : Nat) (s8 : Nat) (s9 : Nat) (s10 : Nat) (s11 : Nat) (ks2 : ClassId) (ks3 : ClassId) (ks4 : ClassId) (gs4 : Nat → Int32) (n0 : Nat) (n1 : Nat) (n2 : Nat) (n3 : Nat) (n4 : Nat) (c0 : Nat) (c1 : Nat) (c2 : Nat) (c3 : Nat) (c4 : Nat) (c5 : Nat) (m0 : Nat) (m1 : Nat) (m2 : Nat) (A : Nat → Prop) : Array Value → State → Outcome → State → Prop := va_Qi (fun (r : Int32) (_ : Unit) => r = 0) (fun u t => gq D A ((fun (_ : Unit) => []) u) ((fun (_ : Unit) => ([] : List (ClassId × FieldType))) u) t) A
set_option maxHeartbeats 4000000 in
set_option maxRecDepth 100000 in
theorem c_book (l : Launch) (D : va_G) (ks : Nat × Nat × Option Nat) (sz : Nat) (h0 : Nat) (tp : Nat) (rd : Nat) (ck : Nat) (sk : Nat) (nt : Nat) (mc : Nat) (sh : Nat) (sp : Nat) (t0 : Nat) (t1 : Nat) (t2 : Nat) (t3 : Nat) (t4 : Nat) (kt2 : ClassId) (kt3 : ClassId) (kt4 : ClassId) (f0 : Nat) (f1 : Nat) (f2 : Nat) (f3 : Nat) (f4 : Nat) (g5 : Nat) (g6 : Nat) (g7 : Nat) (g8 : Nat) (g9 : Nat) (g10 : Nat) (j0 : Nat) (j1 : Nat) (j2 : Nat) (j3 : Nat) (j4 : Nat) (s0 : Nat) (s1 : Nat) (s2 : Nat) (s3 : Nat) (s4 : Nat) (s5 : Nat) (s6 : Nat) (s7 : Nat) (s8 : Nat) (s9 : Nat) (s10 : Nat) (s11 : Nat) (ks2 : ClassId) (ks3 : ClassId) (ks4 : ClassId) (gs4 : Nat → Int32) (n0 : Nat) (n1 : Nat) (n2 : Nat) (n3 : Nat) (n4 : Nat) (c0 : Nat) (c1 : Nat) (c2 : Nat) (c3 : Nat) (c4 : Nat) (c5 : Nat) (m0 : Nat) (m1 : Nat) (m2 : Nat) : Met l yX11_book (Cond.code yX11_book cX11_book 3 (some .int) :: GW) r_c_book (va_Pc [.ref h0] (gp D ks [(h0, .inr (11, [.ref tp, .ref rd, .ref ck, .ref sk, .ref nt, .ref mc, .ref sh, .ref sp, .int 0, .int 0])), (tp, .inr (9, [.ref t0, .ref t1, .ref t2, .ref t3, .ref t4, .int 0, .int 0, .int 0, .int 0, .int 0, .int 0, .long 0])), (t2, .inl (kt2, 4001, .inl (fun _ => 0))), (t3, .inl (kt3, 4001, .inl (fun _ => 0))), (t4, .inl (kt4, 4001, .inr (.inl (fun _ => 0)))), (rd, .inr (1, [.ref tp, .null, .null, .int 0, .int 0, .long 0, .int 0, .int 0, .int 0])), (sp, .inr (0, [.ref f0, .ref f1, .ref f2, .ref f3, .ref f4, .ref g5, .ref g6, .ref g7, .ref g8, .ref g9, .ref g10, .int 0, .int 0])), (f0, .inr (6, [.ref j0, .int 0])), (f1, .inr (6, [.ref j1, .int 0])), (f2, .inr (6, [.ref j2, .int 0])), (f3, .inr (6, [.ref j3, .int 0])), (f4, .inr (6, [.ref j4, .int 0])), (sk, .inr (8, [.ref s0, .ref s1, .ref s2, .ref s3, .ref s4, .ref s5, .ref s6, .ref s7, .ref s8, .ref s9, .ref s10, .ref s11, .int 1, .int 0, .int 0, .int 0])), (s2, .inl (ks2, 40, .inl (upd (fun _ => 0) 0 1))), (s3, .inl (ks3, 40, .inl (fun _ => 0))), (s4, .inl (ks4, 960, .inl (gs4))), (nt, .inr (7, [.ref n0, .ref n1, .ref n2, .ref n3, .ref n4, .int 0, .int 0, .int 0, .int 0, .int 0])), (ck, .inr (2, [.ref c0, .ref c1, .ref c2, .ref c3, .ref c4, .ref c5, .null, .int 0])), (mc, .inr (5, [.ref sk, .ref nt, .ref m0, .ref m1, .ref m2, .ref sh, .int 0, .int 0, .int 0, .int 0, .int 0, .int 0, .int 0, .int 0, .int 0]))] [(kt2, .int), (kt3, .int), (kt4, .long), (ks2, .boolean), (ks3, .int), (ks4, .int)] sz)) (q_c_book D h0 tp rd ck sk nt mc sh sp t0 t1 t2 t3 t4 kt2 kt3 kt4 f0 f1 f2 f3 f4 g5 g6 g7 g8 g9 g10 j0 j1 j2 j3 j4 s0 s1 s2 s3 s4 s5 s6 s7 s8 s9 s10 s11 ks2 ks3 ks4 gs4 n0 n1 n2 n3 n4 c0 c1 c2 c3 c4 c5 m0 m1 m2 (va_A [(h0, .inr (11, [.ref tp, .ref rd, .ref ck, .ref sk, .ref nt, .ref mc, .ref sh, .ref sp, .int 0, .int 0])), (tp, .inr (9, [.ref t0, .ref t1, .ref t2, .ref t3, .ref t4, .int 0, .int 0, .int 0, .int 0, .int 0, .int 0, .long 0])), (t2, .inl (kt2, 4001, .inl (fun _ => 0))), (t3, .inl (kt3, 4001, .inl (fun _ => 0))), (t4, .inl (kt4, 4001, .inr (.inl (fun _ => 0)))), (rd, .inr (1, [.ref tp, .null, .null, .int 0, .int 0, .long 0, .int 0, .int 0, .int 0])), (sp, .inr (0, [.ref f0, .ref f1, .ref f2, .ref f3, .ref f4, .ref g5, .ref g6, .ref g7, .ref g8, .ref g9, .ref g10, .int 0, .int 0])), (f0, .inr (6, [.ref j0, .int 0])), (f1, .inr (6, [.ref j1, .int 0])), (f2, .inr (6, [.ref j2, .int 0])), (f3, .inr (6, [.ref j3, .int 0])), (f4, .inr (6, [.ref j4, .int 0])), (sk, .inr (8, [.ref s0, .ref s1, .ref s2, .ref s3, .ref s4, .ref s5, .ref s6, .ref s7, .ref s8, .ref s9, .ref s10, .ref s11, .int 1, .int 0, .int 0, .int 0])), (s2, .inl (ks2, 40, .inl (upd (fun _ => 0) 0 1))), (s3, .inl (ks3, 40, .inl (fun _ => 0))), (s4, .inl (ks4, 960, .inl (gs4))), (nt, .inr (7, [.ref n0, .ref n1, .ref n2, .ref n3, .ref n4, .int 0, .int 0, .int 0, .int 0, .int 0])), (ck, .inr (2, [.ref c0, .ref c1, .ref c2, .ref c3, .ref c4, .ref c5, .null, .int 0])), (mc, .inr (5, [.ref sk, .ref nt, .ref m0, .ref m1, .ref m2, .ref sh, .int 0, .int 0, .int 0, .int 0, .int 0, .int 0, .int 0, .int 0, .int 0]))] sz)) 0 0 (va_A [(h0, .inr (11, [.ref tp, .ref rd, .ref ck, .ref sk, .ref nt, .ref mc, .ref sh, .ref sp, .int 0, .int 0])), (tp, .inr (9, [.ref t0, .ref t1, .ref t2, .ref t3, .ref t4, .int 0, .int 0, .int 0, .int 0, .int 0, .int 0, .long 0])), (t2, .inl (kt2, 4001, .inl (fun _ => 0))), (t3, .inl (kt3, 4001, .inl (fun _ => 0))), (t4, .inl (kt4, 4001, .inr (.inl (fun _ => 0)))), (rd, .inr (1, [.ref tp, .null, .null, .int 0, .int 0, .long 0, .int 0, .int 0, .int 0])), (sp, .inr (0, [.ref f0, .ref f1, .ref f2, .ref f3, .ref f4, .ref g5, .ref g6, .ref g7, .ref g8, .ref g9, .ref g10, .int 0, .int 0])), (f0, .inr (6, [.ref j0, .int 0])), (f1, .inr (6, [.ref j1, .int 0])), (f2, .inr (6, [.ref j2, .int 0])), (f3, .inr (6, [.ref j3, .int 0])), (f4, .inr (6, [.ref j4, .int 0])), (sk, .inr (8, [.ref s0, .ref s1, .ref s2, .ref s3, .ref s4, .ref s5, .ref s6, .ref s7, .ref s8, .ref s9, .ref s10, .ref s11, .int 1, .int 0, .int 0, .int 0])), (s2, .inl (ks2, 40, .inl (upd (fun _ => 0) 0 1))), (s3, .inl (ks3, 40, .inl (fun _ => 0))), (s4, .inl (ks4, 960, .inl (gs4))), (nt, .inr (7, [.ref n0, .ref n1, .ref n2, .ref n3, .ref n4, .int 0, .int 0, .int 0, .int 0, .int 0])), (ck, .inr (2, [.ref c0, .ref c1, .ref c2, .ref c3, .ref c4, .ref c5, .null, .int 0])), (mc, .inr (5, [.ref sk, .ref nt, .ref m0, .ref m1, .ref m2, .ref sh, .int 0, .int 0, .int 0, .int 0, .int 0, .int 0, .int 0, .int 0, .int 0]))] sz) := by
  refine g_met (q_c_book D h0 tp rd ck sk nt mc sh sp t0 t1 t2 t3 t4 kt2 kt3 kt4 f0 f1 f2 f3 f4 g5 g6 g7 g8 g9 g10 j0 j1 j2 j3 j4 s0 s1 s2 s3 s4 s5 s6 s7 s8 s9 s10 s11 ks2 ks3 ks4 gs4 n0 n1 n2 n3 n4 c0 c1 c2 c3 c4 c5 m0 m1 m2) (by decide) (Nat.le_of_ble_eq_true rfl) ?_
  intro p e s m below meth c A ls H locs hx hb hr hml hown hg hlocks hin hnw hgk hP hK hD hS hA hl
  have hown : s.vm.findClass RX11 = some m.cls := hown
  have hl : lv_has ls 3 [(0, .ref h0)] := hl
  refine lv_aload_n hx hb dX11_book_0 rfl (lv_at hl 0 rfl) ?_
  refine va_get (D := D) (ci := 11) (v := .ref rd) (C := RX11) (T := TX11) (N := 10) hx hb hg inX11 hown hK hP 0 rfl rfl 1 (by decide) (hg _ w716) (fun _ h9 => h9) rfl dX11_book_1 ?_
  refine lv_aload_n hx hb dX11_book_4 rfl (lv_at hl 0 rfl) ?_
  refine va_get (D := D) (ci := 11) (v := .ref sp) (C := RX11) (T := TX11) (N := 10) hx hb hg inX11 hown hK hP 0 rfl rfl 7 (by decide) (hg _ w722) (fun _ h9 => h9) rfl dX11_book_5 ?_
  refine g_int (wr := [(h0, .inr (11, [.ref tp, .ref rd, .ref ck, .ref sk, .ref nt, .ref mc, .ref sh, .ref sp, .int 0, .int 0])), (sk, .inr (8, [.ref s0, .ref s1, .ref s2, .ref s3, .ref s4, .ref s5, .ref s6, .ref s7, .ref s8, .ref s9, .ref s10, .ref s11, .int 1, .int 0, .int 0, .int 0])), (s2, .inl (ks2, 40, .inl (upd (fun _ => 0) 0 1))), (s3, .inl (ks3, 40, .inl (fun _ => 0))), (s4, .inl (ks4, 960, .inl (gs4))), (nt, .inr (7, [.ref n0, .ref n1, .ref n2, .ref n3, .ref n4, .int 0, .int 0, .int 0, .int 0, .int 0])), (ck, .inr (2, [.ref c0, .ref c1, .ref c2, .ref c3, .ref c4, .ref c5, .null, .int 0])), (mc, .inr (5, [.ref sk, .ref nt, .ref m0, .ref m1, .ref m2, .ref sh, .int 0, .int 0, .int 0, .int 0, .int 0, .int 0, .int 0, .int 0, .int 0]))]) (tr := [(ks2, .boolean), (ks3, .int), (ks4, .int)]) (g_runV (As := [.ref sp]) (rest := []) (wc := [(rd, .inr (1, [.ref tp, .null, .null, .int 0, .int 0, .long 0, .int 0, .int 0, .int 0])), (tp, .inr (9, [.ref t0, .ref t1, .ref t2, .ref t3, .ref t4, .int 0, .int 0, .int 0, .int 0, .int 0, .int 0, .long 0])), (t2, .inl (kt2, 4001, .inl (fun _ => 0))), (t3, .inl (kt3, 4001, .inl (fun _ => 0))), (t4, .inl (kt4, 4001, .inr (.inl (fun _ => 0)))), (sp, .inr (0, [.ref f0, .ref f1, .ref f2, .ref f3, .ref f4, .ref g5, .ref g6, .ref g7, .ref g8, .ref g9, .ref g10, .int 0, .int 0])), (f0, .inr (6, [.ref j0, .int 0])), (f1, .inr (6, [.ref j1, .int 0])), (f2, .inr (6, [.ref j2, .int 0])), (f3, .inr (6, [.ref j3, .int 0])), (f4, .inr (6, [.ref j4, .int 0]))]) (tc := [(kt2, .int), (kt3, .int), (kt4, .long)]) (ci := 1) (q0 := 5) hx hb hml hown hg gw_self hP hD hK hS hA hnw hgk [5, 1, 2, 3, 4, 6, 7, 8, 9, 10, 11] [0, 1, 2] (by decide) rfl rfl (c_read0 l D ks H.size rd tp t0 t1 t2 t3 t4 kt2 kt3 kt4 sp f0 f1 f2 f3 f4 g5 g6 g7 g8 g9 g10 j0 j1 j2 j3 j4) w758 w759 w760 w162 w761 rfl rfl hdV_yX1_read ⟨Nat.le_of_ble_eq_true rfl, Nat.le_of_ble_eq_true rfl⟩ rfl hl.1 rfl (Nat.le_of_ble_eq_true rfl) dX11_book_8 ⟨Nat.le_of_ble_eq_true rfl, Nat.le_of_ble_eq_true rfl⟩) hP hD hK hS hA [5, 1, 2, 3, 4, 6, 7, 8, 9, 10, 11] [0, 12, 13, 14, 15, 16, 17, 18] [3, 4, 5] rfl rfl (by decide) (by decide) rfl (fun vr3 vu2 H locs vhw1 hP hD hK hS => ?_)
  have vhw1 : vr3 = 0 := vhw1
  subst vhw1
  have hP : va_P D vwCl [(h0, .inr (11, [.ref tp, .ref rd, .ref ck, .ref sk, .ref nt, .ref mc, .ref sh, .ref sp, .int 0, .int 0])), (sk, .inr (8, [.ref s0, .ref s1, .ref s2, .ref s3, .ref s4, .ref s5, .ref s6, .ref s7, .ref s8, .ref s9, .ref s10, .ref s11, .int 1, .int 0, .int 0, .int 0])), (s2, .inl (ks2, 40, .inl (upd (fun _ => 0) 0 1))), (s3, .inl (ks3, 40, .inl (fun _ => 0))), (s4, .inl (ks4, 960, .inl (gs4))), (nt, .inr (7, [.ref n0, .ref n1, .ref n2, .ref n3, .ref n4, .int 0, .int 0, .int 0, .int 0, .int 0])), (ck, .inr (2, [.ref c0, .ref c1, .ref c2, .ref c3, .ref c4, .ref c5, .null, .int 0])), (mc, .inr (5, [.ref sk, .ref nt, .ref m0, .ref m1, .ref m2, .ref sh, .int 0, .int 0, .int 0, .int 0, .int 0, .int 0, .int 0, .int 0, .int 0])), (rd, .inr (1, [.ref tp, .ref sp, .null, .int 0, .int 0, .long 0, .int 0, .int 0, .int 0])), (tp, .inr (9, [.ref t0, .ref t1, .ref t2, .ref t3, .ref t4, .int 0, .int 0, .int 0, .int 0, .int 0, .int 0, .long 0])), (t2, .inl (kt2, 4001, .inl (fun _ => 0))), (t3, .inl (kt3, 4001, .inl (fun _ => 0))), (t4, .inl (kt4, 4001, .inr (.inl (fun _ => 0)))), (sp, .inr (0, [.ref f0, .ref f1, .ref f2, .ref f3, .ref f4, .ref g5, .ref g6, .ref g7, .ref g8, .ref g9, .ref g10, .int 0, .int 0])), (f0, .inr (6, [.ref j0, .int 0])), (f1, .inr (6, [.ref j1, .int 0])), (f2, .inr (6, [.ref j2, .int 0])), (f3, .inr (6, [.ref j3, .int 0])), (f4, .inr (6, [.ref j4, .int 0]))] H := hP
  have hD : va_D A [(h0, .inr (11, [.ref tp, .ref rd, .ref ck, .ref sk, .ref nt, .ref mc, .ref sh, .ref sp, .int 0, .int 0])), (sk, .inr (8, [.ref s0, .ref s1, .ref s2, .ref s3, .ref s4, .ref s5, .ref s6, .ref s7, .ref s8, .ref s9, .ref s10, .ref s11, .int 1, .int 0, .int 0, .int 0])), (s2, .inl (ks2, 40, .inl (upd (fun _ => 0) 0 1))), (s3, .inl (ks3, 40, .inl (fun _ => 0))), (s4, .inl (ks4, 960, .inl (gs4))), (nt, .inr (7, [.ref n0, .ref n1, .ref n2, .ref n3, .ref n4, .int 0, .int 0, .int 0, .int 0, .int 0])), (ck, .inr (2, [.ref c0, .ref c1, .ref c2, .ref c3, .ref c4, .ref c5, .null, .int 0])), (mc, .inr (5, [.ref sk, .ref nt, .ref m0, .ref m1, .ref m2, .ref sh, .int 0, .int 0, .int 0, .int 0, .int 0, .int 0, .int 0, .int 0, .int 0])), (rd, .inr (1, [.ref tp, .ref sp, .null, .int 0, .int 0, .long 0, .int 0, .int 0, .int 0])), (tp, .inr (9, [.ref t0, .ref t1, .ref t2, .ref t3, .ref t4, .int 0, .int 0, .int 0, .int 0, .int 0, .int 0, .long 0])), (t2, .inl (kt2, 4001, .inl (fun _ => 0))), (t3, .inl (kt3, 4001, .inl (fun _ => 0))), (t4, .inl (kt4, 4001, .inr (.inl (fun _ => 0)))), (sp, .inr (0, [.ref f0, .ref f1, .ref f2, .ref f3, .ref f4, .ref g5, .ref g6, .ref g7, .ref g8, .ref g9, .ref g10, .int 0, .int 0])), (f0, .inr (6, [.ref j0, .int 0])), (f1, .inr (6, [.ref j1, .int 0])), (f2, .inr (6, [.ref j2, .int 0])), (f3, .inr (6, [.ref j3, .int 0])), (f4, .inr (6, [.ref j4, .int 0]))] := hD
  have hK : va_K D vwCl [(ks2, .boolean), (ks3, .int), (ks4, .int), (kt2, .int), (kt3, .int), (kt4, .long)] s := hK
  refine lv_istore_n (lv' := [(1, .int 0), (0, .ref h0)]) hx hb dX11_book_11 rfl hl (by decide) rfl (fun ls hl => ?_)
  refine lv_aload_n hx hb dX11_book_12 rfl (lv_at hl 1 rfl) ?_
  refine va_get (D := D) (ci := 11) (v := .ref tp) (C := RX11) (T := TX11) (N := 10) hx hb hg inX11 hown hK hP 0 rfl rfl 0 (by decide) (hg _ w715) (fun _ h9 => h9) rfl dX11_book_13 ?_
  refine g_void (wr := [(h0, .inr (11, [.ref tp, .ref rd, .ref ck, .ref sk, .ref nt, .ref mc, .ref sh, .ref sp, .int 0, .int 0])), (sk, .inr (8, [.ref s0, .ref s1, .ref s2, .ref s3, .ref s4, .ref s5, .ref s6, .ref s7, .ref s8, .ref s9, .ref s10, .ref s11, .int 1, .int 0, .int 0, .int 0])), (s2, .inl (ks2, 40, .inl (upd (fun _ => 0) 0 1))), (s3, .inl (ks3, 40, .inl (fun _ => 0))), (s4, .inl (ks4, 960, .inl (gs4))), (nt, .inr (7, [.ref n0, .ref n1, .ref n2, .ref n3, .ref n4, .int 0, .int 0, .int 0, .int 0, .int 0])), (ck, .inr (2, [.ref c0, .ref c1, .ref c2, .ref c3, .ref c4, .ref c5, .null, .int 0])), (mc, .inr (5, [.ref sk, .ref nt, .ref m0, .ref m1, .ref m2, .ref sh, .int 0, .int 0, .int 0, .int 0, .int 0, .int 0, .int 0, .int 0, .int 0])), (rd, .inr (1, [.ref tp, .ref sp, .null, .int 0, .int 0, .long 0, .int 0, .int 0, .int 0])), (t2, .inl (kt2, 4001, .inl (fun _ => 0))), (t3, .inl (kt3, 4001, .inl (fun _ => 0))), (t4, .inl (kt4, 4001, .inr (.inl (fun _ => 0)))), (sp, .inr (0, [.ref f0, .ref f1, .ref f2, .ref f3, .ref f4, .ref g5, .ref g6, .ref g7, .ref g8, .ref g9, .ref g10, .int 0, .int 0])), (f0, .inr (6, [.ref j0, .int 0])), (f1, .inr (6, [.ref j1, .int 0])), (f2, .inr (6, [.ref j2, .int 0])), (f3, .inr (6, [.ref j3, .int 0])), (f4, .inr (6, [.ref j4, .int 0]))]) (tr := [(ks2, .boolean), (ks3, .int), (ks4, .int), (kt2, .int), (kt3, .int), (kt4, .long)]) (g_runV (As := []) (rest := []) (wc := [(tp, .inr (9, [.ref t0, .ref t1, .ref t2, .ref t3, .ref t4, .int 0, .int 0, .int 0, .int 0, .int 0, .int 0, .long 0]))]) (tc := []) (ci := 9) (q0 := 9) hx hb hml hown hg gw_self hP hD hK hS hA hnw hgk [9] [] (by decide) rfl rfl (c_Tape_empty0 l D ks H.size tp t0 t1 t2 t3 t4) w1019 w1020 w1021 w157 w1022 rfl rfl hdV_yX9_empty ⟨Nat.le_of_ble_eq_true rfl, Nat.le_of_ble_eq_true rfl⟩ rfl hl.1 rfl (Nat.le_of_ble_eq_true rfl) dX11_book_16 ⟨Nat.le_of_ble_eq_true rfl, Nat.le_of_ble_eq_true rfl⟩) hP hD hK hS hA [9] [0, 1, 2, 3, 4, 5, 6, 7, 8, 10, 11, 12, 13, 14, 15, 16, 17, 18] [0, 1, 2, 3, 4, 5] rfl rfl (by decide) (by decide) rfl (fun vu5 H locs vhw4 hP hD hK hS => ?_)
  have hP : va_P D vwCl [(h0, .inr (11, [.ref tp, .ref rd, .ref ck, .ref sk, .ref nt, .ref mc, .ref sh, .ref sp, .int 0, .int 0])), (sk, .inr (8, [.ref s0, .ref s1, .ref s2, .ref s3, .ref s4, .ref s5, .ref s6, .ref s7, .ref s8, .ref s9, .ref s10, .ref s11, .int 1, .int 0, .int 0, .int 0])), (s2, .inl (ks2, 40, .inl (upd (fun _ => 0) 0 1))), (s3, .inl (ks3, 40, .inl (fun _ => 0))), (s4, .inl (ks4, 960, .inl (gs4))), (nt, .inr (7, [.ref n0, .ref n1, .ref n2, .ref n3, .ref n4, .int 0, .int 0, .int 0, .int 0, .int 0])), (ck, .inr (2, [.ref c0, .ref c1, .ref c2, .ref c3, .ref c4, .ref c5, .null, .int 0])), (mc, .inr (5, [.ref sk, .ref nt, .ref m0, .ref m1, .ref m2, .ref sh, .int 0, .int 0, .int 0, .int 0, .int 0, .int 0, .int 0, .int 0, .int 0])), (rd, .inr (1, [.ref tp, .ref sp, .null, .int 0, .int 0, .long 0, .int 0, .int 0, .int 0])), (t2, .inl (kt2, 4001, .inl (fun _ => 0))), (t3, .inl (kt3, 4001, .inl (fun _ => 0))), (t4, .inl (kt4, 4001, .inr (.inl (fun _ => 0)))), (sp, .inr (0, [.ref f0, .ref f1, .ref f2, .ref f3, .ref f4, .ref g5, .ref g6, .ref g7, .ref g8, .ref g9, .ref g10, .int 0, .int 0])), (f0, .inr (6, [.ref j0, .int 0])), (f1, .inr (6, [.ref j1, .int 0])), (f2, .inr (6, [.ref j2, .int 0])), (f3, .inr (6, [.ref j3, .int 0])), (f4, .inr (6, [.ref j4, .int 0])), (tp, .inr (9, [.ref t0, .ref t1, .ref t2, .ref t3, .ref t4, .int 0, .int 0, .int 0, .int 0, .int 0, .int 0, .long 0]))] H := hP
  have hD : va_D A [(h0, .inr (11, [.ref tp, .ref rd, .ref ck, .ref sk, .ref nt, .ref mc, .ref sh, .ref sp, .int 0, .int 0])), (sk, .inr (8, [.ref s0, .ref s1, .ref s2, .ref s3, .ref s4, .ref s5, .ref s6, .ref s7, .ref s8, .ref s9, .ref s10, .ref s11, .int 1, .int 0, .int 0, .int 0])), (s2, .inl (ks2, 40, .inl (upd (fun _ => 0) 0 1))), (s3, .inl (ks3, 40, .inl (fun _ => 0))), (s4, .inl (ks4, 960, .inl (gs4))), (nt, .inr (7, [.ref n0, .ref n1, .ref n2, .ref n3, .ref n4, .int 0, .int 0, .int 0, .int 0, .int 0])), (ck, .inr (2, [.ref c0, .ref c1, .ref c2, .ref c3, .ref c4, .ref c5, .null, .int 0])), (mc, .inr (5, [.ref sk, .ref nt, .ref m0, .ref m1, .ref m2, .ref sh, .int 0, .int 0, .int 0, .int 0, .int 0, .int 0, .int 0, .int 0, .int 0])), (rd, .inr (1, [.ref tp, .ref sp, .null, .int 0, .int 0, .long 0, .int 0, .int 0, .int 0])), (t2, .inl (kt2, 4001, .inl (fun _ => 0))), (t3, .inl (kt3, 4001, .inl (fun _ => 0))), (t4, .inl (kt4, 4001, .inr (.inl (fun _ => 0)))), (sp, .inr (0, [.ref f0, .ref f1, .ref f2, .ref f3, .ref f4, .ref g5, .ref g6, .ref g7, .ref g8, .ref g9, .ref g10, .int 0, .int 0])), (f0, .inr (6, [.ref j0, .int 0])), (f1, .inr (6, [.ref j1, .int 0])), (f2, .inr (6, [.ref j2, .int 0])), (f3, .inr (6, [.ref j3, .int 0])), (f4, .inr (6, [.ref j4, .int 0])), (tp, .inr (9, [.ref t0, .ref t1, .ref t2, .ref t3, .ref t4, .int 0, .int 0, .int 0, .int 0, .int 0, .int 0, .long 0]))] := hD
  have hK : va_K D vwCl [(ks2, .boolean), (ks3, .int), (ks4, .int), (kt2, .int), (kt3, .int), (kt4, .long)] s := hK
  refine lv_iload_n hx hb dX11_book_19 rfl (lv_at hl 0 rfl) ?_
  refine lv_if_eq (tgt := 25) hx hb dX11_book_20 (by decide) (fun _ => ?_) (fun q => absurd (by decide) q)
  refine lv_aload_n hx hb dX11_book_25 rfl (lv_at hl 1 rfl) ?_
  refine va_get (D := D) (ci := 11) (v := .ref sh) (C := RX11) (T := TX11) (N := 10) hx hb hg inX11 hown hK hP 0 rfl rfl 6 (by decide) (hg _ w721) (fun _ h9 => h9) rfl dX11_book_26 ?_
  refine lv_astore_n (lv' := [(2, .ref sh), (1, .int 0), (0, .ref h0)]) hx hb dX11_book_29 rfl hl (by decide) rfl (fun ls hl => ?_)
  refine lv_aload_n hx hb dX11_book_30 rfl (lv_at hl 2 rfl) ?_
  refine lv_aload_n hx hb dX11_book_31 rfl (lv_at hl 2 rfl) ?_
  refine va_get (D := D) (ci := 11) (v := .ref sp) (C := RX11) (T := TX11) (N := 10) hx hb hg inX11 hown hK hP 0 rfl rfl 7 (by decide) (hg _ w722) (fun _ h9 => h9) rfl dX11_book_32 ?_
  refine va_put (D := D) (ci := 11) (v := .ref sp) (ty := tyX11 6) (C := RX11) (T := TX11) (N := 10) hx hb hg inX11 tyX11 tyX11_ok nmX11 hown hK hP hD hS 0 rfl rfl 6 (by decide) (hg _ w721) (fun _ h9 => h9) rfl (tyX11_ok 6 (by decide)) rfl rfl (Nat.le_of_ble_eq_true rfl) dX11_book_35 (fun H locs hP hD hS => ?_)
  have hP : va_P D vwCl [(h0, .inr (11, [.ref tp, .ref rd, .ref ck, .ref sk, .ref nt, .ref mc, .ref sp, .ref sp, .int 0, .int 0])), (sk, .inr (8, [.ref s0, .ref s1, .ref s2, .ref s3, .ref s4, .ref s5, .ref s6, .ref s7, .ref s8, .ref s9, .ref s10, .ref s11, .int 1, .int 0, .int 0, .int 0])), (s2, .inl (ks2, 40, .inl (upd (fun _ => 0) 0 1))), (s3, .inl (ks3, 40, .inl (fun _ => 0))), (s4, .inl (ks4, 960, .inl (gs4))), (nt, .inr (7, [.ref n0, .ref n1, .ref n2, .ref n3, .ref n4, .int 0, .int 0, .int 0, .int 0, .int 0])), (ck, .inr (2, [.ref c0, .ref c1, .ref c2, .ref c3, .ref c4, .ref c5, .null, .int 0])), (mc, .inr (5, [.ref sk, .ref nt, .ref m0, .ref m1, .ref m2, .ref sh, .int 0, .int 0, .int 0, .int 0, .int 0, .int 0, .int 0, .int 0, .int 0])), (rd, .inr (1, [.ref tp, .ref sp, .null, .int 0, .int 0, .long 0, .int 0, .int 0, .int 0])), (t2, .inl (kt2, 4001, .inl (fun _ => 0))), (t3, .inl (kt3, 4001, .inl (fun _ => 0))), (t4, .inl (kt4, 4001, .inr (.inl (fun _ => 0)))), (sp, .inr (0, [.ref f0, .ref f1, .ref f2, .ref f3, .ref f4, .ref g5, .ref g6, .ref g7, .ref g8, .ref g9, .ref g10, .int 0, .int 0])), (f0, .inr (6, [.ref j0, .int 0])), (f1, .inr (6, [.ref j1, .int 0])), (f2, .inr (6, [.ref j2, .int 0])), (f3, .inr (6, [.ref j3, .int 0])), (f4, .inr (6, [.ref j4, .int 0])), (tp, .inr (9, [.ref t0, .ref t1, .ref t2, .ref t3, .ref t4, .int 0, .int 0, .int 0, .int 0, .int 0, .int 0, .long 0]))] H := hP
  have hD : va_D A [(h0, .inr (11, [.ref tp, .ref rd, .ref ck, .ref sk, .ref nt, .ref mc, .ref sp, .ref sp, .int 0, .int 0])), (sk, .inr (8, [.ref s0, .ref s1, .ref s2, .ref s3, .ref s4, .ref s5, .ref s6, .ref s7, .ref s8, .ref s9, .ref s10, .ref s11, .int 1, .int 0, .int 0, .int 0])), (s2, .inl (ks2, 40, .inl (upd (fun _ => 0) 0 1))), (s3, .inl (ks3, 40, .inl (fun _ => 0))), (s4, .inl (ks4, 960, .inl (gs4))), (nt, .inr (7, [.ref n0, .ref n1, .ref n2, .ref n3, .ref n4, .int 0, .int 0, .int 0, .int 0, .int 0])), (ck, .inr (2, [.ref c0, .ref c1, .ref c2, .ref c3, .ref c4, .ref c5, .null, .int 0])), (mc, .inr (5, [.ref sk, .ref nt, .ref m0, .ref m1, .ref m2, .ref sh, .int 0, .int 0, .int 0, .int 0, .int 0, .int 0, .int 0, .int 0, .int 0])), (rd, .inr (1, [.ref tp, .ref sp, .null, .int 0, .int 0, .long 0, .int 0, .int 0, .int 0])), (t2, .inl (kt2, 4001, .inl (fun _ => 0))), (t3, .inl (kt3, 4001, .inl (fun _ => 0))), (t4, .inl (kt4, 4001, .inr (.inl (fun _ => 0)))), (sp, .inr (0, [.ref f0, .ref f1, .ref f2, .ref f3, .ref f4, .ref g5, .ref g6, .ref g7, .ref g8, .ref g9, .ref g10, .int 0, .int 0])), (f0, .inr (6, [.ref j0, .int 0])), (f1, .inr (6, [.ref j1, .int 0])), (f2, .inr (6, [.ref j2, .int 0])), (f3, .inr (6, [.ref j3, .int 0])), (f4, .inr (6, [.ref j4, .int 0])), (tp, .inr (9, [.ref t0, .ref t1, .ref t2, .ref t3, .ref t4, .int 0, .int 0, .int 0, .int 0, .int 0, .int 0, .long 0]))] := hD
  refine lv_aload_n hx hb dX11_book_38 rfl (lv_at hl 2 rfl) ?_
  refine lv_aload_n hx hb dX11_book_39 rfl (lv_at hl 0 rfl) ?_
  refine va_put (D := D) (ci := 11) (v := .ref sh) (ty := tyX11 7) (C := RX11) (T := TX11) (N := 10) hx hb hg inX11 tyX11 tyX11_ok nmX11 hown hK hP hD hS 0 rfl rfl 7 (by decide) (hg _ w722) (fun _ h9 => h9) rfl (tyX11_ok 7 (by decide)) rfl rfl (Nat.le_of_ble_eq_true rfl) dX11_book_40 (fun H locs hP hD hS => ?_)
  have hP : va_P D vwCl [(h0, .inr (11, [.ref tp, .ref rd, .ref ck, .ref sk, .ref nt, .ref mc, .ref sp, .ref sh, .int 0, .int 0])), (sk, .inr (8, [.ref s0, .ref s1, .ref s2, .ref s3, .ref s4, .ref s5, .ref s6, .ref s7, .ref s8, .ref s9, .ref s10, .ref s11, .int 1, .int 0, .int 0, .int 0])), (s2, .inl (ks2, 40, .inl (upd (fun _ => 0) 0 1))), (s3, .inl (ks3, 40, .inl (fun _ => 0))), (s4, .inl (ks4, 960, .inl (gs4))), (nt, .inr (7, [.ref n0, .ref n1, .ref n2, .ref n3, .ref n4, .int 0, .int 0, .int 0, .int 0, .int 0])), (ck, .inr (2, [.ref c0, .ref c1, .ref c2, .ref c3, .ref c4, .ref c5, .null, .int 0])), (mc, .inr (5, [.ref sk, .ref nt, .ref m0, .ref m1, .ref m2, .ref sh, .int 0, .int 0, .int 0, .int 0, .int 0, .int 0, .int 0, .int 0, .int 0])), (rd, .inr (1, [.ref tp, .ref sp, .null, .int 0, .int 0, .long 0, .int 0, .int 0, .int 0])), (t2, .inl (kt2, 4001, .inl (fun _ => 0))), (t3, .inl (kt3, 4001, .inl (fun _ => 0))), (t4, .inl (kt4, 4001, .inr (.inl (fun _ => 0)))), (sp, .inr (0, [.ref f0, .ref f1, .ref f2, .ref f3, .ref f4, .ref g5, .ref g6, .ref g7, .ref g8, .ref g9, .ref g10, .int 0, .int 0])), (f0, .inr (6, [.ref j0, .int 0])), (f1, .inr (6, [.ref j1, .int 0])), (f2, .inr (6, [.ref j2, .int 0])), (f3, .inr (6, [.ref j3, .int 0])), (f4, .inr (6, [.ref j4, .int 0])), (tp, .inr (9, [.ref t0, .ref t1, .ref t2, .ref t3, .ref t4, .int 0, .int 0, .int 0, .int 0, .int 0, .int 0, .long 0]))] H := hP
  have hD : va_D A [(h0, .inr (11, [.ref tp, .ref rd, .ref ck, .ref sk, .ref nt, .ref mc, .ref sp, .ref sh, .int 0, .int 0])), (sk, .inr (8, [.ref s0, .ref s1, .ref s2, .ref s3, .ref s4, .ref s5, .ref s6, .ref s7, .ref s8, .ref s9, .ref s10, .ref s11, .int 1, .int 0, .int 0, .int 0])), (s2, .inl (ks2, 40, .inl (upd (fun _ => 0) 0 1))), (s3, .inl (ks3, 40, .inl (fun _ => 0))), (s4, .inl (ks4, 960, .inl (gs4))), (nt, .inr (7, [.ref n0, .ref n1, .ref n2, .ref n3, .ref n4, .int 0, .int 0, .int 0, .int 0, .int 0])), (ck, .inr (2, [.ref c0, .ref c1, .ref c2, .ref c3, .ref c4, .ref c5, .null, .int 0])), (mc, .inr (5, [.ref sk, .ref nt, .ref m0, .ref m1, .ref m2, .ref sh, .int 0, .int 0, .int 0, .int 0, .int 0, .int 0, .int 0, .int 0, .int 0])), (rd, .inr (1, [.ref tp, .ref sp, .null, .int 0, .int 0, .long 0, .int 0, .int 0, .int 0])), (t2, .inl (kt2, 4001, .inl (fun _ => 0))), (t3, .inl (kt3, 4001, .inl (fun _ => 0))), (t4, .inl (kt4, 4001, .inr (.inl (fun _ => 0)))), (sp, .inr (0, [.ref f0, .ref f1, .ref f2, .ref f3, .ref f4, .ref g5, .ref g6, .ref g7, .ref g8, .ref g9, .ref g10, .int 0, .int 0])), (f0, .inr (6, [.ref j0, .int 0])), (f1, .inr (6, [.ref j1, .int 0])), (f2, .inr (6, [.ref j2, .int 0])), (f3, .inr (6, [.ref j3, .int 0])), (f4, .inr (6, [.ref j4, .int 0])), (tp, .inr (9, [.ref t0, .ref t1, .ref t2, .ref t3, .ref t4, .int 0, .int 0, .int 0, .int 0, .int 0, .int 0, .long 0]))] := hD
  refine lv_aload_n hx hb dX11_book_43 rfl (lv_at hl 2 rfl) ?_
  refine va_get (D := D) (ci := 11) (v := .ref sk) (C := RX11) (T := TX11) (N := 10) hx hb hg inX11 hown hK hP 0 rfl rfl 3 (by decide) (hg _ w718) (fun _ h9 => h9) rfl dX11_book_44 ?_
  refine g_void (wr := [(h0, .inr (11, [.ref tp, .ref rd, .ref ck, .ref sk, .ref nt, .ref mc, .ref sp, .ref sh, .int 0, .int 0])), (nt, .inr (7, [.ref n0, .ref n1, .ref n2, .ref n3, .ref n4, .int 0, .int 0, .int 0, .int 0, .int 0])), (ck, .inr (2, [.ref c0, .ref c1, .ref c2, .ref c3, .ref c4, .ref c5, .null, .int 0])), (mc, .inr (5, [.ref sk, .ref nt, .ref m0, .ref m1, .ref m2, .ref sh, .int 0, .int 0, .int 0, .int 0, .int 0, .int 0, .int 0, .int 0, .int 0])), (rd, .inr (1, [.ref tp, .ref sp, .null, .int 0, .int 0, .long 0, .int 0, .int 0, .int 0])), (t2, .inl (kt2, 4001, .inl (fun _ => 0))), (t3, .inl (kt3, 4001, .inl (fun _ => 0))), (t4, .inl (kt4, 4001, .inr (.inl (fun _ => 0)))), (sp, .inr (0, [.ref f0, .ref f1, .ref f2, .ref f3, .ref f4, .ref g5, .ref g6, .ref g7, .ref g8, .ref g9, .ref g10, .int 0, .int 0])), (f0, .inr (6, [.ref j0, .int 0])), (f1, .inr (6, [.ref j1, .int 0])), (f2, .inr (6, [.ref j2, .int 0])), (f3, .inr (6, [.ref j3, .int 0])), (f4, .inr (6, [.ref j4, .int 0])), (tp, .inr (9, [.ref t0, .ref t1, .ref t2, .ref t3, .ref t4, .int 0, .int 0, .int 0, .int 0, .int 0, .int 0, .long 0]))]) (tr := [(kt2, .int), (kt3, .int), (kt4, .long)]) (g_runV (As := []) (rest := []) (wc := [(sk, .inr (8, [.ref s0, .ref s1, .ref s2, .ref s3, .ref s4, .ref s5, .ref s6, .ref s7, .ref s8, .ref s9, .ref s10, .ref s11, .int 1, .int 0, .int 0, .int 0])), (s2, .inl (ks2, 40, .inl (upd (fun _ => 0) 0 1))), (s3, .inl (ks3, 40, .inl (fun _ => 0))), (s4, .inl (ks4, 960, .inl (gs4)))]) (tc := [(ks2, .boolean), (ks3, .int), (ks4, .int)]) (ci := 8) (q0 := 1) hx hb hml hown hg gw_self hP hD hK hS hA hnw hgk [1, 2, 3, 4] [0, 1, 2] (by decide) rfl rfl (c_Stock_clear0 l D ks H.size sk s0 s1 s2 s3 s4 s5 s6 s7 s8 s9 s10 s11 ks2 ks3 ks4 gs4) w1023 w1024 w1025 w164 w1026 rfl rfl hdV_yX8_clear ⟨Nat.le_of_ble_eq_true rfl, Nat.le_of_ble_eq_true rfl⟩ rfl hl.1 rfl (Nat.le_of_ble_eq_true rfl) dX11_book_47 ⟨Nat.le_of_ble_eq_true rfl, Nat.le_of_ble_eq_true rfl⟩) hP hD hK hS hA [1, 2, 3, 4] [0, 5, 6, 7, 8, 9, 10, 11, 12, 13, 14, 15, 16, 17, 18] [3, 4, 5] rfl rfl (by decide) (by decide) rfl (fun vu7 H locs vhw6 hP hD hK hS => ?_)
  have hP : va_P D vwCl [(h0, .inr (11, [.ref tp, .ref rd, .ref ck, .ref sk, .ref nt, .ref mc, .ref sp, .ref sh, .int 0, .int 0])), (nt, .inr (7, [.ref n0, .ref n1, .ref n2, .ref n3, .ref n4, .int 0, .int 0, .int 0, .int 0, .int 0])), (ck, .inr (2, [.ref c0, .ref c1, .ref c2, .ref c3, .ref c4, .ref c5, .null, .int 0])), (mc, .inr (5, [.ref sk, .ref nt, .ref m0, .ref m1, .ref m2, .ref sh, .int 0, .int 0, .int 0, .int 0, .int 0, .int 0, .int 0, .int 0, .int 0])), (rd, .inr (1, [.ref tp, .ref sp, .null, .int 0, .int 0, .long 0, .int 0, .int 0, .int 0])), (t2, .inl (kt2, 4001, .inl (fun _ => 0))), (t3, .inl (kt3, 4001, .inl (fun _ => 0))), (t4, .inl (kt4, 4001, .inr (.inl (fun _ => 0)))), (sp, .inr (0, [.ref f0, .ref f1, .ref f2, .ref f3, .ref f4, .ref g5, .ref g6, .ref g7, .ref g8, .ref g9, .ref g10, .int 0, .int 0])), (f0, .inr (6, [.ref j0, .int 0])), (f1, .inr (6, [.ref j1, .int 0])), (f2, .inr (6, [.ref j2, .int 0])), (f3, .inr (6, [.ref j3, .int 0])), (f4, .inr (6, [.ref j4, .int 0])), (tp, .inr (9, [.ref t0, .ref t1, .ref t2, .ref t3, .ref t4, .int 0, .int 0, .int 0, .int 0, .int 0, .int 0, .long 0])), (sk, .inr (8, [.ref s0, .ref s1, .ref s2, .ref s3, .ref s4, .ref s5, .ref s6, .ref s7, .ref s8, .ref s9, .ref s10, .ref s11, .int 1, .int 0, .int 0, .int 0]))] H := hP
  have hD : va_D A [(h0, .inr (11, [.ref tp, .ref rd, .ref ck, .ref sk, .ref nt, .ref mc, .ref sp, .ref sh, .int 0, .int 0])), (nt, .inr (7, [.ref n0, .ref n1, .ref n2, .ref n3, .ref n4, .int 0, .int 0, .int 0, .int 0, .int 0])), (ck, .inr (2, [.ref c0, .ref c1, .ref c2, .ref c3, .ref c4, .ref c5, .null, .int 0])), (mc, .inr (5, [.ref sk, .ref nt, .ref m0, .ref m1, .ref m2, .ref sh, .int 0, .int 0, .int 0, .int 0, .int 0, .int 0, .int 0, .int 0, .int 0])), (rd, .inr (1, [.ref tp, .ref sp, .null, .int 0, .int 0, .long 0, .int 0, .int 0, .int 0])), (t2, .inl (kt2, 4001, .inl (fun _ => 0))), (t3, .inl (kt3, 4001, .inl (fun _ => 0))), (t4, .inl (kt4, 4001, .inr (.inl (fun _ => 0)))), (sp, .inr (0, [.ref f0, .ref f1, .ref f2, .ref f3, .ref f4, .ref g5, .ref g6, .ref g7, .ref g8, .ref g9, .ref g10, .int 0, .int 0])), (f0, .inr (6, [.ref j0, .int 0])), (f1, .inr (6, [.ref j1, .int 0])), (f2, .inr (6, [.ref j2, .int 0])), (f3, .inr (6, [.ref j3, .int 0])), (f4, .inr (6, [.ref j4, .int 0])), (tp, .inr (9, [.ref t0, .ref t1, .ref t2, .ref t3, .ref t4, .int 0, .int 0, .int 0, .int 0, .int 0, .int 0, .long 0])), (sk, .inr (8, [.ref s0, .ref s1, .ref s2, .ref s3, .ref s4, .ref s5, .ref s6, .ref s7, .ref s8, .ref s9, .ref s10, .ref s11, .int 1, .int 0, .int 0, .int 0]))] := hD
  have hK : va_K D vwCl [(kt2, .int), (kt3, .int), (kt4, .long)] s := hK
  refine lv_aload_n hx hb dX11_book_50 rfl (lv_at hl 2 rfl) ?_
  refine va_get (D := D) (ci := 11) (v := .ref nt) (C := RX11) (T := TX11) (N := 10) hx hb hg inX11 hown hK hP 0 rfl rfl 4 (by decide) (hg _ w719) (fun _ h9 => h9) rfl dX11_book_51 ?_
  refine g_void (wr := [(h0, .inr (11, [.ref tp, .ref rd, .ref ck, .ref sk, .ref nt, .ref mc, .ref sp, .ref sh, .int 0, .int 0])), (ck, .inr (2, [.ref c0, .ref c1, .ref c2, .ref c3, .ref c4, .ref c5, .null, .int 0])), (mc, .inr (5, [.ref sk, .ref nt, .ref m0, .ref m1, .ref m2, .ref sh, .int 0, .int 0, .int 0, .int 0, .int 0, .int 0, .int 0, .int 0, .int 0])), (rd, .inr (1, [.ref tp, .ref sp, .null, .int 0, .int 0, .long 0, .int 0, .int 0, .int 0])), (t2, .inl (kt2, 4001, .inl (fun _ => 0))), (t3, .inl (kt3, 4001, .inl (fun _ => 0))), (t4, .inl (kt4, 4001, .inr (.inl (fun _ => 0)))), (sp, .inr (0, [.ref f0, .ref f1, .ref f2, .ref f3, .ref f4, .ref g5, .ref g6, .ref g7, .ref g8, .ref g9, .ref g10, .int 0, .int 0])), (f0, .inr (6, [.ref j0, .int 0])), (f1, .inr (6, [.ref j1, .int 0])), (f2, .inr (6, [.ref j2, .int 0])), (f3, .inr (6, [.ref j3, .int 0])), (f4, .inr (6, [.ref j4, .int 0])), (tp, .inr (9, [.ref t0, .ref t1, .ref t2, .ref t3, .ref t4, .int 0, .int 0, .int 0, .int 0, .int 0, .int 0, .long 0])), (sk, .inr (8, [.ref s0, .ref s1, .ref s2, .ref s3, .ref s4, .ref s5, .ref s6, .ref s7, .ref s8, .ref s9, .ref s10, .ref s11, .int 1, .int 0, .int 0, .int 0]))]) (tr := [(kt2, .int), (kt3, .int), (kt4, .long)]) (g_runV (As := []) (rest := []) (wc := [(nt, .inr (7, [.ref n0, .ref n1, .ref n2, .ref n3, .ref n4, .int 0, .int 0, .int 0, .int 0, .int 0]))]) (tc := []) (ci := 7) (q0 := 1) hx hb hml hown hg gw_self hP hD hK hS hA hnw hgk [1] [] (by decide) rfl rfl (c_Notes_clear0 l D ks H.size nt n0 n1 n2 n3 n4) w1031 w1032 w1033 w166 w1034 rfl rfl hdV_yX7_clear ⟨Nat.le_of_ble_eq_true rfl, Nat.le_of_ble_eq_true rfl⟩ rfl hl.1 rfl (Nat.le_of_ble_eq_true rfl) dX11_book_54 ⟨Nat.le_of_ble_eq_true rfl, Nat.le_of_ble_eq_true rfl⟩) hP hD hK hS hA [1] [0, 2, 3, 4, 5, 6, 7, 8, 9, 10, 11, 12, 13, 14, 15] [0, 1, 2] rfl rfl (by decide) (by decide) rfl (fun vu9 H locs vhw8 hP hD hK hS => ?_)
  have hP : va_P D vwCl [(h0, .inr (11, [.ref tp, .ref rd, .ref ck, .ref sk, .ref nt, .ref mc, .ref sp, .ref sh, .int 0, .int 0])), (ck, .inr (2, [.ref c0, .ref c1, .ref c2, .ref c3, .ref c4, .ref c5, .null, .int 0])), (mc, .inr (5, [.ref sk, .ref nt, .ref m0, .ref m1, .ref m2, .ref sh, .int 0, .int 0, .int 0, .int 0, .int 0, .int 0, .int 0, .int 0, .int 0])), (rd, .inr (1, [.ref tp, .ref sp, .null, .int 0, .int 0, .long 0, .int 0, .int 0, .int 0])), (t2, .inl (kt2, 4001, .inl (fun _ => 0))), (t3, .inl (kt3, 4001, .inl (fun _ => 0))), (t4, .inl (kt4, 4001, .inr (.inl (fun _ => 0)))), (sp, .inr (0, [.ref f0, .ref f1, .ref f2, .ref f3, .ref f4, .ref g5, .ref g6, .ref g7, .ref g8, .ref g9, .ref g10, .int 0, .int 0])), (f0, .inr (6, [.ref j0, .int 0])), (f1, .inr (6, [.ref j1, .int 0])), (f2, .inr (6, [.ref j2, .int 0])), (f3, .inr (6, [.ref j3, .int 0])), (f4, .inr (6, [.ref j4, .int 0])), (tp, .inr (9, [.ref t0, .ref t1, .ref t2, .ref t3, .ref t4, .int 0, .int 0, .int 0, .int 0, .int 0, .int 0, .long 0])), (sk, .inr (8, [.ref s0, .ref s1, .ref s2, .ref s3, .ref s4, .ref s5, .ref s6, .ref s7, .ref s8, .ref s9, .ref s10, .ref s11, .int 1, .int 0, .int 0, .int 0])), (nt, .inr (7, [.ref n0, .ref n1, .ref n2, .ref n3, .ref n4, .int 0, .int 0, .int 0, .int 0, .int 0]))] H := hP
  have hD : va_D A [(h0, .inr (11, [.ref tp, .ref rd, .ref ck, .ref sk, .ref nt, .ref mc, .ref sp, .ref sh, .int 0, .int 0])), (ck, .inr (2, [.ref c0, .ref c1, .ref c2, .ref c3, .ref c4, .ref c5, .null, .int 0])), (mc, .inr (5, [.ref sk, .ref nt, .ref m0, .ref m1, .ref m2, .ref sh, .int 0, .int 0, .int 0, .int 0, .int 0, .int 0, .int 0, .int 0, .int 0])), (rd, .inr (1, [.ref tp, .ref sp, .null, .int 0, .int 0, .long 0, .int 0, .int 0, .int 0])), (t2, .inl (kt2, 4001, .inl (fun _ => 0))), (t3, .inl (kt3, 4001, .inl (fun _ => 0))), (t4, .inl (kt4, 4001, .inr (.inl (fun _ => 0)))), (sp, .inr (0, [.ref f0, .ref f1, .ref f2, .ref f3, .ref f4, .ref g5, .ref g6, .ref g7, .ref g8, .ref g9, .ref g10, .int 0, .int 0])), (f0, .inr (6, [.ref j0, .int 0])), (f1, .inr (6, [.ref j1, .int 0])), (f2, .inr (6, [.ref j2, .int 0])), (f3, .inr (6, [.ref j3, .int 0])), (f4, .inr (6, [.ref j4, .int 0])), (tp, .inr (9, [.ref t0, .ref t1, .ref t2, .ref t3, .ref t4, .int 0, .int 0, .int 0, .int 0, .int 0, .int 0, .long 0])), (sk, .inr (8, [.ref s0, .ref s1, .ref s2, .ref s3, .ref s4, .ref s5, .ref s6, .ref s7, .ref s8, .ref s9, .ref s10, .ref s11, .int 1, .int 0, .int 0, .int 0])), (nt, .inr (7, [.ref n0, .ref n1, .ref n2, .ref n3, .ref n4, .int 0, .int 0, .int 0, .int 0, .int 0]))] := hD
  have hK : va_K D vwCl [(kt2, .int), (kt3, .int), (kt4, .long)] s := hK
  refine lv_aload_n hx hb dX11_book_57 rfl (lv_at hl 2 rfl) ?_
  refine va_get (D := D) (ci := 11) (v := .ref ck) (C := RX11) (T := TX11) (N := 10) hx hb hg inX11 hown hK hP 0 rfl rfl 2 (by decide) (hg _ w717) (fun _ h9 => h9) rfl dX11_book_58 ?_
  refine g_void (wr := [(h0, .inr (11, [.ref tp, .ref rd, .ref ck, .ref sk, .ref nt, .ref mc, .ref sp, .ref sh, .int 0, .int 0])), (mc, .inr (5, [.ref sk, .ref nt, .ref m0, .ref m1, .ref m2, .ref sh, .int 0, .int 0, .int 0, .int 0, .int 0, .int 0, .int 0, .int 0, .int 0])), (rd, .inr (1, [.ref tp, .ref sp, .null, .int 0, .int 0, .long 0, .int 0, .int 0, .int 0])), (t2, .inl (kt2, 4001, .inl (fun _ => 0))), (t3, .inl (kt3, 4001, .inl (fun _ => 0))), (t4, .inl (kt4, 4001, .inr (.inl (fun _ => 0)))), (sp, .inr (0, [.ref f0, .ref f1, .ref f2, .ref f3, .ref f4, .ref g5, .ref g6, .ref g7, .ref g8, .ref g9, .ref g10, .int 0, .int 0])), (f0, .inr (6, [.ref j0, .int 0])), (f1, .inr (6, [.ref j1, .int 0])), (f2, .inr (6, [.ref j2, .int 0])), (f3, .inr (6, [.ref j3, .int 0])), (f4, .inr (6, [.ref j4, .int 0])), (tp, .inr (9, [.ref t0, .ref t1, .ref t2, .ref t3, .ref t4, .int 0, .int 0, .int 0, .int 0, .int 0, .int 0, .long 0])), (sk, .inr (8, [.ref s0, .ref s1, .ref s2, .ref s3, .ref s4, .ref s5, .ref s6, .ref s7, .ref s8, .ref s9, .ref s10, .ref s11, .int 1, .int 0, .int 0, .int 0])), (nt, .inr (7, [.ref n0, .ref n1, .ref n2, .ref n3, .ref n4, .int 0, .int 0, .int 0, .int 0, .int 0]))]) (tr := [(kt2, .int), (kt3, .int), (kt4, .long)]) (g_runV (As := []) (rest := []) (wc := [(ck, .inr (2, [.ref c0, .ref c1, .ref c2, .ref c3, .ref c4, .ref c5, .null, .int 0]))]) (tc := []) (ci := 2) (q0 := 1) hx hb hml hown hg gw_self hP hD hK hS hA hnw hgk [1] [] (by decide) rfl rfl (c_Checker_clear0 l D ks H.size ck c0 c1 c2 c3 c4 c5) w1035 w1036 w1037 w163 w1038 rfl rfl hdV_yX2_clear ⟨Nat.le_of_ble_eq_true rfl, Nat.le_of_ble_eq_true rfl⟩ rfl hl.1 rfl (Nat.le_of_ble_eq_true rfl) dX11_book_61 ⟨Nat.le_of_ble_eq_true rfl, Nat.le_of_ble_eq_true rfl⟩) hP hD hK hS hA [1] [0, 2, 3, 4, 5, 6, 7, 8, 9, 10, 11, 12, 13, 14, 15] [0, 1, 2] rfl rfl (by decide) (by decide) rfl (fun vu11 H locs vhw10 hP hD hK hS => ?_)
  have hP : va_P D vwCl [(h0, .inr (11, [.ref tp, .ref rd, .ref ck, .ref sk, .ref nt, .ref mc, .ref sp, .ref sh, .int 0, .int 0])), (mc, .inr (5, [.ref sk, .ref nt, .ref m0, .ref m1, .ref m2, .ref sh, .int 0, .int 0, .int 0, .int 0, .int 0, .int 0, .int 0, .int 0, .int 0])), (rd, .inr (1, [.ref tp, .ref sp, .null, .int 0, .int 0, .long 0, .int 0, .int 0, .int 0])), (t2, .inl (kt2, 4001, .inl (fun _ => 0))), (t3, .inl (kt3, 4001, .inl (fun _ => 0))), (t4, .inl (kt4, 4001, .inr (.inl (fun _ => 0)))), (sp, .inr (0, [.ref f0, .ref f1, .ref f2, .ref f3, .ref f4, .ref g5, .ref g6, .ref g7, .ref g8, .ref g9, .ref g10, .int 0, .int 0])), (f0, .inr (6, [.ref j0, .int 0])), (f1, .inr (6, [.ref j1, .int 0])), (f2, .inr (6, [.ref j2, .int 0])), (f3, .inr (6, [.ref j3, .int 0])), (f4, .inr (6, [.ref j4, .int 0])), (tp, .inr (9, [.ref t0, .ref t1, .ref t2, .ref t3, .ref t4, .int 0, .int 0, .int 0, .int 0, .int 0, .int 0, .long 0])), (sk, .inr (8, [.ref s0, .ref s1, .ref s2, .ref s3, .ref s4, .ref s5, .ref s6, .ref s7, .ref s8, .ref s9, .ref s10, .ref s11, .int 1, .int 0, .int 0, .int 0])), (nt, .inr (7, [.ref n0, .ref n1, .ref n2, .ref n3, .ref n4, .int 0, .int 0, .int 0, .int 0, .int 0])), (ck, .inr (2, [.ref c0, .ref c1, .ref c2, .ref c3, .ref c4, .ref c5, .null, .int 0]))] H := hP
  have hD : va_D A [(h0, .inr (11, [.ref tp, .ref rd, .ref ck, .ref sk, .ref nt, .ref mc, .ref sp, .ref sh, .int 0, .int 0])), (mc, .inr (5, [.ref sk, .ref nt, .ref m0, .ref m1, .ref m2, .ref sh, .int 0, .int 0, .int 0, .int 0, .int 0, .int 0, .int 0, .int 0, .int 0])), (rd, .inr (1, [.ref tp, .ref sp, .null, .int 0, .int 0, .long 0, .int 0, .int 0, .int 0])), (t2, .inl (kt2, 4001, .inl (fun _ => 0))), (t3, .inl (kt3, 4001, .inl (fun _ => 0))), (t4, .inl (kt4, 4001, .inr (.inl (fun _ => 0)))), (sp, .inr (0, [.ref f0, .ref f1, .ref f2, .ref f3, .ref f4, .ref g5, .ref g6, .ref g7, .ref g8, .ref g9, .ref g10, .int 0, .int 0])), (f0, .inr (6, [.ref j0, .int 0])), (f1, .inr (6, [.ref j1, .int 0])), (f2, .inr (6, [.ref j2, .int 0])), (f3, .inr (6, [.ref j3, .int 0])), (f4, .inr (6, [.ref j4, .int 0])), (tp, .inr (9, [.ref t0, .ref t1, .ref t2, .ref t3, .ref t4, .int 0, .int 0, .int 0, .int 0, .int 0, .int 0, .long 0])), (sk, .inr (8, [.ref s0, .ref s1, .ref s2, .ref s3, .ref s4, .ref s5, .ref s6, .ref s7, .ref s8, .ref s9, .ref s10, .ref s11, .int 1, .int 0, .int 0, .int 0])), (nt, .inr (7, [.ref n0, .ref n1, .ref n2, .ref n3, .ref n4, .int 0, .int 0, .int 0, .int 0, .int 0])), (ck, .inr (2, [.ref c0, .ref c1, .ref c2, .ref c3, .ref c4, .ref c5, .null, .int 0]))] := hD
  have hK : va_K D vwCl [(kt2, .int), (kt3, .int), (kt4, .long)] s := hK
  refine lv_aload_n hx hb dX11_book_64 rfl (lv_at hl 2 rfl) ?_
  refine va_get (D := D) (ci := 11) (v := .ref mc) (C := RX11) (T := TX11) (N := 10) hx hb hg inX11 hown hK hP 0 rfl rfl 5 (by decide) (hg _ w720) (fun _ h9 => h9) rfl dX11_book_65 ?_
  refine lv_aload_n hx hb dX11_book_68 rfl (lv_at hl 2 rfl) ?_
  refine va_get (D := D) (ci := 11) (v := .ref sp) (C := RX11) (T := TX11) (N := 10) hx hb hg inX11 hown hK hP 0 rfl rfl 6 (by decide) (hg _ w721) (fun _ h9 => h9) rfl dX11_book_69 ?_
  refine g_void (wr := [(h0, .inr (11, [.ref tp, .ref rd, .ref ck, .ref sk, .ref nt, .ref mc, .ref sp, .ref sh, .int 0, .int 0])), (rd, .inr (1, [.ref tp, .ref sp, .null, .int 0, .int 0, .long 0, .int 0, .int 0, .int 0])), (t2, .inl (kt2, 4001, .inl (fun _ => 0))), (t3, .inl (kt3, 4001, .inl (fun _ => 0))), (t4, .inl (kt4, 4001, .inr (.inl (fun _ => 0)))), (sp, .inr (0, [.ref f0, .ref f1, .ref f2, .ref f3, .ref f4, .ref g5, .ref g6, .ref g7, .ref g8, .ref g9, .ref g10, .int 0, .int 0])), (f0, .inr (6, [.ref j0, .int 0])), (f1, .inr (6, [.ref j1, .int 0])), (f2, .inr (6, [.ref j2, .int 0])), (f3, .inr (6, [.ref j3, .int 0])), (f4, .inr (6, [.ref j4, .int 0])), (tp, .inr (9, [.ref t0, .ref t1, .ref t2, .ref t3, .ref t4, .int 0, .int 0, .int 0, .int 0, .int 0, .int 0, .long 0])), (sk, .inr (8, [.ref s0, .ref s1, .ref s2, .ref s3, .ref s4, .ref s5, .ref s6, .ref s7, .ref s8, .ref s9, .ref s10, .ref s11, .int 1, .int 0, .int 0, .int 0])), (nt, .inr (7, [.ref n0, .ref n1, .ref n2, .ref n3, .ref n4, .int 0, .int 0, .int 0, .int 0, .int 0])), (ck, .inr (2, [.ref c0, .ref c1, .ref c2, .ref c3, .ref c4, .ref c5, .null, .int 0]))]) (tr := [(kt2, .int), (kt3, .int), (kt4, .long)]) (g_runV (As := [.ref sp]) (rest := []) (wc := [(mc, .inr (5, [.ref sk, .ref nt, .ref m0, .ref m1, .ref m2, .ref sh, .int 0, .int 0, .int 0, .int 0, .int 0, .int 0, .int 0, .int 0, .int 0]))]) (tc := []) (ci := 5) (q0 := 1) hx hb hml hown hg gw_self hP hD hK hS hA hnw hgk [1] [] (by decide) rfl rfl (c_takeBook0 l D ks H.size mc sk nt m0 m1 m2 sh sp) w1039 w1040 w1041 w171 w1042 rfl rfl hdV_yX5_takeBook ⟨Nat.le_of_ble_eq_true rfl, Nat.le_of_ble_eq_true rfl⟩ rfl hl.1 rfl (Nat.le_of_ble_eq_true rfl) dX11_book_72 ⟨Nat.le_of_ble_eq_true rfl, Nat.le_of_ble_eq_true rfl⟩) hP hD hK hS hA [1] [0, 2, 3, 4, 5, 6, 7, 8, 9, 10, 11, 12, 13, 14, 15] [0, 1, 2] rfl rfl (by decide) (by decide) rfl (fun vu13 H locs vhw12 hP hD hK hS => ?_)
  have hP : va_P D vwCl [(h0, .inr (11, [.ref tp, .ref rd, .ref ck, .ref sk, .ref nt, .ref mc, .ref sp, .ref sh, .int 0, .int 0])), (rd, .inr (1, [.ref tp, .ref sp, .null, .int 0, .int 0, .long 0, .int 0, .int 0, .int 0])), (t2, .inl (kt2, 4001, .inl (fun _ => 0))), (t3, .inl (kt3, 4001, .inl (fun _ => 0))), (t4, .inl (kt4, 4001, .inr (.inl (fun _ => 0)))), (sp, .inr (0, [.ref f0, .ref f1, .ref f2, .ref f3, .ref f4, .ref g5, .ref g6, .ref g7, .ref g8, .ref g9, .ref g10, .int 0, .int 0])), (f0, .inr (6, [.ref j0, .int 0])), (f1, .inr (6, [.ref j1, .int 0])), (f2, .inr (6, [.ref j2, .int 0])), (f3, .inr (6, [.ref j3, .int 0])), (f4, .inr (6, [.ref j4, .int 0])), (tp, .inr (9, [.ref t0, .ref t1, .ref t2, .ref t3, .ref t4, .int 0, .int 0, .int 0, .int 0, .int 0, .int 0, .long 0])), (sk, .inr (8, [.ref s0, .ref s1, .ref s2, .ref s3, .ref s4, .ref s5, .ref s6, .ref s7, .ref s8, .ref s9, .ref s10, .ref s11, .int 1, .int 0, .int 0, .int 0])), (nt, .inr (7, [.ref n0, .ref n1, .ref n2, .ref n3, .ref n4, .int 0, .int 0, .int 0, .int 0, .int 0])), (ck, .inr (2, [.ref c0, .ref c1, .ref c2, .ref c3, .ref c4, .ref c5, .null, .int 0]))] H := hP
  have hD : va_D A [(h0, .inr (11, [.ref tp, .ref rd, .ref ck, .ref sk, .ref nt, .ref mc, .ref sp, .ref sh, .int 0, .int 0])), (rd, .inr (1, [.ref tp, .ref sp, .null, .int 0, .int 0, .long 0, .int 0, .int 0, .int 0])), (t2, .inl (kt2, 4001, .inl (fun _ => 0))), (t3, .inl (kt3, 4001, .inl (fun _ => 0))), (t4, .inl (kt4, 4001, .inr (.inl (fun _ => 0)))), (sp, .inr (0, [.ref f0, .ref f1, .ref f2, .ref f3, .ref f4, .ref g5, .ref g6, .ref g7, .ref g8, .ref g9, .ref g10, .int 0, .int 0])), (f0, .inr (6, [.ref j0, .int 0])), (f1, .inr (6, [.ref j1, .int 0])), (f2, .inr (6, [.ref j2, .int 0])), (f3, .inr (6, [.ref j3, .int 0])), (f4, .inr (6, [.ref j4, .int 0])), (tp, .inr (9, [.ref t0, .ref t1, .ref t2, .ref t3, .ref t4, .int 0, .int 0, .int 0, .int 0, .int 0, .int 0, .long 0])), (sk, .inr (8, [.ref s0, .ref s1, .ref s2, .ref s3, .ref s4, .ref s5, .ref s6, .ref s7, .ref s8, .ref s9, .ref s10, .ref s11, .int 1, .int 0, .int 0, .int 0])), (nt, .inr (7, [.ref n0, .ref n1, .ref n2, .ref n3, .ref n4, .int 0, .int 0, .int 0, .int 0, .int 0])), (ck, .inr (2, [.ref c0, .ref c1, .ref c2, .ref c3, .ref c4, .ref c5, .null, .int 0]))] := hD
  have hK : va_K D vwCl [(kt2, .int), (kt3, .int), (kt4, .long)] s := hK
  refine lv_aload_n hx hb dX11_book_75 rfl (lv_at hl 2 rfl) ?_
  refine lv_iconst (v := 0) hx hb dX11_book_76 (by decide) ?_
  refine va_put (D := D) (ci := 11) (v := .int 0) (ty := tyX11 8) (C := RX11) (T := TX11) (N := 10) hx hb hg inX11 tyX11 tyX11_ok nmX11 hown hK hP hD hS 0 rfl rfl 8 (by decide) (hg _ w723) (fun _ h9 => h9) rfl (tyX11_ok 8 (by decide)) rfl rfl (Nat.le_of_ble_eq_true rfl) dX11_book_77 (fun H locs hP hD hS => ?_)
  have hP : va_P D vwCl [(h0, .inr (11, [.ref tp, .ref rd, .ref ck, .ref sk, .ref nt, .ref mc, .ref sp, .ref sh, .int 0, .int 0])), (rd, .inr (1, [.ref tp, .ref sp, .null, .int 0, .int 0, .long 0, .int 0, .int 0, .int 0])), (t2, .inl (kt2, 4001, .inl (fun _ => 0))), (t3, .inl (kt3, 4001, .inl (fun _ => 0))), (t4, .inl (kt4, 4001, .inr (.inl (fun _ => 0)))), (sp, .inr (0, [.ref f0, .ref f1, .ref f2, .ref f3, .ref f4, .ref g5, .ref g6, .ref g7, .ref g8, .ref g9, .ref g10, .int 0, .int 0])), (f0, .inr (6, [.ref j0, .int 0])), (f1, .inr (6, [.ref j1, .int 0])), (f2, .inr (6, [.ref j2, .int 0])), (f3, .inr (6, [.ref j3, .int 0])), (f4, .inr (6, [.ref j4, .int 0])), (tp, .inr (9, [.ref t0, .ref t1, .ref t2, .ref t3, .ref t4, .int 0, .int 0, .int 0, .int 0, .int 0, .int 0, .long 0])), (sk, .inr (8, [.ref s0, .ref s1, .ref s2, .ref s3, .ref s4, .ref s5, .ref s6, .ref s7, .ref s8, .ref s9, .ref s10, .ref s11, .int 1, .int 0, .int 0, .int 0])), (nt, .inr (7, [.ref n0, .ref n1, .ref n2, .ref n3, .ref n4, .int 0, .int 0, .int 0, .int 0, .int 0])), (ck, .inr (2, [.ref c0, .ref c1, .ref c2, .ref c3, .ref c4, .ref c5, .null, .int 0]))] H := hP
  have hD : va_D A [(h0, .inr (11, [.ref tp, .ref rd, .ref ck, .ref sk, .ref nt, .ref mc, .ref sp, .ref sh, .int 0, .int 0])), (rd, .inr (1, [.ref tp, .ref sp, .null, .int 0, .int 0, .long 0, .int 0, .int 0, .int 0])), (t2, .inl (kt2, 4001, .inl (fun _ => 0))), (t3, .inl (kt3, 4001, .inl (fun _ => 0))), (t4, .inl (kt4, 4001, .inr (.inl (fun _ => 0)))), (sp, .inr (0, [.ref f0, .ref f1, .ref f2, .ref f3, .ref f4, .ref g5, .ref g6, .ref g7, .ref g8, .ref g9, .ref g10, .int 0, .int 0])), (f0, .inr (6, [.ref j0, .int 0])), (f1, .inr (6, [.ref j1, .int 0])), (f2, .inr (6, [.ref j2, .int 0])), (f3, .inr (6, [.ref j3, .int 0])), (f4, .inr (6, [.ref j4, .int 0])), (tp, .inr (9, [.ref t0, .ref t1, .ref t2, .ref t3, .ref t4, .int 0, .int 0, .int 0, .int 0, .int 0, .int 0, .long 0])), (sk, .inr (8, [.ref s0, .ref s1, .ref s2, .ref s3, .ref s4, .ref s5, .ref s6, .ref s7, .ref s8, .ref s9, .ref s10, .ref s11, .int 1, .int 0, .int 0, .int 0])), (nt, .inr (7, [.ref n0, .ref n1, .ref n2, .ref n3, .ref n4, .int 0, .int 0, .int 0, .int 0, .int 0])), (ck, .inr (2, [.ref c0, .ref c1, .ref c2, .ref c3, .ref c4, .ref c5, .null, .int 0]))] := hD
  refine lv_aload_n hx hb dX11_book_80 rfl (lv_at hl 2 rfl) ?_
  refine lv_iconst (v := 0) hx hb dX11_book_81 (by decide) ?_
  refine va_put (D := D) (ci := 11) (v := .int 0) (ty := tyX11 9) (C := RX11) (T := TX11) (N := 10) hx hb hg inX11 tyX11 tyX11_ok nmX11 hown hK hP hD hS 0 rfl rfl 9 (by decide) (hg _ w724) (fun _ h9 => h9) rfl (tyX11_ok 9 (by decide)) rfl rfl (Nat.le_of_ble_eq_true rfl) dX11_book_82 (fun H locs hP hD hS => ?_)
  have hP : va_P D vwCl [(h0, .inr (11, [.ref tp, .ref rd, .ref ck, .ref sk, .ref nt, .ref mc, .ref sp, .ref sh, .int 0, .int 0])), (rd, .inr (1, [.ref tp, .ref sp, .null, .int 0, .int 0, .long 0, .int 0, .int 0, .int 0])), (t2, .inl (kt2, 4001, .inl (fun _ => 0))), (t3, .inl (kt3, 4001, .inl (fun _ => 0))), (t4, .inl (kt4, 4001, .inr (.inl (fun _ => 0)))), (sp, .inr (0, [.ref f0, .ref f1, .ref f2, .ref f3, .ref f4, .ref g5, .ref g6, .ref g7, .ref g8, .ref g9, .ref g10, .int 0, .int 0])), (f0, .inr (6, [.ref j0, .int 0])), (f1, .inr (6, [.ref j1, .int 0])), (f2, .inr (6, [.ref j2, .int 0])), (f3, .inr (6, [.ref j3, .int 0])), (f4, .inr (6, [.ref j4, .int 0])), (tp, .inr (9, [.ref t0, .ref t1, .ref t2, .ref t3, .ref t4, .int 0, .int 0, .int 0, .int 0, .int 0, .int 0, .long 0])), (sk, .inr (8, [.ref s0, .ref s1, .ref s2, .ref s3, .ref s4, .ref s5, .ref s6, .ref s7, .ref s8, .ref s9, .ref s10, .ref s11, .int 1, .int 0, .int 0, .int 0])), (nt, .inr (7, [.ref n0, .ref n1, .ref n2, .ref n3, .ref n4, .int 0, .int 0, .int 0, .int 0, .int 0])), (ck, .inr (2, [.ref c0, .ref c1, .ref c2, .ref c3, .ref c4, .ref c5, .null, .int 0]))] H := hP
  have hD : va_D A [(h0, .inr (11, [.ref tp, .ref rd, .ref ck, .ref sk, .ref nt, .ref mc, .ref sp, .ref sh, .int 0, .int 0])), (rd, .inr (1, [.ref tp, .ref sp, .null, .int 0, .int 0, .long 0, .int 0, .int 0, .int 0])), (t2, .inl (kt2, 4001, .inl (fun _ => 0))), (t3, .inl (kt3, 4001, .inl (fun _ => 0))), (t4, .inl (kt4, 4001, .inr (.inl (fun _ => 0)))), (sp, .inr (0, [.ref f0, .ref f1, .ref f2, .ref f3, .ref f4, .ref g5, .ref g6, .ref g7, .ref g8, .ref g9, .ref g10, .int 0, .int 0])), (f0, .inr (6, [.ref j0, .int 0])), (f1, .inr (6, [.ref j1, .int 0])), (f2, .inr (6, [.ref j2, .int 0])), (f3, .inr (6, [.ref j3, .int 0])), (f4, .inr (6, [.ref j4, .int 0])), (tp, .inr (9, [.ref t0, .ref t1, .ref t2, .ref t3, .ref t4, .int 0, .int 0, .int 0, .int 0, .int 0, .int 0, .long 0])), (sk, .inr (8, [.ref s0, .ref s1, .ref s2, .ref s3, .ref s4, .ref s5, .ref s6, .ref s7, .ref s8, .ref s9, .ref s10, .ref s11, .int 1, .int 0, .int 0, .int 0])), (nt, .inr (7, [.ref n0, .ref n1, .ref n2, .ref n3, .ref n4, .int 0, .int 0, .int 0, .int 0, .int 0])), (ck, .inr (2, [.ref c0, .ref c1, .ref c2, .ref c3, .ref c4, .ref c5, .null, .int 0]))] := hD
  refine lv_iconst (v := 0) hx hb dX11_book_85 (by decide) ?_
  refine W.widen (k := 0) (n := 0) (Nat.le_of_ble_eq_true rfl) (Nat.le_of_ble_eq_true rfl) ?_
  have hP9 := hP.sub (ws' := []) [] rfl
  have hD9 := hD.sub (ws' := []) [] (by decide) rfl
  have hK9 := hK.sub (tys' := []) [] rfl
  exact W.iret (v := 0) hx hb hr (fun t ht hW => ⟨⟨0, (), rfl, (by first | rfl | trivial | assumption | decide), by rw [ht]; exact hP9, va_K.moved hW.alike hK9, hD9⟩, hS.F ht⟩) hS.2.2 dX11_book_86
abbrev r_c_named : Room := { frames := 2, cells := 0, slots := 0, locals := 41 }
abbrev q_c_named (D : va_G) (h0 : Nat) (tp : Nat) (rd : Nat) (ck : Nat) (sk : Nat) (nt : Nat) (mc : Nat) (sh : Nat) (sp : Nat) (t0 : Nat) (t1 : Nat) (t2 : Nat) (t3 : Nat) (t4 : Nat) (kt2 : ClassId) (kt3 : ClassId) (kt4 : ClassId) (p0 : Int32) (A : Nat → Prop) : Array Value → State → Outcome → State → Prop := va_Qi (fun (r : Int32) (_ : Unit) => r = -1) (fun u t => gq D A ((fun (_ : Unit) => []) u) ((fun (_ : Unit) => ([] : List (ClassId × FieldType))) u) t) A
set_option maxHeartbeats 4000000 in
set_option maxRecDepth 100000 in
theorem c_named (l : Launch) (D : va_G) (ks : Nat × Nat × Option Nat) (sz : Nat) (h0 : Nat) (tp : Nat) (rd : Nat) (ck : Nat) (sk : Nat) (nt : Nat) (mc : Nat) (sh : Nat) (sp : Nat) (t0 : Nat) (t1 : Nat) (t2 : Nat) (t3 : Nat) (t4 : Nat) (kt2 : ClassId) (kt3 : ClassId) (kt4 : ClassId) (p0 : Int32) : Met l yX11_named (Cond.code yX11_named cX11_named 6 (some .int) :: GW) r_c_named (va_Pc [.ref h0, .int p0] (gp D ks [(h0, .inr (11, [.ref tp, .ref rd, .ref ck, .ref sk, .ref nt, .ref mc, .ref sh, .ref sp, .int 0, .int 0])), (tp, .inr (9, [.ref t0, .ref t1, .ref t2, .ref t3, .ref t4, .int 0, .int 0, .int 0, .int 0, .int 0, .int 0, .long 0])), (t2, .inl (kt2, 4001, .inl (fun _ => 0))), (t3, .inl (kt3, 4001, .inl (fun _ => 0))), (t4, .inl (kt4, 4001, .inr (.inl (fun _ => 0))))] [(kt2, .int), (kt3, .int), (kt4, .long)] sz)) (q_c_named D h0 tp rd ck sk nt mc sh sp t0 t1 t2 t3 t4 kt2 kt3 kt4 p0 (va_A [(h0, .inr (11, [.ref tp, .ref rd, .ref ck, .ref sk, .ref nt, .ref mc, .ref sh, .ref sp, .int 0, .int 0])), (tp, .inr (9, [.ref t0, .ref t1, .ref t2, .ref t3, .ref t4, .int 0, .int 0, .int 0, .int 0, .int 0, .int 0, .long 0])), (t2, .inl (kt2, 4001, .inl (fun _ => 0))), (t3, .inl (kt3, 4001, .inl (fun _ => 0))), (t4, .inl (kt4, 4001, .inr (.inl (fun _ => 0))))] sz)) 0 0 (va_A [(h0, .inr (11, [.ref tp, .ref rd, .ref ck, .ref sk, .ref nt, .ref mc, .ref sh, .ref sp, .int 0, .int 0])), (tp, .inr (9, [.ref t0, .ref t1, .ref t2, .ref t3, .ref t4, .int 0, .int 0, .int 0, .int 0, .int 0, .int 0, .long 0])), (t2, .inl (kt2, 4001, .inl (fun _ => 0))), (t3, .inl (kt3, 4001, .inl (fun _ => 0))), (t4, .inl (kt4, 4001, .inr (.inl (fun _ => 0))))] sz) := by
  refine g_met (q_c_named D h0 tp rd ck sk nt mc sh sp t0 t1 t2 t3 t4 kt2 kt3 kt4 p0) (by decide) (Nat.le_of_ble_eq_true rfl) ?_
  intro p e s m below meth c A ls H locs hx hb hr hml hown hg hlocks hin hnw hgk hP hK hD hS hA hl
  have hown : s.vm.findClass RX11 = some m.cls := hown
  have hl : lv_has ls 6 [(0, .ref h0), (1, .int p0)] := hl
  refine lv_aload_n hx hb dX11_named_0 rfl (lv_at hl 0 rfl) ?_
  refine va_get (D := D) (ci := 11) (v := .ref tp) (C := RX11) (T := TX11) (N := 10) hx hb hg inX11 hown hK hP 0 rfl rfl 0 (by decide) (hg _ w715) (fun _ h9 => h9) rfl dX11_named_1 ?_
  refine g_void (wr := [(h0, .inr (11, [.ref tp, .ref rd, .ref ck, .ref sk, .ref nt, .ref mc, .ref sh, .ref sp, .int 0, .int 0]))]) (tr := []) (g_runV (As := []) (rest := []) (wc := [(tp, .inr (9, [.ref t0, .ref t1, .ref t2, .ref t3, .ref t4, .int 0, .int 0, .int 0, .int 0, .int 0, .int 0, .long 0])), (t2, .inl (kt2, 4001, .inl (fun _ => 0))), (t3, .inl (kt3, 4001, .inl (fun _ => 0))), (t4, .inl (kt4, 4001, .inr (.inl (fun _ => 0))))]) (tc := [(kt2, .int), (kt3, .int), (kt4, .long)]) (ci := 9) (q0 := 1) hx hb hml hown hg gw_self hP hD hK hS hA hnw hgk [1, 2, 3, 4] [0, 1, 2] (by decide) rfl rfl (c_Tape_begin0 l D ks H.size tp t0 t1 t2 t3 t4 kt2 kt3 kt4) w1051 w767 w768 w157 w769 rfl rfl hdV_yX9_begin ⟨Nat.le_of_ble_eq_true rfl, Nat.le_of_ble_eq_true rfl⟩ rfl hl.1 rfl (Nat.le_of_ble_eq_true rfl) dX11_named_4 ⟨Nat.le_of_ble_eq_true rfl, Nat.le_of_ble_eq_true rfl⟩) hP hD hK hS hA [1, 2, 3, 4] [0] [] rfl rfl (by decide) (by decide) rfl (fun vu2 H locs vhw1 hP hD hK hS => ?_)
  have hP : va_P D vwCl [(h0, .inr (11, [.ref tp, .ref rd, .ref ck, .ref sk, .ref nt, .ref mc, .ref sh, .ref sp, .int 0, .int 0])), (tp, .inr (9, [.ref t0, .ref t1, .ref t2, .ref t3, .ref t4, .int 0, .int 0, .int 0, .int 0, .int 0, .int 0, .long 0])), (t2, .inl (kt2, 4001, .inl (fun _ => 0))), (t3, .inl (kt3, 4001, .inl (fun _ => 0))), (t4, .inl (kt4, 4001, .inr (.inl (fun _ => 0))))] H := hP
  have hD : va_D A [(h0, .inr (11, [.ref tp, .ref rd, .ref ck, .ref sk, .ref nt, .ref mc, .ref sh, .ref sp, .int 0, .int 0])), (tp, .inr (9, [.ref t0, .ref t1, .ref t2, .ref t3, .ref t4, .int 0, .int 0, .int 0, .int 0, .int 0, .int 0, .long 0])), (t2, .inl (kt2, 4001, .inl (fun _ => 0))), (t3, .inl (kt3, 4001, .inl (fun _ => 0))), (t4, .inl (kt4, 4001, .inr (.inl (fun _ => 0))))] := hD
  have hK : va_K D vwCl [(kt2, .int), (kt3, .int), (kt4, .long)] s := hK
  refine lv_aload_n hx hb dX11_named_7 rfl (lv_at hl 0 rfl) ?_
  refine va_get (D := D) (ci := 11) (v := .ref tp) (C := RX11) (T := TX11) (N := 10) hx hb hg inX11 hown hK hP 0 rfl rfl 0 (by decide) (hg _ w715) (fun _ h9 => h9) rfl dX11_named_8 ?_
  refine va_getN (D := D) (ci := 9) (v := .int 0) (C := RX9) (T := TX9) (N := 12) hx hb hg inX9 hown hK hP 1 rfl rfl 9 (by decide) (hnw.use 263 n263 rfl) (fun _ h9 => h9) rfl dX11_named_11 ?_
  refine lv_iconst (v := 3) hx hb dX11_named_14 (by decide) ?_
  refine lv_icmp_ne (tgt := 22) hx hb dX11_named_15 (by decide) (fun _ => ?_) (fun q => absurd q (by decide))
  refine lv_iconst (v := 0) hx hb dX11_named_22 (by decide) ?_
  refine lv_istore_n (lv' := [(2, .int 0), (0, .ref h0), (1, .int p0)]) hx hb dX11_named_23 rfl hl (by decide) rfl (fun ls hl => ?_)
  refine lv_aload_n hx hb dX11_named_24 rfl (lv_at hl 1 rfl) ?_
  refine va_get (D := D) (ci := 11) (v := .ref tp) (C := RX11) (T := TX11) (N := 10) hx hb hg inX11 hown hK hP 0 rfl rfl 0 (by decide) (hg _ w715) (fun _ h9 => h9) rfl dX11_named_25 ?_
  refine va_getN (D := D) (ci := 9) (v := .long 0) (C := RX9) (T := TX9) (N := 12) hx hb hg inX9 hown hK hP 1 rfl rfl 11 (by decide) (hnw.use 267 n267 rfl) (fun _ h9 => h9) rfl dX11_named_28 ?_
  refine lv_lstore_n (lv' := [(3, .long 0), (2, .int 0), (0, .ref h0), (1, .int p0)]) hx hb dX11_named_31 rfl hl (by decide) rfl (fun ls hl => ?_)
  refine lv_aload_n hx hb dX11_named_32 rfl (lv_at hl 2 rfl) ?_
  refine va_get (D := D) (ci := 11) (v := .ref tp) (C := RX11) (T := TX11) (N := 10) hx hb hg inX11 hown hK hP 0 rfl rfl 0 (by decide) (hg _ w715) (fun _ h9 => h9) rfl dX11_named_33 ?_
  refine g_void (wr := [(h0, .inr (11, [.ref tp, .ref rd, .ref ck, .ref sk, .ref nt, .ref mc, .ref sh, .ref sp, .int 0, .int 0]))]) (tr := []) (g_runV (As := []) (rest := []) (wc := [(tp, .inr (9, [.ref t0, .ref t1, .ref t2, .ref t3, .ref t4, .int 0, .int 0, .int 0, .int 0, .int 0, .int 0, .long 0])), (t2, .inl (kt2, 4001, .inl (fun _ => 0))), (t3, .inl (kt3, 4001, .inl (fun _ => 0))), (t4, .inl (kt4, 4001, .inr (.inl (fun _ => 0))))]) (tc := [(kt2, .int), (kt3, .int), (kt4, .long)]) (ci := 9) (q0 := 1) hx hb hml hown hg gw_self hP hD hK hS hA hnw hgk [1, 2, 3, 4] [0, 1, 2] (by decide) rfl rfl (c_Tape_next0 l D ks H.size tp t0 t1 t2 t3 t4 kt2 kt3 kt4) w1052 w852 w853 w157 w854 rfl rfl hdV_yX9_next ⟨Nat.le_of_ble_eq_true rfl, Nat.le_of_ble_eq_true rfl⟩ rfl hl.1 rfl (Nat.le_of_ble_eq_true rfl) dX11_named_36 ⟨Nat.le_of_ble_eq_true rfl, Nat.le_of_ble_eq_true rfl⟩) hP hD hK hS hA [1, 2, 3, 4] [0] [] rfl rfl (by decide) (by decide) rfl (fun vu4 H locs vhw3 hP hD hK hS => ?_)
  have hP : va_P D vwCl [(h0, .inr (11, [.ref tp, .ref rd, .ref ck, .ref sk, .ref nt, .ref mc, .ref sh, .ref sp, .int 0, .int 0])), (tp, .inr (9, [.ref t0, .ref t1, .ref t2, .ref t3, .ref t4, .int 0, .int 0, .int 0, .int 0, .int 0, .int 0, .long 0])), (t2, .inl (kt2, 4001, .inl (fun _ => 0))), (t3, .inl (kt3, 4001, .inl (fun _ => 0))), (t4, .inl (kt4, 4001, .inr (.inl (fun _ => 0))))] H := hP
  have hD : va_D A [(h0, .inr (11, [.ref tp, .ref rd, .ref ck, .ref sk, .ref nt, .ref mc, .ref sh, .ref sp, .int 0, .int 0])), (tp, .inr (9, [.ref t0, .ref t1, .ref t2, .ref t3, .ref t4, .int 0, .int 0, .int 0, .int 0, .int 0, .int 0, .long 0])), (t2, .inl (kt2, 4001, .inl (fun _ => 0))), (t3, .inl (kt3, 4001, .inl (fun _ => 0))), (t4, .inl (kt4, 4001, .inr (.inl (fun _ => 0))))] := hD
  have hK : va_K D vwCl [(kt2, .int), (kt3, .int), (kt4, .long)] s := hK
  refine lv_aload_n hx hb dX11_named_39 rfl (lv_at hl 2 rfl) ?_
  refine va_get (D := D) (ci := 11) (v := .ref tp) (C := RX11) (T := TX11) (N := 10) hx hb hg inX11 hown hK hP 0 rfl rfl 0 (by decide) (hg _ w715) (fun _ h9 => h9) rfl dX11_named_40 ?_
  refine va_getN (D := D) (ci := 9) (v := .int 0) (C := RX9) (T := TX9) (N := 12) hx hb hg inX9 hown hK hP 1 rfl rfl 9 (by decide) (hnw.use 263 n263 rfl) (fun _ h9 => h9) rfl dX11_named_43 ?_
  refine lv_if_ne (tgt := 53) hx hb dX11_named_46 (by decide) (fun q => absurd rfl q) (fun _ => ?_)
  refine lv_iconst (v := 1) hx hb dX11_named_49 (by decide) ?_
  refine lv_goto (tgt := 54) hx hb dX11_named_50 (by decide) ?_
  refine lv_istore (lv' := [(5, .int 1), (3, .long 0), (2, .int 0), (0, .ref h0), (1, .int p0)]) hx hb dX11_named_54 hl (by decide) rfl (fun ls hl => ?_)
  refine lv_aload_n hx hb dX11_named_56 rfl (lv_at hl 3 rfl) ?_
  refine va_get (D := D) (ci := 11) (v := .ref tp) (C := RX11) (T := TX11) (N := 10) hx hb hg inX11 hown hK hP 0 rfl rfl 0 (by decide) (hg _ w715) (fun _ h9 => h9) rfl dX11_named_57 ?_
  refine g_void (wr := [(h0, .inr (11, [.ref tp, .ref rd, .ref ck, .ref sk, .ref nt, .ref mc, .ref sh, .ref sp, .int 0, .int 0])), (t2, .inl (kt2, 4001, .inl (fun _ => 0))), (t3, .inl (kt3, 4001, .inl (fun _ => 0))), (t4, .inl (kt4, 4001, .inr (.inl (fun _ => 0))))]) (tr := [(kt2, .int), (kt3, .int), (kt4, .long)]) (g_runV (As := []) (rest := []) (wc := [(tp, .inr (9, [.ref t0, .ref t1, .ref t2, .ref t3, .ref t4, .int 0, .int 0, .int 0, .int 0, .int 0, .int 0, .long 0]))]) (tc := []) (ci := 9) (q0 := 1) hx hb hml hown hg gw_self hP hD hK hS hA hnw hgk [1] [] (by decide) rfl rfl (c_Tape_empty0 l D ks H.size tp t0 t1 t2 t3 t4) w1019 w1020 w1021 w157 w1022 rfl rfl hdV_yX9_empty ⟨Nat.le_of_ble_eq_true rfl, Nat.le_of_ble_eq_true rfl⟩ rfl hl.1 rfl (Nat.le_of_ble_eq_true rfl) dX11_named_60 ⟨Nat.le_of_ble_eq_true rfl, Nat.le_of_ble_eq_true rfl⟩) hP hD hK hS hA [1] [0, 2, 3, 4] [0, 1, 2] rfl rfl (by decide) (by decide) rfl (fun vu6 H locs vhw5 hP hD hK hS => ?_)
  have hP : va_P D vwCl [(h0, .inr (11, [.ref tp, .ref rd, .ref ck, .ref sk, .ref nt, .ref mc, .ref sh, .ref sp, .int 0, .int 0])), (t2, .inl (kt2, 4001, .inl (fun _ => 0))), (t3, .inl (kt3, 4001, .inl (fun _ => 0))), (t4, .inl (kt4, 4001, .inr (.inl (fun _ => 0)))), (tp, .inr (9, [.ref t0, .ref t1, .ref t2, .ref t3, .ref t4, .int 0, .int 0, .int 0, .int 0, .int 0, .int 0, .long 0]))] H := hP
  have hD : va_D A [(h0, .inr (11, [.ref tp, .ref rd, .ref ck, .ref sk, .ref nt, .ref mc, .ref sh, .ref sp, .int 0, .int 0])), (t2, .inl (kt2, 4001, .inl (fun _ => 0))), (t3, .inl (kt3, 4001, .inl (fun _ => 0))), (t4, .inl (kt4, 4001, .inr (.inl (fun _ => 0)))), (tp, .inr (9, [.ref t0, .ref t1, .ref t2, .ref t3, .ref t4, .int 0, .int 0, .int 0, .int 0, .int 0, .int 0, .long 0]))] := hD
  have hK : va_K D vwCl [(kt2, .int), (kt3, .int), (kt4, .long)] s := hK
  refine lv_iload_n hx hb dX11_named_63 rfl (lv_at hl 2 rfl) ?_
  refine lv_if_eq (tgt := 84) hx hb dX11_named_64 (by decide) (fun _ => ?_) (fun q => absurd (by decide) q)
  refine lv_iconst (v := (-1)) hx hb dX11_named_84 (by decide) ?_
  refine W.widen (k := 0) (n := 0) (Nat.le_of_ble_eq_true rfl) (Nat.le_of_ble_eq_true rfl) ?_
  have hP9 := hP.sub (ws' := []) [] rfl
  have hD9 := hD.sub (ws' := []) [] (by decide) rfl
  have hK9 := hK.sub (tys' := []) [] rfl
  exact W.iret (v := (-1)) hx hb hr (fun t ht hW => ⟨⟨(-1), (), rfl, (by first | rfl | trivial | assumption | decide), by rw [ht]; exact hP9, va_K.moved hW.alike hK9, hD9⟩, hS.F ht⟩) hS.2.2 dX11_named_85
abbrev r_c_setting : Room := { frames := 0, cells := 0, slots := 0, locals := 0 }
abbrev q_c_setting (D : va_G) (h0 : Nat) (tp : Nat) (rd : Nat) (ck : Nat) (sk : Nat) (nt : Nat) (mc : Nat) (sh : Nat) (sp : Nat) (b0 : Nat) (b1 : Nat) (b2 : Nat) (b3 : Nat) (b4 : Nat) (d5 : Nat) (d6 : Nat) (d7 : Nat) (d8 : Nat) (d9 : Nat) (d10 : Nat) (e1 : Nat) (p0 : Int32) (p1 : Int32) (A : Nat → Prop) : Array Value → State → Outcome → State → Prop := va_Qi (fun (r : Int32) (_ : Unit) => r = 0) (fun u t => gq D A ((fun (_ : Unit) => []) u) ((fun (_ : Unit) => ([] : List (ClassId × FieldType))) u) t) A
set_option maxHeartbeats 4000000 in
set_option maxRecDepth 100000 in
theorem c_setting (l : Launch) (D : va_G) (ks : Nat × Nat × Option Nat) (sz : Nat) (h0 : Nat) (tp : Nat) (rd : Nat) (ck : Nat) (sk : Nat) (nt : Nat) (mc : Nat) (sh : Nat) (sp : Nat) (b0 : Nat) (b1 : Nat) (b2 : Nat) (b3 : Nat) (b4 : Nat) (d5 : Nat) (d6 : Nat) (d7 : Nat) (d8 : Nat) (d9 : Nat) (d10 : Nat) (e1 : Nat) (p0 : Int32) (p1 : Int32) : Met l yX11_setting (Cond.code yX11_setting cX11_setting 3 (some .boolean) :: GW) r_c_setting (va_Pc [.ref h0, .int p0, .int p1] (gp D ks [(h0, .inr (11, [.ref tp, .ref rd, .ref ck, .ref sk, .ref nt, .ref mc, .ref sh, .ref sp, .int 0, .int 0])), (sh, .inr (0, [.ref b0, .ref b1, .ref b2, .ref b3, .ref b4, .ref d5, .ref d6, .ref d7, .ref d8, .ref d9, .ref d10, .int 0, .int 0])), (b1, .inr (6, [.ref e1, .int 0]))] [] sz)) (q_c_setting D h0 tp rd ck sk nt mc sh sp b0 b1 b2 b3 b4 d5 d6 d7 d8 d9 d10 e1 p0 p1 (va_A [(h0, .inr (11, [.ref tp, .ref rd, .ref ck, .ref sk, .ref nt, .ref mc, .ref sh, .ref sp, .int 0, .int 0])), (sh, .inr (0, [.ref b0, .ref b1, .ref b2, .ref b3, .ref b4, .ref d5, .ref d6, .ref d7, .ref d8, .ref d9, .ref d10, .int 0, .int 0])), (b1, .inr (6, [.ref e1, .int 0]))] sz)) 0 0 (va_A [(h0, .inr (11, [.ref tp, .ref rd, .ref ck, .ref sk, .ref nt, .ref mc, .ref sh, .ref sp, .int 0, .int 0])), (sh, .inr (0, [.ref b0, .ref b1, .ref b2, .ref b3, .ref b4, .ref d5, .ref d6, .ref d7, .ref d8, .ref d9, .ref d10, .int 0, .int 0])), (b1, .inr (6, [.ref e1, .int 0]))] sz) := by
  refine g_met (q_c_setting D h0 tp rd ck sk nt mc sh sp b0 b1 b2 b3 b4 d5 d6 d7 d8 d9 d10 e1 p0 p1) (by decide) (Nat.le_of_ble_eq_true rfl) ?_
  intro p e s m below meth c A ls H locs hx hb hr hml hown hg hlocks hin hnw hgk hP hK hD hS hA hl
  have hown : s.vm.findClass RX11 = some m.cls := hown
  have hl : lv_has ls 3 [(0, .ref h0), (1, .int p0), (2, .int p1)] := hl
  refine lv_aload_n hx hb dX11_setting_0 rfl (lv_at hl 0 rfl) ?_
  refine va_get (D := D) (ci := 11) (v := .int 0) (C := RX11) (T := TX11) (N := 10) hx hb hg inX11 hown hK hP 0 rfl rfl 8 (by decide) (hg _ w723) (fun _ h9 => h9) rfl dX11_setting_1 ?_
  refine lv_if_ne (tgt := 25) hx hb dX11_setting_4 (by decide) (fun q => absurd rfl q) (fun _ => ?_)
  refine lv_iload_n hx hb dX11_setting_7 rfl (lv_at hl 1 rfl) ?_
  refine lv_if_lt (tgt := 25) hx hb dX11_setting_8 (by decide) (fun vc1 => ?_) (fun vc1 => ?_)
  · skip
    refine lv_iconst (v := 0) hx hb dX11_setting_25 (by decide) ?_
    refine W.widen (k := 0) (n := 0) (Nat.le_of_ble_eq_true rfl) (Nat.le_of_ble_eq_true rfl) ?_
    have hP9 := hP.sub (ws' := []) [] rfl
    have hD9 := hD.sub (ws' := []) [] (by decide) rfl
    have hK9 := hK.sub (tys' := []) [] rfl
    exact W.zret (v := 0) hx hb hr rfl (fun t ht hW => ⟨⟨0, (), rfl, (by first | rfl | trivial | assumption | decide), by rw [ht]; exact hP9, va_K.moved hW.alike hK9, hD9⟩, hS.F ht⟩) hS.2.2 dX11_setting_26
  · skip
    refine lv_iload_n hx hb dX11_setting_11 rfl (lv_at hl 1 rfl) ?_
    refine lv_aload_n hx hb dX11_setting_12 rfl (lv_at hl 0 rfl) ?_
    refine va_get (D := D) (ci := 11) (v := .ref sh) (C := RX11) (T := TX11) (N := 10) hx hb hg inX11 hown hK hP 0 rfl rfl 6 (by decide) (hg _ w721) (fun _ h9 => h9) rfl dX11_setting_13 ?_
    refine va_getN (D := D) (ci := 0) (v := .ref b1) (C := RX0) (T := TX0) (N := 13) hx hb hg inX0 hown hK hP 1 rfl rfl 1 (by decide) (hnw.use 598 n598 rfl) (fun _ h9 => h9) rfl dX11_setting_16 ?_
    refine va_getN (D := D) (ci := 6) (v := .int 0) (C := RX6) (T := TX6) (N := 2) hx hb hg inX6 hown hK hP 2 rfl rfl 1 (by decide) (hnw.use 483 n483 rfl) (fun _ h9 => h9) rfl dX11_setting_19 ?_
    refine lv_icmp_lt (tgt := 27) hx hb dX11_setting_22 (by decide) (fun q => absurd q vc1) (fun _ => ?_)
    refine lv_iconst (v := 0) hx hb dX11_setting_25 (by decide) ?_
    refine W.widen (k := 0) (n := 0) (Nat.le_of_ble_eq_true rfl) (Nat.le_of_ble_eq_true rfl) ?_
    have hP9 := hP.sub (ws' := []) [] rfl
    have hD9 := hD.sub (ws' := []) [] (by decide) rfl
    have hK9 := hK.sub (tys' := []) [] rfl
    exact W.zret (v := 0) hx hb hr rfl (fun t ht hW => ⟨⟨0, (), rfl, (by first | rfl | trivial | assumption | decide), by rw [ht]; exact hP9, va_K.moved hW.alike hK9, hD9⟩, hS.F ht⟩) hS.2.2 dX11_setting_26
abbrev r_c_check : Room := { frames := 2, cells := 0, slots := 0, locals := 45 }
abbrev q_c_check (D : va_G) (h0 : Nat) (tp : Nat) (rd : Nat) (ck : Nat) (sk : Nat) (nt : Nat) (mc : Nat) (sh : Nat) (sp : Nat) (c0 : Nat) (c1 : Nat) (c2 : Nat) (c3 : Nat) (c4 : Nat) (c5 : Nat) (kc5 : ClassId) (b0 : Nat) (b1 : Nat) (b2 : Nat) (b3 : Nat) (b4 : Nat) (d5 : Nat) (d6 : Nat) (d7 : Nat) (d8 : Nat) (d9 : Nat) (d10 : Nat) (e2 : Nat) (A : Nat → Prop) : Array Value → State → Outcome → State → Prop := va_Qi (fun (r : Int32) (_ : Unit) => r = 0) (fun u t => gq D A ((fun (_ : Unit) => []) u) ((fun (_ : Unit) => ([] : List (ClassId × FieldType))) u) t) A
set_option maxHeartbeats 4000000 in
set_option maxRecDepth 100000 in
theorem c_check (l : Launch) (D : va_G) (ks : Nat × Nat × Option Nat) (sz : Nat) (h0 : Nat) (tp : Nat) (rd : Nat) (ck : Nat) (sk : Nat) (nt : Nat) (mc : Nat) (sh : Nat) (sp : Nat) (c0 : Nat) (c1 : Nat) (c2 : Nat) (c3 : Nat) (c4 : Nat) (c5 : Nat) (kc5 : ClassId) (b0 : Nat) (b1 : Nat) (b2 : Nat) (b3 : Nat) (b4 : Nat) (d5 : Nat) (d6 : Nat) (d7 : Nat) (d8 : Nat) (d9 : Nat) (d10 : Nat) (e2 : Nat) : Met l yX11_check (Cond.code yX11_check cX11_check 2 (some .int) :: GW) r_c_check (va_Pc [.ref h0] (gp D ks [(h0, .inr (11, [.ref tp, .ref rd, .ref ck, .ref sk, .ref nt, .ref mc, .ref sh, .ref sp, .int 0, .int 0])), (ck, .inr (2, [.ref c0, .ref c1, .ref c2, .ref c3, .ref c4, .ref c5, .null, .int 0])), (c5, .inl (kc5, 24, .inl (fun _ => 0))), (sh, .inr (0, [.ref b0, .ref b1, .ref b2, .ref b3, .ref b4, .ref d5, .ref d6, .ref d7, .ref d8, .ref d9, .ref d10, .int 0, .int 0])), (b2, .inr (6, [.ref e2, .int 0]))] [(kc5, .int)] sz)) (q_c_check D h0 tp rd ck sk nt mc sh sp c0 c1 c2 c3 c4 c5 kc5 b0 b1 b2 b3 b4 d5 d6 d7 d8 d9 d10 e2 (va_A [(h0, .inr (11, [.ref tp, .ref rd, .ref ck, .ref sk, .ref nt, .ref mc, .ref sh, .ref sp, .int 0, .int 0])), (ck, .inr (2, [.ref c0, .ref c1, .ref c2, .ref c3, .ref c4, .ref c5, .null, .int 0])), (c5, .inl (kc5, 24, .inl (fun _ => 0))), (sh, .inr (0, [.ref b0, .ref b1, .ref b2, .ref b3, .ref b4, .ref d5, .ref d6, .ref d7, .ref d8, .ref d9, .ref d10, .int 0, .int 0])), (b2, .inr (6, [.ref e2, .int 0]))] sz)) 0 0 (va_A [(h0, .inr (11, [.ref tp, .ref rd, .ref ck, .ref sk, .ref nt, .ref mc, .ref sh, .ref sp, .int 0, .int 0])), (ck, .inr (2, [.ref c0, .ref c1, .ref c2, .ref c3, .ref c4, .ref c5, .null, .int 0])), (c5, .inl (kc5, 24, .inl (fun _ => 0))), (sh, .inr (0, [.ref b0, .ref b1, .ref b2, .ref b3, .ref b4, .ref d5, .ref d6, .ref d7, .ref d8, .ref d9, .ref d10, .int 0, .int 0])), (b2, .inr (6, [.ref e2, .int 0]))] sz) := by
  refine g_met (q_c_check D h0 tp rd ck sk nt mc sh sp c0 c1 c2 c3 c4 c5 kc5 b0 b1 b2 b3 b4 d5 d6 d7 d8 d9 d10 e2) (by decide) (Nat.le_of_ble_eq_true rfl) ?_
  intro p e s m below meth c A ls H locs hx hb hr hml hown hg hlocks hin hnw hgk hP hK hD hS hA hl
  have hown : s.vm.findClass RX11 = some m.cls := hown
  have hl : lv_has ls 2 [(0, .ref h0)] := hl
  refine lv_aload_n hx hb dX11_check_0 rfl (lv_at hl 0 rfl) ?_
  refine va_get (D := D) (ci := 11) (v := .ref ck) (C := RX11) (T := TX11) (N := 10) hx hb hg inX11 hown hK hP 0 rfl rfl 2 (by decide) (hg _ w717) (fun _ h9 => h9) rfl dX11_check_1 ?_
  refine lv_aload_n hx hb dX11_check_4 rfl (lv_at hl 0 rfl) ?_
  refine va_get (D := D) (ci := 11) (v := .ref sh) (C := RX11) (T := TX11) (N := 10) hx hb hg inX11 hown hK hP 0 rfl rfl 6 (by decide) (hg _ w721) (fun _ h9 => h9) rfl dX11_check_5 ?_
  refine g_int (wr := [(h0, .inr (11, [.ref tp, .ref rd, .ref ck, .ref sk, .ref nt, .ref mc, .ref sh, .ref sp, .int 0, .int 0]))]) (tr := []) (g_runV (As := [.ref sh]) (rest := []) (wc := [(ck, .inr (2, [.ref c0, .ref c1, .ref c2, .ref c3, .ref c4, .ref c5, .null, .int 0])), (c5, .inl (kc5, 24, .inl (fun _ => 0))), (sh, .inr (0, [.ref b0, .ref b1, .ref b2, .ref b3, .ref b4, .ref d5, .ref d6, .ref d7, .ref d8, .ref d9, .ref d10, .int 0, .int 0])), (b2, .inr (6, [.ref e2, .int 0]))]) (tc := [(kc5, .int)]) (ci := 2) (q0 := 1) hx hb hml hown hg gw_self hP hD hK hS hA hnw hgk [1, 2, 3, 4] [0] (by decide) rfl rfl (c_examine0 l D ks H.size ck c0 c1 c2 c3 c4 c5 kc5 sh b0 b1 b2 b3 b4 d5 d6 d7 d8 d9 d10 e2) w1065 w1066 w1067 w163 w1068 rfl rfl hdV_yX2_examine ⟨Nat.le_of_ble_eq_true rfl, Nat.le_of_ble_eq_true rfl⟩ rfl hl.1 rfl (Nat.le_of_ble_eq_true rfl) dX11_check_8 ⟨Nat.le_of_ble_eq_true rfl, Nat.le_of_ble_eq_true rfl⟩) hP hD hK hS hA [1, 2, 3, 4] [0] [] rfl rfl (by decide) (by decide) rfl (fun vr3 vu2 H locs vhw1 hP hD hK hS => ?_)
  have vhw1 : vr3 = 0 := vhw1
  subst vhw1
  have hP : va_P D vwCl [(h0, .inr (11, [.ref tp, .ref rd, .ref ck, .ref sk, .ref nt, .ref mc, .ref sh, .ref sp, .int 0, .int 0]))] H := hP
  have hD : va_D A [(h0, .inr (11, [.ref tp, .ref rd, .ref ck, .ref sk, .ref nt, .ref mc, .ref sh, .ref sp, .int 0, .int 0]))] := hD
  have hK : va_K D vwCl [] s := hK
  refine lv_istore_n (lv' := [(1, .int 0), (0, .ref h0)]) hx hb dX11_check_11 rfl hl (by decide) rfl (fun ls hl => ?_)
  refine lv_aload_n hx hb dX11_check_12 rfl (lv_at hl 1 rfl) ?_
  refine lv_iload_n hx hb dX11_check_13 rfl (lv_at hl 0 rfl) ?_
  refine lv_if_ne (tgt := 21) hx hb dX11_check_14 (by decide) (fun q => absurd rfl q) (fun _ => ?_)
  refine lv_iconst (v := 1) hx hb dX11_check_17 (by decide) ?_
  refine lv_goto (tgt := 22) hx hb dX11_check_18 (by decide) ?_
  refine va_put (D := D) (ci := 11) (v := .int 1) (ty := tyX11 8) (C := RX11) (T := TX11) (N := 10) hx hb hg inX11 tyX11 tyX11_ok nmX11 hown hK hP hD hS 0 rfl rfl 8 (by decide) (hg _ w723) (fun _ h9 => h9) rfl (tyX11_ok 8 (by decide)) rfl rfl (Nat.le_of_ble_eq_true rfl) dX11_check_22 (fun H locs hP hD hS => ?_)
  have hP : va_P D vwCl [(h0, .inr (11, [.ref tp, .ref rd, .ref ck, .ref sk, .ref nt, .ref mc, .ref sh, .ref sp, .int 1, .int 0]))] H := hP
  have hD : va_D A [(h0, .inr (11, [.ref tp, .ref rd, .ref ck, .ref sk, .ref nt, .ref mc, .ref sh, .ref sp, .int 1, .int 0]))] := hD
  refine lv_iload_n hx hb dX11_check_25 rfl (lv_at hl 0 rfl) ?_
  refine W.widen (k := 0) (n := 0) (Nat.le_of_ble_eq_true rfl) (Nat.le_of_ble_eq_true rfl) ?_
  have hP9 := hP.sub (ws' := []) [] rfl
  have hD9 := hD.sub (ws' := []) [] (by decide) rfl
  have hK9 := hK.sub (tys' := []) [] rfl
  exact W.iret (v := 0) hx hb hr (fun t ht hW => ⟨⟨0, (), rfl, (by first | rfl | trivial | assumption | decide), by rw [ht]; exact hP9, va_K.moved hW.alike hK9, hD9⟩, hS.F ht⟩) hS.2.2 dX11_check_26
abbrev r_c_fault : Room := { frames := 2, cells := 0, slots := 0, locals := 43 }
abbrev q_c_fault (D : va_G) (h0 : Nat) (tp : Nat) (rd : Nat) (ck : Nat) (sk : Nat) (nt : Nat) (mc : Nat) (sh : Nat) (sp : Nat) (c0 : Nat) (c1 : Nat) (c2 : Nat) (c3 : Nat) (c4 : Nat) (c5 : Nat) (p0 : Int32) (p1 : Int32) (A : Nat → Prop) : Array Value → State → Outcome → State → Prop := va_Qi (fun (r : Int32) (_ : Unit) => r = -1) (fun u t => gq D A ((fun (_ : Unit) => []) u) ((fun (_ : Unit) => ([] : List (ClassId × FieldType))) u) t) A
set_option maxHeartbeats 4000000 in
set_option maxRecDepth 100000 in
theorem c_fault (l : Launch) (D : va_G) (ks : Nat × Nat × Option Nat) (sz : Nat) (h0 : Nat) (tp : Nat) (rd : Nat) (ck : Nat) (sk : Nat) (nt : Nat) (mc : Nat) (sh : Nat) (sp : Nat) (c0 : Nat) (c1 : Nat) (c2 : Nat) (c3 : Nat) (c4 : Nat) (c5 : Nat) (p0 : Int32) (p1 : Int32) : Met l yX11_fault (Cond.code yX11_fault cX11_fault 3 (some .int) :: GW) r_c_fault (va_Pc [.ref h0, .int p0, .int p1] (gp D ks [(h0, .inr (11, [.ref tp, .ref rd, .ref ck, .ref sk, .ref nt, .ref mc, .ref sh, .ref sp, .int 0, .int 0])), (ck, .inr (2, [.ref c0, .ref c1, .ref c2, .ref c3, .ref c4, .ref c5, .null, .int 0]))] [] sz)) (q_c_fault D h0 tp rd ck sk nt mc sh sp c0 c1 c2 c3 c4 c5 p0 p1 (va_A [(h0, .inr (11, [.ref tp, .ref rd, .ref ck, .ref sk, .ref nt, .ref mc, .ref sh, .ref sp, .int 0, .int 0])), (ck, .inr (2, [.ref c0, .ref c1, .ref c2, .ref c3, .ref c4, .ref c5, .null, .int 0]))] sz)) 0 0 (va_A [(h0, .inr (11, [.ref tp, .ref rd, .ref ck, .ref sk, .ref nt, .ref mc, .ref sh, .ref sp, .int 0, .int 0])), (ck, .inr (2, [.ref c0, .ref c1, .ref c2, .ref c3, .ref c4, .ref c5, .null, .int 0]))] sz) := by
  refine g_met (q_c_fault D h0 tp rd ck sk nt mc sh sp c0 c1 c2 c3 c4 c5 p0 p1) (by decide) (Nat.le_of_ble_eq_true rfl) ?_
  intro p e s m below meth c A ls H locs hx hb hr hml hown hg hlocks hin hnw hgk hP hK hD hS hA hl
  have hown : s.vm.findClass RX11 = some m.cls := hown
  have hl : lv_has ls 3 [(0, .ref h0), (1, .int p0), (2, .int p1)] := hl
  refine lv_aload_n hx hb dX11_fault_0 rfl (lv_at hl 0 rfl) ?_
  refine va_get (D := D) (ci := 11) (v := .ref ck) (C := RX11) (T := TX11) (N := 10) hx hb hg inX11 hown hK hP 0 rfl rfl 2 (by decide) (hg _ w717) (fun _ h9 => h9) rfl dX11_fault_1 ?_
  refine lv_iload_n hx hb dX11_fault_4 rfl (lv_at hl 1 rfl) ?_
  refine lv_iload_n hx hb dX11_fault_5 rfl (lv_at hl 2 rfl) ?_
  refine g_int (wr := [(h0, .inr (11, [.ref tp, .ref rd, .ref ck, .ref sk, .ref nt, .ref mc, .ref sh, .ref sp, .int 0, .int 0]))]) (tr := []) (g_runV (As := [.int p0, .int p1]) (rest := []) (wc := [(ck, .inr (2, [.ref c0, .ref c1, .ref c2, .ref c3, .ref c4, .ref c5, .null, .int 0]))]) (tc := []) (ci := 2) (q0 := 1) hx hb hml hown hg gw_self hP hD hK hS hA hnw hgk [1] [] (by decide) rfl rfl (c_tell0 l D ks H.size ck c0 c1 c2 c3 c4 c5 p0 p1) w1117 w1118 w1119 w163 w1120 rfl rfl hdV_yX2_tell ⟨Nat.le_of_ble_eq_true rfl, Nat.le_of_ble_eq_true rfl⟩ rfl hl.1 rfl (Nat.le_of_ble_eq_true rfl) dX11_fault_6 ⟨Nat.le_of_ble_eq_true rfl, Nat.le_of_ble_eq_true rfl⟩) hP hD hK hS hA [1] [0] [] rfl rfl (by decide) (by decide) rfl (fun vr3 vu2 H locs vhw1 hP hD hK hS => ?_)
  have vhw1 : vr3 = -1 := vhw1
  subst vhw1
  have hP : va_P D vwCl [(h0, .inr (11, [.ref tp, .ref rd, .ref ck, .ref sk, .ref nt, .ref mc, .ref sh, .ref sp, .int 0, .int 0]))] H := hP
  have hD : va_D A [(h0, .inr (11, [.ref tp, .ref rd, .ref ck, .ref sk, .ref nt, .ref mc, .ref sh, .ref sp, .int 0, .int 0]))] := hD
  have hK : va_K D vwCl [] s := hK
  refine W.widen (k := 0) (n := 0) (Nat.le_of_ble_eq_true rfl) (Nat.le_of_ble_eq_true rfl) ?_
  have hP9 := hP.sub (ws' := []) [] rfl
  have hD9 := hD.sub (ws' := []) [] (by decide) rfl
  have hK9 := hK.sub (tys' := []) [] rfl
  exact W.iret (v := (-1)) hx hb hr (fun t ht hW => ⟨⟨(-1), (), rfl, (by first | rfl | trivial | assumption | decide), by rw [ht]; exact hP9, va_K.moved hW.alike hK9, hD9⟩, hS.F ht⟩) hS.2.2 dX11_fault_9
abbrev r_c_cycle : Room := { frames := 2, cells := 0, slots := 0, locals := 44 }
abbrev q_c_cycle (D : va_G) (h0 : Nat) (tp : Nat) (rd : Nat) (ck : Nat) (sk : Nat) (nt : Nat) (mc : Nat) (sh : Nat) (sp : Nat) (c0 : Nat) (c1 : Nat) (c2 : Nat) (c3 : Nat) (c4 : Nat) (c5 : Nat) (p0 : Int32) (p1 : Int32) (A : Nat → Prop) : Array Value → State → Outcome → State → Prop := va_Qi (fun (r : Int32) (_ : Unit) => r = -1) (fun u t => gq D A ((fun (_ : Unit) => []) u) ((fun (_ : Unit) => ([] : List (ClassId × FieldType))) u) t) A
set_option maxHeartbeats 4000000 in
set_option maxRecDepth 100000 in
theorem c_cycle (l : Launch) (D : va_G) (ks : Nat × Nat × Option Nat) (sz : Nat) (h0 : Nat) (tp : Nat) (rd : Nat) (ck : Nat) (sk : Nat) (nt : Nat) (mc : Nat) (sh : Nat) (sp : Nat) (c0 : Nat) (c1 : Nat) (c2 : Nat) (c3 : Nat) (c4 : Nat) (c5 : Nat) (p0 : Int32) (p1 : Int32) : Met l yX11_cycle (Cond.code yX11_cycle cX11_cycle 3 (some .int) :: GW) r_c_cycle (va_Pc [.ref h0, .int p0, .int p1] (gp D ks [(h0, .inr (11, [.ref tp, .ref rd, .ref ck, .ref sk, .ref nt, .ref mc, .ref sh, .ref sp, .int 0, .int 0])), (ck, .inr (2, [.ref c0, .ref c1, .ref c2, .ref c3, .ref c4, .ref c5, .null, .int 0]))] [] sz)) (q_c_cycle D h0 tp rd ck sk nt mc sh sp c0 c1 c2 c3 c4 c5 p0 p1 (va_A [(h0, .inr (11, [.ref tp, .ref rd, .ref ck, .ref sk, .ref nt, .ref mc, .ref sh, .ref sp, .int 0, .int 0])), (ck, .inr (2, [.ref c0, .ref c1, .ref c2, .ref c3, .ref c4, .ref c5, .null, .int 0]))] sz)) 0 0 (va_A [(h0, .inr (11, [.ref tp, .ref rd, .ref ck, .ref sk, .ref nt, .ref mc, .ref sh, .ref sp, .int 0, .int 0])), (ck, .inr (2, [.ref c0, .ref c1, .ref c2, .ref c3, .ref c4, .ref c5, .null, .int 0]))] sz) := by
  refine g_met (q_c_cycle D h0 tp rd ck sk nt mc sh sp c0 c1 c2 c3 c4 c5 p0 p1) (by decide) (Nat.le_of_ble_eq_true rfl) ?_
  intro p e s m below meth c A ls H locs hx hb hr hml hown hg hlocks hin hnw hgk hP hK hD hS hA hl
  have hown : s.vm.findClass RX11 = some m.cls := hown
  have hl : lv_has ls 3 [(0, .ref h0), (1, .int p0), (2, .int p1)] := hl
  refine lv_aload_n hx hb dX11_cycle_0 rfl (lv_at hl 0 rfl) ?_
  refine va_get (D := D) (ci := 11) (v := .ref ck) (C := RX11) (T := TX11) (N := 10) hx hb hg inX11 hown hK hP 0 rfl rfl 2 (by decide) (hg _ w717) (fun _ h9 => h9) rfl dX11_cycle_1 ?_
  refine lv_iload_n hx hb dX11_cycle_4 rfl (lv_at hl 1 rfl) ?_
  refine lv_iload_n hx hb dX11_cycle_5 rfl (lv_at hl 2 rfl) ?_
  refine g_int (wr := [(h0, .inr (11, [.ref tp, .ref rd, .ref ck, .ref sk, .ref nt, .ref mc, .ref sh, .ref sp, .int 0, .int 0]))]) (tr := []) (g_runV (As := [.int p0, .int p1]) (rest := []) (wc := [(ck, .inr (2, [.ref c0, .ref c1, .ref c2, .ref c3, .ref c4, .ref c5, .null, .int 0]))]) (tc := []) (ci := 2) (q0 := 1) hx hb hml hown hg gw_self hP hD hK hS hA hnw hgk [1] [] (by decide) rfl rfl (c_onRing0 l D ks H.size ck c0 c1 c2 c3 c4 c5 p0 p1) w1129 w1130 w1131 w163 w1132 rfl rfl hdV_yX2_onRing ⟨Nat.le_of_ble_eq_true rfl, Nat.le_of_ble_eq_true rfl⟩ rfl hl.1 rfl (Nat.le_of_ble_eq_true rfl) dX11_cycle_6 ⟨Nat.le_of_ble_eq_true rfl, Nat.le_of_ble_eq_true rfl⟩) hP hD hK hS hA [1] [0] [] rfl rfl (by decide) (by decide) rfl (fun vr3 vu2 H locs vhw1 hP hD hK hS => ?_)
  have vhw1 : vr3 = -1 := vhw1
  subst vhw1
  have hP : va_P D vwCl [(h0, .inr (11, [.ref tp, .ref rd, .ref ck, .ref sk, .ref nt, .ref mc, .ref sh, .ref sp, .int 0, .int 0]))] H := hP
  have hD : va_D A [(h0, .inr (11, [.ref tp, .ref rd, .ref ck, .ref sk, .ref nt, .ref mc, .ref sh, .ref sp, .int 0, .int 0]))] := hD
  have hK : va_K D vwCl [] s := hK
  refine W.widen (k := 0) (n := 0) (Nat.le_of_ble_eq_true rfl) (Nat.le_of_ble_eq_true rfl) ?_
  have hP9 := hP.sub (ws' := []) [] rfl
  have hD9 := hD.sub (ws' := []) [] (by decide) rfl
  have hK9 := hK.sub (tys' := []) [] rfl
  exact W.iret (v := (-1)) hx hb hr (fun t ht hW => ⟨⟨(-1), (), rfl, (by first | rfl | trivial | assumption | decide), by rw [ht]; exact hP9, va_K.moved hW.alike hK9, hD9⟩, hS.F ht⟩) hS.2.2 dX11_cycle_9
abbrev r_c_candidate : Room := { frames := 1, cells := 0, slots := 0, locals := 21 }
abbrev q_c_candidate (D : va_G) (h0 : Nat) (tp : Nat) (rd : Nat) (ck : Nat) (sk : Nat) (nt : Nat) (mc : Nat) (sh : Nat) (sp : Nat) (b0 : Nat) (b1 : Nat) (b2 : Nat) (b3 : Nat) (b4 : Nat) (d5 : Nat) (d6 : Nat) (d7 : Nat) (d8 : Nat) (d9 : Nat) (d10 : Nat) (e2 : Nat) (p0 : Int32) (p1 : Int32) (p2 : Int32) (A : Nat → Prop) : Array Value → State → Outcome → State → Prop := va_Qi (fun (r : Int32) (_ : Unit) => r = -1) (fun u t => gq D A ((fun (_ : Unit) => []) u) ((fun (_ : Unit) => ([] : List (ClassId × FieldType))) u) t) A
set_option maxHeartbeats 4000000 in
set_option maxRecDepth 100000 in
theorem c_candidate (l : Launch) (D : va_G) (ks : Nat × Nat × Option Nat) (sz : Nat) (h0 : Nat) (tp : Nat) (rd : Nat) (ck : Nat) (sk : Nat) (nt : Nat) (mc : Nat) (sh : Nat) (sp : Nat) (b0 : Nat) (b1 : Nat) (b2 : Nat) (b3 : Nat) (b4 : Nat) (d5 : Nat) (d6 : Nat) (d7 : Nat) (d8 : Nat) (d9 : Nat) (d10 : Nat) (e2 : Nat) (p0 : Int32) (p1 : Int32) (p2 : Int32) : Met l yX11_candidate (Cond.code yX11_candidate cX11_candidate 6 (some .int) :: GW) r_c_candidate (va_Pc [.ref h0, .int p0, .int p1, .int p2] (gp D ks [(h0, .inr (11, [.ref tp, .ref rd, .ref ck, .ref sk, .ref nt, .ref mc, .ref sh, .ref sp, .int 0, .int 0])), (sh, .inr (0, [.ref b0, .ref b1, .ref b2, .ref b3, .ref b4, .ref d5, .ref d6, .ref d7, .ref d8, .ref d9, .ref d10, .int 0, .int 0])), (b2, .inr (6, [.ref e2, .int 0]))] [] sz)) (q_c_candidate D h0 tp rd ck sk nt mc sh sp b0 b1 b2 b3 b4 d5 d6 d7 d8 d9 d10 e2 p0 p1 p2 (va_A [(h0, .inr (11, [.ref tp, .ref rd, .ref ck, .ref sk, .ref nt, .ref mc, .ref sh, .ref sp, .int 0, .int 0])), (sh, .inr (0, [.ref b0, .ref b1, .ref b2, .ref b3, .ref b4, .ref d5, .ref d6, .ref d7, .ref d8, .ref d9, .ref d10, .int 0, .int 0])), (b2, .inr (6, [.ref e2, .int 0]))] sz)) 0 0 (va_A [(h0, .inr (11, [.ref tp, .ref rd, .ref ck, .ref sk, .ref nt, .ref mc, .ref sh, .ref sp, .int 0, .int 0])), (sh, .inr (0, [.ref b0, .ref b1, .ref b2, .ref b3, .ref b4, .ref d5, .ref d6, .ref d7, .ref d8, .ref d9, .ref d10, .int 0, .int 0])), (b2, .inr (6, [.ref e2, .int 0]))] sz) := by
  refine g_met (q_c_candidate D h0 tp rd ck sk nt mc sh sp b0 b1 b2 b3 b4 d5 d6 d7 d8 d9 d10 e2 p0 p1 p2) (by decide) (Nat.le_of_ble_eq_true rfl) ?_
  intro p e s m below meth c A ls H locs hx hb hr hml hown hg hlocks hin hnw hgk hP hK hD hS hA hl
  have hown : s.vm.findClass RX11 = some m.cls := hown
  have hl : lv_has ls 6 [(0, .ref h0), (1, .int p0), (2, .int p1), (3, .int p2)] := hl
  refine lv_aload_n hx hb dX11_candidate_0 rfl (lv_at hl 0 rfl) ?_
  refine va_get (D := D) (ci := 11) (v := .ref sh) (C := RX11) (T := TX11) (N := 10) hx hb hg inX11 hown hK hP 0 rfl rfl 6 (by decide) (hg _ w721) (fun _ h9 => h9) rfl dX11_candidate_1 ?_
  refine lv_iload_n hx hb dX11_candidate_4 rfl (lv_at hl 1 rfl) ?_
  refine g_int (wr := [(h0, .inr (11, [.ref tp, .ref rd, .ref ck, .ref sk, .ref nt, .ref mc, .ref sh, .ref sp, .int 0, .int 0]))]) (tr := []) (g_runV (As := [.int p0]) (rest := []) (wc := [(sh, .inr (0, [.ref b0, .ref b1, .ref b2, .ref b3, .ref b4, .ref d5, .ref d6, .ref d7, .ref d8, .ref d9, .ref d10, .int 0, .int 0])), (b2, .inr (6, [.ref e2, .int 0]))]) (tc := []) (ci := 0) (q0 := 1) hx hb hml hown hg gw_self hP hD hK hS hA hnw hgk [1, 2] [] (by decide) rfl rfl (c_Book_has0 l D ks H.size sh b0 b1 b2 b3 b4 d5 d6 d7 d8 d9 d10 e2 p0) w1137 w1138 w1139 w167 w1140 rfl rfl hdV_yX0_has ⟨Nat.le_of_ble_eq_true rfl, Nat.le_of_ble_eq_true rfl⟩ rfl hl.1 rfl (Nat.le_of_ble_eq_true rfl) dX11_candidate_5 ⟨Nat.le_of_ble_eq_true rfl, Nat.le_of_ble_eq_true rfl⟩) hP hD hK hS hA [1, 2] [0] [] rfl rfl (by decide) (by decide) rfl (fun vr3 vu2 H locs vhw1 hP hD hK hS => ?_)
  have vhw1 : vr3 = 0 := vhw1
  subst vhw1
  have hP : va_P D vwCl [(h0, .inr (11, [.ref tp, .ref rd, .ref ck, .ref sk, .ref nt, .ref mc, .ref sh, .ref sp, .int 0, .int 0])), (sh, .inr (0, [.ref b0, .ref b1, .ref b2, .ref b3, .ref b4, .ref d5, .ref d6, .ref d7, .ref d8, .ref d9, .ref d10, .int 0, .int 0])), (b2, .inr (6, [.ref e2, .int 0]))] H := hP
  have hD : va_D A [(h0, .inr (11, [.ref tp, .ref rd, .ref ck, .ref sk, .ref nt, .ref mc, .ref sh, .ref sp, .int 0, .int 0])), (sh, .inr (0, [.ref b0, .ref b1, .ref b2, .ref b3, .ref b4, .ref d5, .ref d6, .ref d7, .ref d8, .ref d9, .ref d10, .int 0, .int 0])), (b2, .inr (6, [.ref e2, .int 0]))] := hD
  have hK : va_K D vwCl [] s := hK
  refine lv_if_eq (tgt := 35) hx hb dX11_candidate_8 (by decide) (fun _ => ?_) (fun q => absurd (by decide) q)
  refine lv_iconst (v := (-1)) hx hb dX11_candidate_35 (by decide) ?_
  refine W.widen (k := 0) (n := 0) (Nat.le_of_ble_eq_true rfl) (Nat.le_of_ble_eq_true rfl) ?_
  have hP9 := hP.sub (ws' := []) [] rfl
  have hD9 := hD.sub (ws' := []) [] (by decide) rfl
  have hK9 := hK.sub (tys' := []) [] rfl
  exact W.iret (v := (-1)) hx hb hr (fun t ht hW => ⟨⟨(-1), (), rfl, (by first | rfl | trivial | assumption | decide), by rw [ht]; exact hP9, va_K.moved hW.alike hK9, hD9⟩, hS.F ht⟩) hS.2.2 dX11_candidate_36
abbrev r_c_day : Room := { frames := 0, cells := 0, slots := 0, locals := 0 }
abbrev q_c_day (D : va_G) (h0 : Nat) (tp : Nat) (rd : Nat) (ck : Nat) (sk : Nat) (nt : Nat) (mc : Nat) (sh : Nat) (sp : Nat) (A : Nat → Prop) : Array Value → State → Outcome → State → Prop := va_Qi (fun (r : Int32) (_ : Unit) => r = -1) (fun u t => gq D A ((fun (_ : Unit) => []) u) ((fun (_ : Unit) => ([] : List (ClassId × FieldType))) u) t) A
set_option maxHeartbeats 4000000 in
set_option maxRecDepth 100000 in
theorem c_day (l : Launch) (D : va_G) (ks : Nat × Nat × Option Nat) (sz : Nat) (h0 : Nat) (tp : Nat) (rd : Nat) (ck : Nat) (sk : Nat) (nt : Nat) (mc : Nat) (sh : Nat) (sp : Nat) : Met l yX11_day (Cond.code yX11_day cX11_day 1 (some .int) :: GW) r_c_day (va_Pc [.ref h0] (gp D ks [(h0, .inr (11, [.ref tp, .ref rd, .ref ck, .ref sk, .ref nt, .ref mc, .ref sh, .ref sp, .int 0, .int 0]))] [] sz)) (q_c_day D h0 tp rd ck sk nt mc sh sp (va_A [(h0, .inr (11, [.ref tp, .ref rd, .ref ck, .ref sk, .ref nt, .ref mc, .ref sh, .ref sp, .int 0, .int 0]))] sz)) 0 0 (va_A [(h0, .inr (11, [.ref tp, .ref rd, .ref ck, .ref sk, .ref nt, .ref mc, .ref sh, .ref sp, .int 0, .int 0]))] sz) := by
  refine g_met (q_c_day D h0 tp rd ck sk nt mc sh sp) (by decide) (Nat.le_of_ble_eq_true rfl) ?_
  intro p e s m below meth c A ls H locs hx hb hr hml hown hg hlocks hin hnw hgk hP hK hD hS hA hl
  have hown : s.vm.findClass RX11 = some m.cls := hown
  have hl : lv_has ls 1 [(0, .ref h0)] := hl
  refine lv_aload_n hx hb dX11_day_0 rfl (lv_at hl 0 rfl) ?_
  refine va_get (D := D) (ci := 11) (v := .int 0) (C := RX11) (T := TX11) (N := 10) hx hb hg inX11 hown hK hP 0 rfl rfl 8 (by decide) (hg _ w723) (fun _ h9 => h9) rfl dX11_day_1 ?_
  refine lv_if_eq (tgt := 19) hx hb dX11_day_4 (by decide) (fun _ => ?_) (fun q => absurd (by decide) q)
  refine lv_iconst (v := (-1)) hx hb dX11_day_19 (by decide) ?_
  refine W.widen (k := 0) (n := 0) (Nat.le_of_ble_eq_true rfl) (Nat.le_of_ble_eq_true rfl) ?_
  have hP9 := hP.sub (ws' := []) [] rfl
  have hD9 := hD.sub (ws' := []) [] (by decide) rfl
  have hK9 := hK.sub (tys' := []) [] rfl
  exact W.iret (v := (-1)) hx hb hr (fun t ht hW => ⟨⟨(-1), (), rfl, (by first | rfl | trivial | assumption | decide), by rw [ht]; exact hP9, va_K.moved hW.alike hK9, hD9⟩, hS.F ht⟩) hS.2.2 dX11_day_20
abbrev r_c_meal : Room := { frames := 1, cells := 0, slots := 0, locals := 21 }
abbrev q_c_meal (D : va_G) (h0 : Nat) (tp : Nat) (rd : Nat) (ck : Nat) (sk : Nat) (nt : Nat) (mc : Nat) (sh : Nat) (sp : Nat) (s0 : Nat) (s1 : Nat) (s2 : Nat) (s3 : Nat) (s4 : Nat) (s5 : Nat) (s6 : Nat) (s7 : Nat) (s8 : Nat) (s9 : Nat) (s10 : Nat) (s11 : Nat) (ks0 : ClassId) (ks2 : ClassId) (p0 : Int32) (A : Nat → Prop) : Array Value → State → Outcome → State → Prop := va_Qi (fun (r : Int32) (_ : Unit) => r = -1) (fun u t => gq D A ((fun (_ : Unit) => []) u) ((fun (_ : Unit) => ([] : List (ClassId × FieldType))) u) t) A
set_option maxHeartbeats 4000000 in
set_option maxRecDepth 100000 in
theorem c_meal (l : Launch) (D : va_G) (ks : Nat × Nat × Option Nat) (sz : Nat) (h0 : Nat) (tp : Nat) (rd : Nat) (ck : Nat) (sk : Nat) (nt : Nat) (mc : Nat) (sh : Nat) (sp : Nat) (s0 : Nat) (s1 : Nat) (s2 : Nat) (s3 : Nat) (s4 : Nat) (s5 : Nat) (s6 : Nat) (s7 : Nat) (s8 : Nat) (s9 : Nat) (s10 : Nat) (s11 : Nat) (ks0 : ClassId) (ks2 : ClassId) (p0 : Int32) : Met l yX11_meal (Cond.code yX11_meal cX11_meal 3 (some .int) :: GW) r_c_meal (va_Pc [.ref h0, .int p0] (gp D ks [(h0, .inr (11, [.ref tp, .ref rd, .ref ck, .ref sk, .ref nt, .ref mc, .ref sh, .ref sp, .int 0, .int 0])), (sk, .inr (8, [.ref s0, .ref s1, .ref s2, .ref s3, .ref s4, .ref s5, .ref s6, .ref s7, .ref s8, .ref s9, .ref s10, .ref s11, .int 1, .int 0, .int 0, .int 0])), (s0, .inl (ks0, 40, .inl (fun _ => 0))), (s2, .inl (ks2, 40, .inl (upd (fun _ => 0) 0 1)))] [(ks0, .int), (ks2, .boolean)] sz)) (q_c_meal D h0 tp rd ck sk nt mc sh sp s0 s1 s2 s3 s4 s5 s6 s7 s8 s9 s10 s11 ks0 ks2 p0 (va_A [(h0, .inr (11, [.ref tp, .ref rd, .ref ck, .ref sk, .ref nt, .ref mc, .ref sh, .ref sp, .int 0, .int 0])), (sk, .inr (8, [.ref s0, .ref s1, .ref s2, .ref s3, .ref s4, .ref s5, .ref s6, .ref s7, .ref s8, .ref s9, .ref s10, .ref s11, .int 1, .int 0, .int 0, .int 0])), (s0, .inl (ks0, 40, .inl (fun _ => 0))), (s2, .inl (ks2, 40, .inl (upd (fun _ => 0) 0 1)))] sz)) 0 0 (va_A [(h0, .inr (11, [.ref tp, .ref rd, .ref ck, .ref sk, .ref nt, .ref mc, .ref sh, .ref sp, .int 0, .int 0])), (sk, .inr (8, [.ref s0, .ref s1, .ref s2, .ref s3, .ref s4, .ref s5, .ref s6, .ref s7, .ref s8, .ref s9, .ref s10, .ref s11, .int 1, .int 0, .int 0, .int 0])), (s0, .inl (ks0, 40, .inl (fun _ => 0))), (s2, .inl (ks2, 40, .inl (upd (fun _ => 0) 0 1)))] sz) := by
  refine g_met (q_c_meal D h0 tp rd ck sk nt mc sh sp s0 s1 s2 s3 s4 s5 s6 s7 s8 s9 s10 s11 ks0 ks2 p0) (by decide) (Nat.le_of_ble_eq_true rfl) ?_
  intro p e s m below meth c A ls H locs hx hb hr hml hown hg hlocks hin hnw hgk hP hK hD hS hA hl
  have hown : s.vm.findClass RX11 = some m.cls := hown
  have hl : lv_has ls 3 [(0, .ref h0), (1, .int p0)] := hl
  by_cases hp0 : p0 = 0
  · subst hp0
    refine lv_aload_n hx hb dX11_meal_0 rfl (lv_at hl 0 rfl) ?_
    refine va_get (D := D) (ci := 11) (v := .ref sk) (C := RX11) (T := TX11) (N := 10) hx hb hg inX11 hown hK hP 0 rfl rfl 3 (by decide) (hg _ w718) (fun _ h9 => h9) rfl dX11_meal_1 ?_
    refine lv_iload_n hx hb dX11_meal_4 rfl (lv_at hl 1 rfl) ?_
    refine g_int (wr := [(h0, .inr (11, [.ref tp, .ref rd, .ref ck, .ref sk, .ref nt, .ref mc, .ref sh, .ref sp, .int 0, .int 0])), (s0, .inl (ks0, 40, .inl (fun _ => 0)))]) (tr := [(ks0, .int)]) (g_runV (As := [.int 0]) (rest := []) (wc := [(sk, .inr (8, [.ref s0, .ref s1, .ref s2, .ref s3, .ref s4, .ref s5, .ref s6, .ref s7, .ref s8, .ref s9, .ref s10, .ref s11, .int 1, .int 0, .int 0, .int 0])), (s2, .inl (ks2, 40, .inl (upd (fun _ => 0) 0 1)))]) (tc := [(ks2, .boolean)]) (ci := 8) (q0 := 1) hx hb hml hown hg gw_self hP hD hK hS hA hnw hgk [1, 3] [1] (by decide) rfl rfl (c_isOpen0 l D ks H.size sk s0 s1 s2 s3 s4 s5 s6 s7 s8 s9 s10 s11 ks2) w1158 w1159 w1160 w164 w1161 rfl rfl hdV_yX8_isOpen ⟨Nat.le_of_ble_eq_true rfl, Nat.le_of_ble_eq_true rfl⟩ rfl hl.1 rfl (Nat.le_of_ble_eq_true rfl) dX11_meal_5 ⟨Nat.le_of_ble_eq_true rfl, Nat.le_of_ble_eq_true rfl⟩) hP hD hK hS hA [1, 3] [0, 2] [0] rfl rfl (by decide) (by decide) rfl (fun vr3 vu2 H locs vhw1 hP hD hK hS => ?_)
    have vhw1 : vr3 = 1 := vhw1
    subst vhw1
    have hP : va_P D vwCl [(h0, .inr (11, [.ref tp, .ref rd, .ref ck, .ref sk, .ref nt, .ref mc, .ref sh, .ref sp, .int 0, .int 0])), (s0, .inl (ks0, 40, .inl (fun _ => 0))), (sk, .inr (8, [.ref s0, .ref s1, .ref s2, .ref s3, .ref s4, .ref s5, .ref s6, .ref s7, .ref s8, .ref s9, .ref s10, .ref s11, .int 1, .int 0, .int 0, .int 0])), (s2, .inl (ks2, 40, .inl (upd (fun _ => 0) 0 1)))] H := hP
    have hD : va_D A [(h0, .inr (11, [.ref tp, .ref rd, .ref ck, .ref sk, .ref nt, .ref mc, .ref sh, .ref sp, .int 0, .int 0])), (s0, .inl (ks0, 40, .inl (fun _ => 0))), (sk, .inr (8, [.ref s0, .ref s1, .ref s2, .ref s3, .ref s4, .ref s5, .ref s6, .ref s7, .ref s8, .ref s9, .ref s10, .ref s11, .int 1, .int 0, .int 0, .int 0])), (s2, .inl (ks2, 40, .inl (upd (fun _ => 0) 0 1)))] := hD
    have hK : va_K D vwCl [(ks0, .int), (ks2, .boolean)] s := hK
    refine lv_if_eq (tgt := 28) hx hb dX11_meal_8 (by decide) (fun q => absurd q (by decide)) (fun _ => ?_)
    refine lv_aload_n hx hb dX11_meal_11 rfl (lv_at hl 0 rfl) ?_
    refine va_get (D := D) (ci := 11) (v := .ref sk) (C := RX11) (T := TX11) (N := 10) hx hb hg inX11 hown hK hP 0 rfl rfl 3 (by decide) (hg _ w718) (fun _ h9 => h9) rfl dX11_meal_12 ?_
    refine va_getN (D := D) (ci := 8) (v := .ref s0) (C := RX8) (T := TX8) (N := 16) hx hb hg inX8 hown hK hP 2 rfl rfl 0 (by decide) (hnw.use 374 n374 rfl) (fun _ h9 => h9) rfl dX11_meal_15 ?_
    refine lv_iload_n hx hb dX11_meal_18 rfl (lv_at hl 1 rfl) ?_
    refine va_iald (D := D) (i := 0) hx hb hK hP 1 0 rfl rfl (vp_in_nI (n := 0) (N := 40) (by decide) (by decide)) dX11_meal_19 ?_
    refine g_top (v := 0) rfl ?_
    refine lv_iconst (v := 1) hx hb dX11_meal_20 (by decide) ?_
    refine lv_icmp_ne (tgt := 28) hx hb dX11_meal_21 (by decide) (fun _ => ?_) (fun q => absurd q (by decide))
    refine lv_iconst (v := 0) hx hb dX11_meal_28 (by decide) ?_
    refine lv_istore_n (lv' := [(2, .int 0), (0, .ref h0), (1, .int 0)]) hx hb dX11_meal_29 rfl hl (by decide) rfl (fun ls hl => ?_)
    refine lv_aload_n hx hb dX11_meal_30 rfl (lv_at hl 1 rfl) ?_
    refine va_get (D := D) (ci := 11) (v := .int 0) (C := RX11) (T := TX11) (N := 10) hx hb hg inX11 hown hK hP 0 rfl rfl 8 (by decide) (hg _ w723) (fun _ h9 => h9) rfl dX11_meal_31 ?_
    refine lv_if_eq (tgt := 53) hx hb dX11_meal_34 (by decide) (fun _ => ?_) (fun q => absurd (by decide) q)
    refine lv_iconst (v := (-1)) hx hb dX11_meal_53 (by decide) ?_
    refine W.widen (k := 0) (n := 0) (Nat.le_of_ble_eq_true rfl) (Nat.le_of_ble_eq_true rfl) ?_
    have hP9 := hP.sub (ws' := []) [] rfl
    have hD9 := hD.sub (ws' := []) [] (by decide) rfl
    have hK9 := hK.sub (tys' := []) [] rfl
    exact W.iret (v := (-1)) hx hb hr (fun t ht hW => ⟨⟨(-1), (), rfl, (by first | rfl | trivial | assumption | decide), by rw [ht]; exact hP9, va_K.moved hW.alike hK9, hD9⟩, hS.F ht⟩) hS.2.2 dX11_meal_54
  · skip
    refine lv_aload_n hx hb dX11_meal_0 rfl (lv_at hl 0 rfl) ?_
    refine va_get (D := D) (ci := 11) (v := .ref sk) (C := RX11) (T := TX11) (N := 10) hx hb hg inX11 hown hK hP 0 rfl rfl 3 (by decide) (hg _ w718) (fun _ h9 => h9) rfl dX11_meal_1 ?_
    refine lv_iload_n hx hb dX11_meal_4 rfl (lv_at hl 1 rfl) ?_
    refine g_int (wr := [(h0, .inr (11, [.ref tp, .ref rd, .ref ck, .ref sk, .ref nt, .ref mc, .ref sh, .ref sp, .int 0, .int 0])), (s0, .inl (ks0, 40, .inl (fun _ => 0)))]) (tr := [(ks0, .int)]) (g_runV (As := [.int p0]) (rest := []) (wc := [(sk, .inr (8, [.ref s0, .ref s1, .ref s2, .ref s3, .ref s4, .ref s5, .ref s6, .ref s7, .ref s8, .ref s9, .ref s10, .ref s11, .int 1, .int 0, .int 0, .int 0])), (s2, .inl (ks2, 40, .inl (upd (fun _ => 0) 0 1)))]) (tc := [(ks2, .boolean)]) (ci := 8) (q0 := 1) hx hb hml hown hg gw_self hP hD hK hS hA hnw hgk [1, 3] [1] (by decide) rfl rfl (c_isOpenN l D ks H.size sk s0 s1 s2 s3 s4 s5 s6 s7 s8 s9 s10 s11 ks2 p0 hp0) w1158 w1159 w1160 w164 w1161 rfl rfl hdV_yX8_isOpen ⟨Nat.le_of_ble_eq_true rfl, Nat.le_of_ble_eq_true rfl⟩ rfl hl.1 rfl (Nat.le_of_ble_eq_true rfl) dX11_meal_5 ⟨Nat.le_of_ble_eq_true rfl, Nat.le_of_ble_eq_true rfl⟩) hP hD hK hS hA [1, 3] [0, 2] [0] rfl rfl (by decide) (by decide) rfl (fun vr6 vu5 H locs vhw4 hP hD hK hS => ?_)
    have vhw4 : vr6 = 0 := vhw4
    subst vhw4
    have hP : va_P D vwCl [(h0, .inr (11, [.ref tp, .ref rd, .ref ck, .ref sk, .ref nt, .ref mc, .ref sh, .ref sp, .int 0, .int 0])), (s0, .inl (ks0, 40, .inl (fun _ => 0))), (sk, .inr (8, [.ref s0, .ref s1, .ref s2, .ref s3, .ref s4, .ref s5, .ref s6, .ref s7, .ref s8, .ref s9, .ref s10, .ref s11, .int 1, .int 0, .int 0, .int 0])), (s2, .inl (ks2, 40, .inl (upd (fun _ => 0) 0 1)))] H := hP
    have hD : va_D A [(h0, .inr (11, [.ref tp, .ref rd, .ref ck, .ref sk, .ref nt, .ref mc, .ref sh, .ref sp, .int 0, .int 0])), (s0, .inl (ks0, 40, .inl (fun _ => 0))), (sk, .inr (8, [.ref s0, .ref s1, .ref s2, .ref s3, .ref s4, .ref s5, .ref s6, .ref s7, .ref s8, .ref s9, .ref s10, .ref s11, .int 1, .int 0, .int 0, .int 0])), (s2, .inl (ks2, 40, .inl (upd (fun _ => 0) 0 1)))] := hD
    have hK : va_K D vwCl [(ks0, .int), (ks2, .boolean)] s := hK
    refine lv_if_eq (tgt := 28) hx hb dX11_meal_8 (by decide) (fun _ => ?_) (fun q => absurd (by decide) q)
    refine lv_iconst (v := 0) hx hb dX11_meal_28 (by decide) ?_
    refine lv_istore_n (lv' := [(2, .int 0), (0, .ref h0), (1, .int p0)]) hx hb dX11_meal_29 rfl hl (by decide) rfl (fun ls hl => ?_)
    refine lv_aload_n hx hb dX11_meal_30 rfl (lv_at hl 1 rfl) ?_
    refine va_get (D := D) (ci := 11) (v := .int 0) (C := RX11) (T := TX11) (N := 10) hx hb hg inX11 hown hK hP 0 rfl rfl 8 (by decide) (hg _ w723) (fun _ h9 => h9) rfl dX11_meal_31 ?_
    refine lv_if_eq (tgt := 53) hx hb dX11_meal_34 (by decide) (fun _ => ?_) (fun q => absurd (by decide) q)
    refine lv_iconst (v := (-1)) hx hb dX11_meal_53 (by decide) ?_
    refine W.widen (k := 0) (n := 0) (Nat.le_of_ble_eq_true rfl) (Nat.le_of_ble_eq_true rfl) ?_
    have hP9 := hP.sub (ws' := []) [] rfl
    have hD9 := hD.sub (ws' := []) [] (by decide) rfl
    have hK9 := hK.sub (tys' := []) [] rfl
    exact W.iret (v := (-1)) hx hb hr (fun t ht hW => ⟨⟨(-1), (), rfl, (by first | rfl | trivial | assumption | decide), by rw [ht]; exact hP9, va_K.moved hW.alike hK9, hD9⟩, hS.F ht⟩) hS.2.2 dX11_meal_54
abbrev r_c_get : Room := { frames := 1, cells := 0, slots := 0, locals := 22 }
abbrev q_c_get (D : va_G) (h0 : Nat) (tp : Nat) (rd : Nat) (ck : Nat) (sk : Nat) (nt : Nat) (mc : Nat) (sh : Nat) (sp : Nat) (n0 : Nat) (n1 : Nat) (n2 : Nat) (n3 : Nat) (n4 : Nat) (m0 : Nat) (m1 : Nat) (m2 : Nat) (p0 : Int32) (p1 : Int32) (A : Nat → Prop) : Array Value → State → Outcome → State → Prop := va_Qi (fun (r : Int32) (_ : Unit) => r = -1) (fun u t => gq D A ((fun (_ : Unit) => []) u) ((fun (_ : Unit) => ([] : List (ClassId × FieldType))) u) t) A
set_option maxHeartbeats 4000000 in
set_option maxRecDepth 100000 in
theorem c_get (l : Launch) (D : va_G) (ks : Nat × Nat × Option Nat) (sz : Nat) (h0 : Nat) (tp : Nat) (rd : Nat) (ck : Nat) (sk : Nat) (nt : Nat) (mc : Nat) (sh : Nat) (sp : Nat) (n0 : Nat) (n1 : Nat) (n2 : Nat) (n3 : Nat) (n4 : Nat) (m0 : Nat) (m1 : Nat) (m2 : Nat) (p0 : Int32) (p1 : Int32) : Met l yX11_get (Cond.code yX11_get cX11_get 3 (some .int) :: GW) r_c_get (va_Pc [.ref h0, .int p0, .int p1] (gp D ks [(h0, .inr (11, [.ref tp, .ref rd, .ref ck, .ref sk, .ref nt, .ref mc, .ref sh, .ref sp, .int 0, .int 0])), (nt, .inr (7, [.ref n0, .ref n1, .ref n2, .ref n3, .ref n4, .int 0, .int 0, .int 0, .int 0, .int 0])), (mc, .inr (5, [.ref sk, .ref nt, .ref m0, .ref m1, .ref m2, .ref sh, .int 0, .int 0, .int 0, .int 0, .int 0, .int 0, .int 0, .int 0, .int 0]))] [] sz)) (q_c_get D h0 tp rd ck sk nt mc sh sp n0 n1 n2 n3 n4 m0 m1 m2 p0 p1 (va_A [(h0, .inr (11, [.ref tp, .ref rd, .ref ck, .ref sk, .ref nt, .ref mc, .ref sh, .ref sp, .int 0, .int 0])), (nt, .inr (7, [.ref n0, .ref n1, .ref n2, .ref n3, .ref n4, .int 0, .int 0, .int 0, .int 0, .int 0])), (mc, .inr (5, [.ref sk, .ref nt, .ref m0, .ref m1, .ref m2, .ref sh, .int 0, .int 0, .int 0, .int 0, .int 0, .int 0, .int 0, .int 0, .int 0]))] sz)) 0 0 (va_A [(h0, .inr (11, [.ref tp, .ref rd, .ref ck, .ref sk, .ref nt, .ref mc, .ref sh, .ref sp, .int 0, .int 0])), (nt, .inr (7, [.ref n0, .ref n1, .ref n2, .ref n3, .ref n4, .int 0, .int 0, .int 0, .int 0, .int 0])), (mc, .inr (5, [.ref sk, .ref nt, .ref m0, .ref m1, .ref m2, .ref sh, .int 0, .int 0, .int 0, .int 0, .int 0, .int 0, .int 0, .int 0, .int 0]))] sz) := by
  refine g_met (q_c_get D h0 tp rd ck sk nt mc sh sp n0 n1 n2 n3 n4 m0 m1 m2 p0 p1) (by decide) (Nat.le_of_ble_eq_true rfl) ?_
  intro p e s m below meth c A ls H locs hx hb hr hml hown hg hlocks hin hnw hgk hP hK hD hS hA hl
  have hown : s.vm.findClass RX11 = some m.cls := hown
  have hl : lv_has ls 3 [(0, .ref h0), (1, .int p0), (2, .int p1)] := hl
  refine lv_aload_n hx hb dX11_get_0 rfl (lv_at hl 0 rfl) ?_
  refine va_get (D := D) (ci := 11) (v := .ref nt) (C := RX11) (T := TX11) (N := 10) hx hb hg inX11 hown hK hP 0 rfl rfl 4 (by decide) (hg _ w719) (fun _ h9 => h9) rfl dX11_get_1 ?_
  refine lv_iconst (v := 0) hx hb dX11_get_4 (by decide) ?_
  refine lv_iconst (v := 0) hx hb dX11_get_5 (by decide) ?_
  refine g_void (wr := [(h0, .inr (11, [.ref tp, .ref rd, .ref ck, .ref sk, .ref nt, .ref mc, .ref sh, .ref sp, .int 0, .int 0])), (mc, .inr (5, [.ref sk, .ref nt, .ref m0, .ref m1, .ref m2, .ref sh, .int 0, .int 0, .int 0, .int 0, .int 0, .int 0, .int 0, .int 0, .int 0]))]) (tr := []) (g_runV (As := [.int 0, .int 0]) (rest := []) (wc := [(nt, .inr (7, [.ref n0, .ref n1, .ref n2, .ref n3, .ref n4, .int 0, .int 0, .int 0, .int 0, .int 0]))]) (tc := []) (ci := 7) (q0 := 1) hx hb hml hown hg gw_self hP hD hK hS hA hnw hgk [1] [] (by decide) rfl rfl (c_noteCause0 l D ks H.size nt n0 n1 n2 n3 n4) w1166 w1167 w1168 w166 w1169 rfl rfl hdV_yX7_noteCause ⟨Nat.le_of_ble_eq_true rfl, Nat.le_of_ble_eq_true rfl⟩ rfl hl.1 rfl (Nat.le_of_ble_eq_true rfl) dX11_get_6 ⟨Nat.le_of_ble_eq_true rfl, Nat.le_of_ble_eq_true rfl⟩) hP hD hK hS hA [1] [0, 2] [] rfl rfl (by decide) (by decide) rfl (fun vu2 H locs vhw1 hP hD hK hS => ?_)
  have hP : va_P D vwCl [(h0, .inr (11, [.ref tp, .ref rd, .ref ck, .ref sk, .ref nt, .ref mc, .ref sh, .ref sp, .int 0, .int 0])), (mc, .inr (5, [.ref sk, .ref nt, .ref m0, .ref m1, .ref m2, .ref sh, .int 0, .int 0, .int 0, .int 0, .int 0, .int 0, .int 0, .int 0, .int 0])), (nt, .inr (7, [.ref n0, .ref n1, .ref n2, .ref n3, .ref n4, .int 0, .int 0, .int 0, .int 0, .int 0]))] H := hP
  have hD : va_D A [(h0, .inr (11, [.ref tp, .ref rd, .ref ck, .ref sk, .ref nt, .ref mc, .ref sh, .ref sp, .int 0, .int 0])), (mc, .inr (5, [.ref sk, .ref nt, .ref m0, .ref m1, .ref m2, .ref sh, .int 0, .int 0, .int 0, .int 0, .int 0, .int 0, .int 0, .int 0, .int 0])), (nt, .inr (7, [.ref n0, .ref n1, .ref n2, .ref n3, .ref n4, .int 0, .int 0, .int 0, .int 0, .int 0]))] := hD
  have hK : va_K D vwCl [] s := hK
  refine lv_aload_n hx hb dX11_get_9 rfl (lv_at hl 0 rfl) ?_
  refine va_get (D := D) (ci := 11) (v := .ref mc) (C := RX11) (T := TX11) (N := 10) hx hb hg inX11 hown hK hP 0 rfl rfl 5 (by decide) (hg _ w720) (fun _ h9 => h9) rfl dX11_get_10 ?_
  refine g_void (wr := [(h0, .inr (11, [.ref tp, .ref rd, .ref ck, .ref sk, .ref nt, .ref mc, .ref sh, .ref sp, .int 0, .int 0])), (nt, .inr (7, [.ref n0, .ref n1, .ref n2, .ref n3, .ref n4, .int 0, .int 0, .int 0, .int 0, .int 0]))]) (tr := []) (g_runV (As := []) (rest := []) (wc := [(mc, .inr (5, [.ref sk, .ref nt, .ref m0, .ref m1, .ref m2, .ref sh, .int 0, .int 0, .int 0, .int 0, .int 0, .int 0, .int 0, .int 0, .int 0]))]) (tc := []) (ci := 5) (q0 := 1) hx hb hml hown hg gw_self hP hD hK hS hA hnw hgk [1] [] (by decide) rfl rfl (c_restart0 l D ks H.size mc sk nt m0 m1 m2 sh) w1170 w1044 w1045 w171 w1046 rfl rfl hdV_yX5_restart ⟨Nat.le_of_ble_eq_true rfl, Nat.le_of_ble_eq_true rfl⟩ rfl hl.1 rfl (Nat.le_of_ble_eq_true rfl) dX11_get_13 ⟨Nat.le_of_ble_eq_true rfl, Nat.le_of_ble_eq_true rfl⟩) hP hD hK hS hA [1] [0, 2] [] rfl rfl (by decide) (by decide) rfl (fun vu4 H locs vhw3 hP hD hK hS => ?_)
  have hP : va_P D vwCl [(h0, .inr (11, [.ref tp, .ref rd, .ref ck, .ref sk, .ref nt, .ref mc, .ref sh, .ref sp, .int 0, .int 0])), (nt, .inr (7, [.ref n0, .ref n1, .ref n2, .ref n3, .ref n4, .int 0, .int 0, .int 0, .int 0, .int 0])), (mc, .inr (5, [.ref sk, .ref nt, .ref m0, .ref m1, .ref m2, .ref sh, .int 0, .int 0, .int 0, .int 0, .int 0, .int 0, .int 0, .int 0, .int 0]))] H := hP
  have hD : va_D A [(h0, .inr (11, [.ref tp, .ref rd, .ref ck, .ref sk, .ref nt, .ref mc, .ref sh, .ref sp, .int 0, .int 0])), (nt, .inr (7, [.ref n0, .ref n1, .ref n2, .ref n3, .ref n4, .int 0, .int 0, .int 0, .int 0, .int 0])), (mc, .inr (5, [.ref sk, .ref nt, .ref m0, .ref m1, .ref m2, .ref sh, .int 0, .int 0, .int 0, .int 0, .int 0, .int 0, .int 0, .int 0, .int 0]))] := hD
  have hK : va_K D vwCl [] s := hK
  refine lv_aload_n hx hb dX11_get_16 rfl (lv_at hl 0 rfl) ?_
  refine va_get (D := D) (ci := 11) (v := .int 0) (C := RX11) (T := TX11) (N := 10) hx hb hg inX11 hown hK hP 0 rfl rfl 8 (by decide) (hg _ w723) (fun _ h9 => h9) rfl dX11_get_17 ?_
  refine lv_if_ne (tgt := 30) hx hb dX11_get_20 (by decide) (fun q => absurd rfl q) (fun _ => ?_)
  refine lv_aload_n hx hb dX11_get_23 rfl (lv_at hl 0 rfl) ?_
  refine lv_iconst (v := 4) hx hb dX11_get_24 (by decide) ?_
  refine lv_iconst (v := (-1)) hx hb dX11_get_25 (by decide) ?_
  refine g_int (wr := [(nt, .inr (7, [.ref n0, .ref n1, .ref n2, .ref n3, .ref n4, .int 0, .int 0, .int 0, .int 0, .int 0])), (mc, .inr (5, [.ref sk, .ref nt, .ref m0, .ref m1, .ref m2, .ref sh, .int 0, .int 0, .int 0, .int 0, .int 0, .int 0, .int 0, .int 0, .int 0]))]) (tr := []) (g_runV (As := [.int 4, .int (-1)]) (rest := []) (wc := [(h0, .inr (11, [.ref tp, .ref rd, .ref ck, .ref sk, .ref nt, .ref mc, .ref sh, .ref sp, .int 0, .int 0]))]) (tc := []) (ci := 11) (q0 := 0) hx hb hml hown hg gw_self hP hD hK hS hA hnw hgk [0] [] (by decide) rfl rfl (c_ends l D ks H.size h0 tp rd ck sk nt mc sh sp 4 (-1)) w1171 w1173 w42 w156 w1174 rfl rfl hdV_yX11_ends ⟨Nat.le_of_ble_eq_true rfl, Nat.le_of_ble_eq_true rfl⟩ rfl hl.1 rfl (Nat.le_of_ble_eq_true rfl) dX11_get_26 ⟨Nat.le_of_ble_eq_true rfl, Nat.le_of_ble_eq_true rfl⟩) hP hD hK hS hA [0] [1, 2] [] rfl rfl (by decide) (by decide) rfl (fun vr7 vu6 H locs vhw5 hP hD hK hS => ?_)
  have vhw5 : vr7 = (-1) := vhw5
  subst vhw5
  have hP : va_P D vwCl [(nt, .inr (7, [.ref n0, .ref n1, .ref n2, .ref n3, .ref n4, .int 0, .int 0, .int 0, .int 0, .int 0])), (mc, .inr (5, [.ref sk, .ref nt, .ref m0, .ref m1, .ref m2, .ref sh, .int 0, .int 0, .int 0, .int 0, .int 0, .int 0, .int 0, .int 0, .int 0]))] H := hP
  have hD : va_D A [(nt, .inr (7, [.ref n0, .ref n1, .ref n2, .ref n3, .ref n4, .int 0, .int 0, .int 0, .int 0, .int 0])), (mc, .inr (5, [.ref sk, .ref nt, .ref m0, .ref m1, .ref m2, .ref sh, .int 0, .int 0, .int 0, .int 0, .int 0, .int 0, .int 0, .int 0, .int 0]))] := hD
  have hK : va_K D vwCl [] s := hK
  refine W.widen (k := 0) (n := 0) (Nat.le_of_ble_eq_true rfl) (Nat.le_of_ble_eq_true rfl) ?_
  have hP9 := hP.sub (ws' := []) [] rfl
  have hD9 := hD.sub (ws' := []) [] (by decide) rfl
  have hK9 := hK.sub (tys' := []) [] rfl
  exact W.iret (v := (-1)) hx hb hr (fun t ht hW => ⟨⟨(-1), (), rfl, (by first | rfl | trivial | assumption | decide), by rw [ht]; exact hP9, va_K.moved hW.alike hK9, hD9⟩, hS.F ht⟩) hS.2.2 dX11_get_29
abbrev r_c_call : Room := { frames := 2, cells := 0, slots := 0, locals := 42 }
abbrev q_c_call (D : va_G) (h0 : Nat) (tp : Nat) (rd : Nat) (ck : Nat) (sk : Nat) (nt : Nat) (mc : Nat) (sh : Nat) (sp : Nat) (n0 : Nat) (n1 : Nat) (n2 : Nat) (n3 : Nat) (n4 : Nat) (m0 : Nat) (m1 : Nat) (m2 : Nat) (s0 : Nat) (s1 : Nat) (s2 : Nat) (s3 : Nat) (s4 : Nat) (s5 : Nat) (s6 : Nat) (s7 : Nat) (s8 : Nat) (s9 : Nat) (s10 : Nat) (s11 : Nat) (ks2 : ClassId) (p0 : Int32) (p1 : Int32) (p2 : Int32) (p3 : Int32) (A : Nat → Prop) : Array Value → State → Outcome → State → Prop := va_Qi (fun (r : Int32) (_ : Unit) => r = 0) (fun u t => gq D A ((fun (_ : Unit) => []) u) ((fun (_ : Unit) => ([] : List (ClassId × FieldType))) u) t) A
set_option maxHeartbeats 4000000 in
set_option maxRecDepth 100000 in
theorem c_call (l : Launch) (D : va_G) (ks : Nat × Nat × Option Nat) (sz : Nat) (h0 : Nat) (tp : Nat) (rd : Nat) (ck : Nat) (sk : Nat) (nt : Nat) (mc : Nat) (sh : Nat) (sp : Nat) (n0 : Nat) (n1 : Nat) (n2 : Nat) (n3 : Nat) (n4 : Nat) (m0 : Nat) (m1 : Nat) (m2 : Nat) (s0 : Nat) (s1 : Nat) (s2 : Nat) (s3 : Nat) (s4 : Nat) (s5 : Nat) (s6 : Nat) (s7 : Nat) (s8 : Nat) (s9 : Nat) (s10 : Nat) (s11 : Nat) (ks2 : ClassId) (p0 : Int32) (p1 : Int32) (p2 : Int32) (p3 : Int32) : Met l yX11_call (Cond.code yX11_call cX11_call 5 (some .int) :: GW) r_c_call (va_Pc [.ref h0, .int p0, .int p1, .int p2, .int p3] (gp D ks [(h0, .inr (11, [.ref tp, .ref rd, .ref ck, .ref sk, .ref nt, .ref mc, .ref sh, .ref sp, .int 0, .int 0])), (nt, .inr (7, [.ref n0, .ref n1, .ref n2, .ref n3, .ref n4, .int 0, .int 0, .int 0, .int 0, .int 0])), (mc, .inr (5, [.ref sk, .ref nt, .ref m0, .ref m1, .ref m2, .ref sh, .int 0, .int 0, .int 0, .int 0, .int 0, .int 0, .int 0, .int 0, .int 0])), (sk, .inr (8, [.ref s0, .ref s1, .ref s2, .ref s3, .ref s4, .ref s5, .ref s6, .ref s7, .ref s8, .ref s9, .ref s10, .ref s11, .int 1, .int 0, .int 0, .int 0])), (s2, .inl (ks2, 40, .inl (upd (fun _ => 0) 0 1)))] [(ks2, .boolean)] sz)) (q_c_call D h0 tp rd ck sk nt mc sh sp n0 n1 n2 n3 n4 m0 m1 m2 s0 s1 s2 s3 s4 s5 s6 s7 s8 s9 s10 s11 ks2 p0 p1 p2 p3 (va_A [(h0, .inr (11, [.ref tp, .ref rd, .ref ck, .ref sk, .ref nt, .ref mc, .ref sh, .ref sp, .int 0, .int 0])), (nt, .inr (7, [.ref n0, .ref n1, .ref n2, .ref n3, .ref n4, .int 0, .int 0, .int 0, .int 0, .int 0])), (mc, .inr (5, [.ref sk, .ref nt, .ref m0, .ref m1, .ref m2, .ref sh, .int 0, .int 0, .int 0, .int 0, .int 0, .int 0, .int 0, .int 0, .int 0])), (sk, .inr (8, [.ref s0, .ref s1, .ref s2, .ref s3, .ref s4, .ref s5, .ref s6, .ref s7, .ref s8, .ref s9, .ref s10, .ref s11, .int 1, .int 0, .int 0, .int 0])), (s2, .inl (ks2, 40, .inl (upd (fun _ => 0) 0 1)))] sz)) 0 0 (va_A [(h0, .inr (11, [.ref tp, .ref rd, .ref ck, .ref sk, .ref nt, .ref mc, .ref sh, .ref sp, .int 0, .int 0])), (nt, .inr (7, [.ref n0, .ref n1, .ref n2, .ref n3, .ref n4, .int 0, .int 0, .int 0, .int 0, .int 0])), (mc, .inr (5, [.ref sk, .ref nt, .ref m0, .ref m1, .ref m2, .ref sh, .int 0, .int 0, .int 0, .int 0, .int 0, .int 0, .int 0, .int 0, .int 0])), (sk, .inr (8, [.ref s0, .ref s1, .ref s2, .ref s3, .ref s4, .ref s5, .ref s6, .ref s7, .ref s8, .ref s9, .ref s10, .ref s11, .int 1, .int 0, .int 0, .int 0])), (s2, .inl (ks2, 40, .inl (upd (fun _ => 0) 0 1)))] sz) := by
  refine g_met (q_c_call D h0 tp rd ck sk nt mc sh sp n0 n1 n2 n3 n4 m0 m1 m2 s0 s1 s2 s3 s4 s5 s6 s7 s8 s9 s10 s11 ks2 p0 p1 p2 p3) (by decide) (Nat.le_of_ble_eq_true rfl) ?_
  intro p e s m below meth c A ls H locs hx hb hr hml hown hg hlocks hin hnw hgk hP hK hD hS hA hl
  have hown : s.vm.findClass RX11 = some m.cls := hown
  have hl : lv_has ls 5 [(0, .ref h0), (1, .int p0), (2, .int p1), (3, .int p2), (4, .int p3)] := hl
  by_cases hp0 : p0 = 0
  · subst hp0
    refine lv_aload_n hx hb dX11_call_0 rfl (lv_at hl 0 rfl) ?_
    refine va_get (D := D) (ci := 11) (v := .ref nt) (C := RX11) (T := TX11) (N := 10) hx hb hg inX11 hown hK hP 0 rfl rfl 4 (by decide) (hg _ w719) (fun _ h9 => h9) rfl dX11_call_1 ?_
    refine lv_iconst (v := 0) hx hb dX11_call_4 (by decide) ?_
    refine lv_iconst (v := 0) hx hb dX11_call_5 (by decide) ?_
    refine g_void (wr := [(h0, .inr (11, [.ref tp, .ref rd, .ref ck, .ref sk, .ref nt, .ref mc, .ref sh, .ref sp, .int 0, .int 0])), (mc, .inr (5, [.ref sk, .ref nt, .ref m0, .ref m1, .ref m2, .ref sh, .int 0, .int 0, .int 0, .int 0, .int 0, .int 0, .int 0, .int 0, .int 0])), (sk, .inr (8, [.ref s0, .ref s1, .ref s2, .ref s3, .ref s4, .ref s5, .ref s6, .ref s7, .ref s8, .ref s9, .ref s10, .ref s11, .int 1, .int 0, .int 0, .int 0])), (s2, .inl (ks2, 40, .inl (upd (fun _ => 0) 0 1)))]) (tr := [(ks2, .boolean)]) (g_runV (As := [.int 0, .int 0]) (rest := []) (wc := [(nt, .inr (7, [.ref n0, .ref n1, .ref n2, .ref n3, .ref n4, .int 0, .int 0, .int 0, .int 0, .int 0]))]) (tc := []) (ci := 7) (q0 := 1) hx hb hml hown hg gw_self hP hD hK hS hA hnw hgk [1] [] (by decide) rfl rfl (c_noteCause0 l D ks H.size nt n0 n1 n2 n3 n4) w1166 w1167 w1168 w166 w1169 rfl rfl hdV_yX7_noteCause ⟨Nat.le_of_ble_eq_true rfl, Nat.le_of_ble_eq_true rfl⟩ rfl hl.1 rfl (Nat.le_of_ble_eq_true rfl) dX11_call_6 ⟨Nat.le_of_ble_eq_true rfl, Nat.le_of_ble_eq_true rfl⟩) hP hD hK hS hA [1] [0, 2, 3, 4] [0] rfl rfl (by decide) (by decide) rfl (fun vu2 H locs vhw1 hP hD hK hS => ?_)
    have hP : va_P D vwCl [(h0, .inr (11, [.ref tp, .ref rd, .ref ck, .ref sk, .ref nt, .ref mc, .ref sh, .ref sp, .int 0, .int 0])), (mc, .inr (5, [.ref sk, .ref nt, .ref m0, .ref m1, .ref m2, .ref sh, .int 0, .int 0, .int 0, .int 0, .int 0, .int 0, .int 0, .int 0, .int 0])), (sk, .inr (8, [.ref s0, .ref s1, .ref s2, .ref s3, .ref s4, .ref s5, .ref s6, .ref s7, .ref s8, .ref s9, .ref s10, .ref s11, .int 1, .int 0, .int 0, .int 0])), (s2, .inl (ks2, 40, .inl (upd (fun _ => 0) 0 1))), (nt, .inr (7, [.ref n0, .ref n1, .ref n2, .ref n3, .ref n4, .int 0, .int 0, .int 0, .int 0, .int 0]))] H := hP
    have hD : va_D A [(h0, .inr (11, [.ref tp, .ref rd, .ref ck, .ref sk, .ref nt, .ref mc, .ref sh, .ref sp, .int 0, .int 0])), (mc, .inr (5, [.ref sk, .ref nt, .ref m0, .ref m1, .ref m2, .ref sh, .int 0, .int 0, .int 0, .int 0, .int 0, .int 0, .int 0, .int 0, .int 0])), (sk, .inr (8, [.ref s0, .ref s1, .ref s2, .ref s3, .ref s4, .ref s5, .ref s6, .ref s7, .ref s8, .ref s9, .ref s10, .ref s11, .int 1, .int 0, .int 0, .int 0])), (s2, .inl (ks2, 40, .inl (upd (fun _ => 0) 0 1))), (nt, .inr (7, [.ref n0, .ref n1, .ref n2, .ref n3, .ref n4, .int 0, .int 0, .int 0, .int 0, .int 0]))] := hD
    have hK : va_K D vwCl [(ks2, .boolean)] s := hK
    refine lv_aload_n hx hb dX11_call_9 rfl (lv_at hl 0 rfl) ?_
    refine va_get (D := D) (ci := 11) (v := .ref nt) (C := RX11) (T := TX11) (N := 10) hx hb hg inX11 hown hK hP 0 rfl rfl 4 (by decide) (hg _ w719) (fun _ h9 => h9) rfl dX11_call_10 ?_
    refine g_void (wr := [(h0, .inr (11, [.ref tp, .ref rd, .ref ck, .ref sk, .ref nt, .ref mc, .ref sh, .ref sp, .int 0, .int 0])), (mc, .inr (5, [.ref sk, .ref nt, .ref m0, .ref m1, .ref m2, .ref sh, .int 0, .int 0, .int 0, .int 0, .int 0, .int 0, .int 0, .int 0, .int 0])), (sk, .inr (8, [.ref s0, .ref s1, .ref s2, .ref s3, .ref s4, .ref s5, .ref s6, .ref s7, .ref s8, .ref s9, .ref s10, .ref s11, .int 1, .int 0, .int 0, .int 0])), (s2, .inl (ks2, 40, .inl (upd (fun _ => 0) 0 1)))]) (tr := [(ks2, .boolean)]) (g_runV (As := []) (rest := []) (wc := [(nt, .inr (7, [.ref n0, .ref n1, .ref n2, .ref n3, .ref n4, .int 0, .int 0, .int 0, .int 0, .int 0]))]) (tc := []) (ci := 7) (q0 := 4) hx hb hml hown hg gw_self hP hD hK hS hA hnw hgk [4] [] (by decide) rfl rfl (c_forgetThings0 l D ks H.size nt n0 n1 n2 n3 n4) w1514 w1515 w1516 w166 w1517 rfl rfl hdV_yX7_forgetThings ⟨Nat.le_of_ble_eq_true rfl, Nat.le_of_ble_eq_true rfl⟩ rfl hl.1 rfl (Nat.le_of_ble_eq_true rfl) dX11_call_13 ⟨Nat.le_of_ble_eq_true rfl, Nat.le_of_ble_eq_true rfl⟩) hP hD hK hS hA [4] [0, 1, 2, 3] [0] rfl rfl (by decide) (by decide) rfl (fun vu4 H locs vhw3 hP hD hK hS => ?_)
    have hP : va_P D vwCl [(h0, .inr (11, [.ref tp, .ref rd, .ref ck, .ref sk, .ref nt, .ref mc, .ref sh, .ref sp, .int 0, .int 0])), (mc, .inr (5, [.ref sk, .ref nt, .ref m0, .ref m1, .ref m2, .ref sh, .int 0, .int 0, .int 0, .int 0, .int 0, .int 0, .int 0, .int 0, .int 0])), (sk, .inr (8, [.ref s0, .ref s1, .ref s2, .ref s3, .ref s4, .ref s5, .ref s6, .ref s7, .ref s8, .ref s9, .ref s10, .ref s11, .int 1, .int 0, .int 0, .int 0])), (s2, .inl (ks2, 40, .inl (upd (fun _ => 0) 0 1))), (nt, .inr (7, [.ref n0, .ref n1, .ref n2, .ref n3, .ref n4, .int 0, .int 0, .int 0, .int 0, .int 0]))] H := hP
    have hD : va_D A [(h0, .inr (11, [.ref tp, .ref rd, .ref ck, .ref sk, .ref nt, .ref mc, .ref sh, .ref sp, .int 0, .int 0])), (mc, .inr (5, [.ref sk, .ref nt, .ref m0, .ref m1, .ref m2, .ref sh, .int 0, .int 0, .int 0, .int 0, .int 0, .int 0, .int 0, .int 0, .int 0])), (sk, .inr (8, [.ref s0, .ref s1, .ref s2, .ref s3, .ref s4, .ref s5, .ref s6, .ref s7, .ref s8, .ref s9, .ref s10, .ref s11, .int 1, .int 0, .int 0, .int 0])), (s2, .inl (ks2, 40, .inl (upd (fun _ => 0) 0 1))), (nt, .inr (7, [.ref n0, .ref n1, .ref n2, .ref n3, .ref n4, .int 0, .int 0, .int 0, .int 0, .int 0]))] := hD
    have hK : va_K D vwCl [(ks2, .boolean)] s := hK
    refine lv_aload_n hx hb dX11_call_16 rfl (lv_at hl 0 rfl) ?_
    refine va_get (D := D) (ci := 11) (v := .ref mc) (C := RX11) (T := TX11) (N := 10) hx hb hg inX11 hown hK hP 0 rfl rfl 5 (by decide) (hg _ w720) (fun _ h9 => h9) rfl dX11_call_17 ?_
    refine g_void (wr := [(h0, .inr (11, [.ref tp, .ref rd, .ref ck, .ref sk, .ref nt, .ref mc, .ref sh, .ref sp, .int 0, .int 0])), (sk, .inr (8, [.ref s0, .ref s1, .ref s2, .ref s3, .ref s4, .ref s5, .ref s6, .ref s7, .ref s8, .ref s9, .ref s10, .ref s11, .int 1, .int 0, .int 0, .int 0])), (s2, .inl (ks2, 40, .inl (upd (fun _ => 0) 0 1))), (nt, .inr (7, [.ref n0, .ref n1, .ref n2, .ref n3, .ref n4, .int 0, .int 0, .int 0, .int 0, .int 0]))]) (tr := [(ks2, .boolean)]) (g_runV (As := []) (rest := []) (wc := [(mc, .inr (5, [.ref sk, .ref nt, .ref m0, .ref m1, .ref m2, .ref sh, .int 0, .int 0, .int 0, .int 0, .int 0, .int 0, .int 0, .int 0, .int 0]))]) (tc := []) (ci := 5) (q0 := 1) hx hb hml hown hg gw_self hP hD hK hS hA hnw hgk [1] [] (by decide) rfl rfl (c_restart0 l D ks H.size mc sk nt m0 m1 m2 sh) w1170 w1044 w1045 w171 w1046 rfl rfl hdV_yX5_restart ⟨Nat.le_of_ble_eq_true rfl, Nat.le_of_ble_eq_true rfl⟩ rfl hl.1 rfl (Nat.le_of_ble_eq_true rfl) dX11_call_20 ⟨Nat.le_of_ble_eq_true rfl, Nat.le_of_ble_eq_true rfl⟩) hP hD hK hS hA [1] [0, 2, 3, 4] [0] rfl rfl (by decide) (by decide) rfl (fun vu6 H locs vhw5 hP hD hK hS => ?_)
    have hP : va_P D vwCl [(h0, .inr (11, [.ref tp, .ref rd, .ref ck, .ref sk, .ref nt, .ref mc, .ref sh, .ref sp, .int 0, .int 0])), (sk, .inr (8, [.ref s0, .ref s1, .ref s2, .ref s3, .ref s4, .ref s5, .ref s6, .ref s7, .ref s8, .ref s9, .ref s10, .ref s11, .int 1, .int 0, .int 0, .int 0])), (s2, .inl (ks2, 40, .inl (upd (fun _ => 0) 0 1))), (nt, .inr (7, [.ref n0, .ref n1, .ref n2, .ref n3, .ref n4, .int 0, .int 0, .int 0, .int 0, .int 0])), (mc, .inr (5, [.ref sk, .ref nt, .ref m0, .ref m1, .ref m2, .ref sh, .int 0, .int 0, .int 0, .int 0, .int 0, .int 0, .int 0, .int 0, .int 0]))] H := hP
    have hD : va_D A [(h0, .inr (11, [.ref tp, .ref rd, .ref ck, .ref sk, .ref nt, .ref mc, .ref sh, .ref sp, .int 0, .int 0])), (sk, .inr (8, [.ref s0, .ref s1, .ref s2, .ref s3, .ref s4, .ref s5, .ref s6, .ref s7, .ref s8, .ref s9, .ref s10, .ref s11, .int 1, .int 0, .int 0, .int 0])), (s2, .inl (ks2, 40, .inl (upd (fun _ => 0) 0 1))), (nt, .inr (7, [.ref n0, .ref n1, .ref n2, .ref n3, .ref n4, .int 0, .int 0, .int 0, .int 0, .int 0])), (mc, .inr (5, [.ref sk, .ref nt, .ref m0, .ref m1, .ref m2, .ref sh, .int 0, .int 0, .int 0, .int 0, .int 0, .int 0, .int 0, .int 0, .int 0]))] := hD
    have hK : va_K D vwCl [(ks2, .boolean)] s := hK
    refine lv_aload_n hx hb dX11_call_23 rfl (lv_at hl 0 rfl) ?_
    refine va_get (D := D) (ci := 11) (v := .ref sk) (C := RX11) (T := TX11) (N := 10) hx hb hg inX11 hown hK hP 0 rfl rfl 3 (by decide) (hg _ w718) (fun _ h9 => h9) rfl dX11_call_24 ?_
    refine lv_iload_n hx hb dX11_call_27 rfl (lv_at hl 1 rfl) ?_
    refine g_int (wr := [(h0, .inr (11, [.ref tp, .ref rd, .ref ck, .ref sk, .ref nt, .ref mc, .ref sh, .ref sp, .int 0, .int 0])), (nt, .inr (7, [.ref n0, .ref n1, .ref n2, .ref n3, .ref n4, .int 0, .int 0, .int 0, .int 0, .int 0])), (mc, .inr (5, [.ref sk, .ref nt, .ref m0, .ref m1, .ref m2, .ref sh, .int 0, .int 0, .int 0, .int 0, .int 0, .int 0, .int 0, .int 0, .int 0]))]) (tr := []) (g_runV (As := [.int 0]) (rest := []) (wc := [(sk, .inr (8, [.ref s0, .ref s1, .ref s2, .ref s3, .ref s4, .ref s5, .ref s6, .ref s7, .ref s8, .ref s9, .ref s10, .ref s11, .int 1, .int 0, .int 0, .int 0])), (s2, .inl (ks2, 40, .inl (upd (fun _ => 0) 0 1)))]) (tc := [(ks2, .boolean)]) (ci := 8) (q0 := 1) hx hb hml hown hg gw_self hP hD hK hS hA hnw hgk [1, 2] [0] (by decide) rfl rfl (c_isOpen0 l D ks H.size sk s0 s1 s2 s3 s4 s5 s6 s7 s8 s9 s10 s11 ks2) w1158 w1159 w1160 w164 w1161 rfl rfl hdV_yX8_isOpen ⟨Nat.le_of_ble_eq_true rfl, Nat.le_of_ble_eq_true rfl⟩ rfl hl.1 rfl (Nat.le_of_ble_eq_true rfl) dX11_call_28 ⟨Nat.le_of_ble_eq_true rfl, Nat.le_of_ble_eq_true rfl⟩) hP hD hK hS hA [1, 2] [0, 3, 4] [] rfl rfl (by decide) (by decide) rfl (fun vr9 vu8 H locs vhw7 hP hD hK hS => ?_)
    have vhw7 : vr9 = 1 := vhw7
    subst vhw7
    have hP : va_P D vwCl [(h0, .inr (11, [.ref tp, .ref rd, .ref ck, .ref sk, .ref nt, .ref mc, .ref sh, .ref sp, .int 0, .int 0])), (nt, .inr (7, [.ref n0, .ref n1, .ref n2, .ref n3, .ref n4, .int 0, .int 0, .int 0, .int 0, .int 0])), (mc, .inr (5, [.ref sk, .ref nt, .ref m0, .ref m1, .ref m2, .ref sh, .int 0, .int 0, .int 0, .int 0, .int 0, .int 0, .int 0, .int 0, .int 0])), (sk, .inr (8, [.ref s0, .ref s1, .ref s2, .ref s3, .ref s4, .ref s5, .ref s6, .ref s7, .ref s8, .ref s9, .ref s10, .ref s11, .int 1, .int 0, .int 0, .int 0])), (s2, .inl (ks2, 40, .inl (upd (fun _ => 0) 0 1)))] H := hP
    have hD : va_D A [(h0, .inr (11, [.ref tp, .ref rd, .ref ck, .ref sk, .ref nt, .ref mc, .ref sh, .ref sp, .int 0, .int 0])), (nt, .inr (7, [.ref n0, .ref n1, .ref n2, .ref n3, .ref n4, .int 0, .int 0, .int 0, .int 0, .int 0])), (mc, .inr (5, [.ref sk, .ref nt, .ref m0, .ref m1, .ref m2, .ref sh, .int 0, .int 0, .int 0, .int 0, .int 0, .int 0, .int 0, .int 0, .int 0])), (sk, .inr (8, [.ref s0, .ref s1, .ref s2, .ref s3, .ref s4, .ref s5, .ref s6, .ref s7, .ref s8, .ref s9, .ref s10, .ref s11, .int 1, .int 0, .int 0, .int 0])), (s2, .inl (ks2, 40, .inl (upd (fun _ => 0) 0 1)))] := hD
    have hK : va_K D vwCl [(ks2, .boolean)] s := hK
    refine lv_if_ne (tgt := 41) hx hb dX11_call_31 (by decide) (fun _ => ?_) (fun q => absurd q (by decide))
    refine lv_aload_n hx hb dX11_call_41 rfl (lv_at hl 0 rfl) ?_
    refine va_get (D := D) (ci := 11) (v := .ref sk) (C := RX11) (T := TX11) (N := 10) hx hb hg inX11 hown hK hP 0 rfl rfl 3 (by decide) (hg _ w718) (fun _ h9 => h9) rfl dX11_call_42 ?_
    refine lv_iload_n hx hb dX11_call_45 rfl (lv_at hl 2 rfl) ?_
    refine g_int (wr := [(h0, .inr (11, [.ref tp, .ref rd, .ref ck, .ref sk, .ref nt, .ref mc, .ref sh, .ref sp, .int 0, .int 0])), (nt, .inr (7, [.ref n0, .ref n1, .ref n2, .ref n3, .ref n4, .int 0, .int 0, .int 0, .int 0, .int 0])), (mc, .inr (5, [.ref sk, .ref nt, .ref m0, .ref m1, .ref m2, .ref sh, .int 0, .int 0, .int 0, .int 0, .int 0, .int 0, .int 0, .int 0, .int 0])), (s2, .inl (ks2, 40, .inl (upd (fun _ => 0) 0 1)))]) (tr := [(ks2, .boolean)]) (g_runV (As := [.int p1]) (rest := []) (wc := [(sk, .inr (8, [.ref s0, .ref s1, .ref s2, .ref s3, .ref s4, .ref s5, .ref s6, .ref s7, .ref s8, .ref s9, .ref s10, .ref s11, .int 1, .int 0, .int 0, .int 0]))]) (tc := []) (ci := 8) (q0 := 3) hx hb hml hown hg gw_self hP hD hK hS hA hnw hgk [3] [] (by decide) rfl rfl (c_isMade0 l D ks H.size sk s0 s1 s2 s3 s4 s5 s6 s7 s8 s9 s10 s11 p1) w1518 w1297 w1298 w164 w1299 rfl rfl hdV_yX8_isMade ⟨Nat.le_of_ble_eq_true rfl, Nat.le_of_ble_eq_true rfl⟩ rfl hl.1 rfl (Nat.le_of_ble_eq_true rfl) dX11_call_46 ⟨Nat.le_of_ble_eq_true rfl, Nat.le_of_ble_eq_true rfl⟩) hP hD hK hS hA [3] [0, 1, 2, 4] [0] rfl rfl (by decide) (by decide) rfl (fun vr12 vu11 H locs vhw10 hP hD hK hS => ?_)
    have vhw10 : vr12 = 0 := vhw10
    subst vhw10
    have hP : va_P D vwCl [(h0, .inr (11, [.ref tp, .ref rd, .ref ck, .ref sk, .ref nt, .ref mc, .ref sh, .ref sp, .int 0, .int 0])), (nt, .inr (7, [.ref n0, .ref n1, .ref n2, .ref n3, .ref n4, .int 0, .int 0, .int 0, .int 0, .int 0])), (mc, .inr (5, [.ref sk, .ref nt, .ref m0, .ref m1, .ref m2, .ref sh, .int 0, .int 0, .int 0, .int 0, .int 0, .int 0, .int 0, .int 0, .int 0])), (s2, .inl (ks2, 40, .inl (upd (fun _ => 0) 0 1))), (sk, .inr (8, [.ref s0, .ref s1, .ref s2, .ref s3, .ref s4, .ref s5, .ref s6, .ref s7, .ref s8, .ref s9, .ref s10, .ref s11, .int 1, .int 0, .int 0, .int 0]))] H := hP
    have hD : va_D A [(h0, .inr (11, [.ref tp, .ref rd, .ref ck, .ref sk, .ref nt, .ref mc, .ref sh, .ref sp, .int 0, .int 0])), (nt, .inr (7, [.ref n0, .ref n1, .ref n2, .ref n3, .ref n4, .int 0, .int 0, .int 0, .int 0, .int 0])), (mc, .inr (5, [.ref sk, .ref nt, .ref m0, .ref m1, .ref m2, .ref sh, .int 0, .int 0, .int 0, .int 0, .int 0, .int 0, .int 0, .int 0, .int 0])), (s2, .inl (ks2, 40, .inl (upd (fun _ => 0) 0 1))), (sk, .inr (8, [.ref s0, .ref s1, .ref s2, .ref s3, .ref s4, .ref s5, .ref s6, .ref s7, .ref s8, .ref s9, .ref s10, .ref s11, .int 1, .int 0, .int 0, .int 0]))] := hD
    have hK : va_K D vwCl [(ks2, .boolean)] s := hK
    refine lv_if_eq (tgt := 70) hx hb dX11_call_49 (by decide) (fun _ => ?_) (fun q => absurd (by decide) q)
    refine lv_aload_n hx hb dX11_call_70 rfl (lv_at hl 0 rfl) ?_
    refine lv_iconst (v := 4) hx hb dX11_call_71 (by decide) ?_
    refine lv_iconst (v := 0) hx hb dX11_call_72 (by decide) ?_
    refine g_int (wr := [(nt, .inr (7, [.ref n0, .ref n1, .ref n2, .ref n3, .ref n4, .int 0, .int 0, .int 0, .int 0, .int 0])), (mc, .inr (5, [.ref sk, .ref nt, .ref m0, .ref m1, .ref m2, .ref sh, .int 0, .int 0, .int 0, .int 0, .int 0, .int 0, .int 0, .int 0, .int 0])), (s2, .inl (ks2, 40, .inl (upd (fun _ => 0) 0 1))), (sk, .inr (8, [.ref s0, .ref s1, .ref s2, .ref s3, .ref s4, .ref s5, .ref s6, .ref s7, .ref s8, .ref s9, .ref s10, .ref s11, .int 1, .int 0, .int 0, .int 0]))]) (tr := [(ks2, .boolean)]) (g_runV (As := [.int 4, .int 0]) (rest := []) (wc := [(h0, .inr (11, [.ref tp, .ref rd, .ref ck, .ref sk, .ref nt, .ref mc, .ref sh, .ref sp, .int 0, .int 0]))]) (tc := []) (ci := 11) (q0 := 0) hx hb hml hown hg gw_self hP hD hK hS hA hnw hgk [0] [] (by decide) rfl rfl (c_ends l D ks H.size h0 tp rd ck sk nt mc sh sp 4 0) w1171 w1173 w42 w156 w1174 rfl rfl hdV_yX11_ends ⟨Nat.le_of_ble_eq_true rfl, Nat.le_of_ble_eq_true rfl⟩ rfl hl.1 rfl (Nat.le_of_ble_eq_true rfl) dX11_call_73 ⟨Nat.le_of_ble_eq_true rfl, Nat.le_of_ble_eq_true rfl⟩) hP hD hK hS hA [0] [1, 2, 3, 4] [0] rfl rfl (by decide) (by decide) rfl (fun vr15 vu14 H locs vhw13 hP hD hK hS => ?_)
    have vhw13 : vr15 = 0 := vhw13
    subst vhw13
    have hP : va_P D vwCl [(nt, .inr (7, [.ref n0, .ref n1, .ref n2, .ref n3, .ref n4, .int 0, .int 0, .int 0, .int 0, .int 0])), (mc, .inr (5, [.ref sk, .ref nt, .ref m0, .ref m1, .ref m2, .ref sh, .int 0, .int 0, .int 0, .int 0, .int 0, .int 0, .int 0, .int 0, .int 0])), (s2, .inl (ks2, 40, .inl (upd (fun _ => 0) 0 1))), (sk, .inr (8, [.ref s0, .ref s1, .ref s2, .ref s3, .ref s4, .ref s5, .ref s6, .ref s7, .ref s8, .ref s9, .ref s10, .ref s11, .int 1, .int 0, .int 0, .int 0]))] H := hP
    have hD : va_D A [(nt, .inr (7, [.ref n0, .ref n1, .ref n2, .ref n3, .ref n4, .int 0, .int 0, .int 0, .int 0, .int 0])), (mc, .inr (5, [.ref sk, .ref nt, .ref m0, .ref m1, .ref m2, .ref sh, .int 0, .int 0, .int 0, .int 0, .int 0, .int 0, .int 0, .int 0, .int 0])), (s2, .inl (ks2, 40, .inl (upd (fun _ => 0) 0 1))), (sk, .inr (8, [.ref s0, .ref s1, .ref s2, .ref s3, .ref s4, .ref s5, .ref s6, .ref s7, .ref s8, .ref s9, .ref s10, .ref s11, .int 1, .int 0, .int 0, .int 0]))] := hD
    have hK : va_K D vwCl [(ks2, .boolean)] s := hK
    refine W.widen (k := 0) (n := 0) (Nat.le_of_ble_eq_true rfl) (Nat.le_of_ble_eq_true rfl) ?_
    have hP9 := hP.sub (ws' := []) [] rfl
    have hD9 := hD.sub (ws' := []) [] (by decide) rfl
    have hK9 := hK.sub (tys' := []) [] rfl
    exact W.iret (v := 0) hx hb hr (fun t ht hW => ⟨⟨0, (), rfl, (by first | rfl | trivial | assumption | decide), by rw [ht]; exact hP9, va_K.moved hW.alike hK9, hD9⟩, hS.F ht⟩) hS.2.2 dX11_call_76
  · skip
    refine lv_aload_n hx hb dX11_call_0 rfl (lv_at hl 0 rfl) ?_
    refine va_get (D := D) (ci := 11) (v := .ref nt) (C := RX11) (T := TX11) (N := 10) hx hb hg inX11 hown hK hP 0 rfl rfl 4 (by decide) (hg _ w719) (fun _ h9 => h9) rfl dX11_call_1 ?_
    refine lv_iconst (v := 0) hx hb dX11_call_4 (by decide) ?_
    refine lv_iconst (v := 0) hx hb dX11_call_5 (by decide) ?_
    refine g_void (wr := [(h0, .inr (11, [.ref tp, .ref rd, .ref ck, .ref sk, .ref nt, .ref mc, .ref sh, .ref sp, .int 0, .int 0])), (mc, .inr (5, [.ref sk, .ref nt, .ref m0, .ref m1, .ref m2, .ref sh, .int 0, .int 0, .int 0, .int 0, .int 0, .int 0, .int 0, .int 0, .int 0])), (sk, .inr (8, [.ref s0, .ref s1, .ref s2, .ref s3, .ref s4, .ref s5, .ref s6, .ref s7, .ref s8, .ref s9, .ref s10, .ref s11, .int 1, .int 0, .int 0, .int 0])), (s2, .inl (ks2, 40, .inl (upd (fun _ => 0) 0 1)))]) (tr := [(ks2, .boolean)]) (g_runV (As := [.int 0, .int 0]) (rest := []) (wc := [(nt, .inr (7, [.ref n0, .ref n1, .ref n2, .ref n3, .ref n4, .int 0, .int 0, .int 0, .int 0, .int 0]))]) (tc := []) (ci := 7) (q0 := 1) hx hb hml hown hg gw_self hP hD hK hS hA hnw hgk [1] [] (by decide) rfl rfl (c_noteCause0 l D ks H.size nt n0 n1 n2 n3 n4) w1166 w1167 w1168 w166 w1169 rfl rfl hdV_yX7_noteCause ⟨Nat.le_of_ble_eq_true rfl, Nat.le_of_ble_eq_true rfl⟩ rfl hl.1 rfl (Nat.le_of_ble_eq_true rfl) dX11_call_6 ⟨Nat.le_of_ble_eq_true rfl, Nat.le_of_ble_eq_true rfl⟩) hP hD hK hS hA [1] [0, 2, 3, 4] [0] rfl rfl (by decide) (by decide) rfl (fun vu17 H locs vhw16 hP hD hK hS => ?_)
    have hP : va_P D vwCl [(h0, .inr (11, [.ref tp, .ref rd, .ref ck, .ref sk, .ref nt, .ref mc, .ref sh, .ref sp, .int 0, .int 0])), (mc, .inr (5, [.ref sk, .ref nt, .ref m0, .ref m1, .ref m2, .ref sh, .int 0, .int 0, .int 0, .int 0, .int 0, .int 0, .int 0, .int 0, .int 0])), (sk, .inr (8, [.ref s0, .ref s1, .ref s2, .ref s3, .ref s4, .ref s5, .ref s6, .ref s7, .ref s8, .ref s9, .ref s10, .ref s11, .int 1, .int 0, .int 0, .int 0])), (s2, .inl (ks2, 40, .inl (upd (fun _ => 0) 0 1))), (nt, .inr (7, [.ref n0, .ref n1, .ref n2, .ref n3, .ref n4, .int 0, .int 0, .int 0, .int 0, .int 0]))] H := hP
    have hD : va_D A [(h0, .inr (11, [.ref tp, .ref rd, .ref ck, .ref sk, .ref nt, .ref mc, .ref sh, .ref sp, .int 0, .int 0])), (mc, .inr (5, [.ref sk, .ref nt, .ref m0, .ref m1, .ref m2, .ref sh, .int 0, .int 0, .int 0, .int 0, .int 0, .int 0, .int 0, .int 0, .int 0])), (sk, .inr (8, [.ref s0, .ref s1, .ref s2, .ref s3, .ref s4, .ref s5, .ref s6, .ref s7, .ref s8, .ref s9, .ref s10, .ref s11, .int 1, .int 0, .int 0, .int 0])), (s2, .inl (ks2, 40, .inl (upd (fun _ => 0) 0 1))), (nt, .inr (7, [.ref n0, .ref n1, .ref n2, .ref n3, .ref n4, .int 0, .int 0, .int 0, .int 0, .int 0]))] := hD
    have hK : va_K D vwCl [(ks2, .boolean)] s := hK
    refine lv_aload_n hx hb dX11_call_9 rfl (lv_at hl 0 rfl) ?_
    refine va_get (D := D) (ci := 11) (v := .ref nt) (C := RX11) (T := TX11) (N := 10) hx hb hg inX11 hown hK hP 0 rfl rfl 4 (by decide) (hg _ w719) (fun _ h9 => h9) rfl dX11_call_10 ?_
    refine g_void (wr := [(h0, .inr (11, [.ref tp, .ref rd, .ref ck, .ref sk, .ref nt, .ref mc, .ref sh, .ref sp, .int 0, .int 0])), (mc, .inr (5, [.ref sk, .ref nt, .ref m0, .ref m1, .ref m2, .ref sh, .int 0, .int 0, .int 0, .int 0, .int 0, .int 0, .int 0, .int 0, .int 0])), (sk, .inr (8, [.ref s0, .ref s1, .ref s2, .ref s3, .ref s4, .ref s5, .ref s6, .ref s7, .ref s8, .ref s9, .ref s10, .ref s11, .int 1, .int 0, .int 0, .int 0])), (s2, .inl (ks2, 40, .inl (upd (fun _ => 0) 0 1)))]) (tr := [(ks2, .boolean)]) (g_runV (As := []) (rest := []) (wc := [(nt, .inr (7, [.ref n0, .ref n1, .ref n2, .ref n3, .ref n4, .int 0, .int 0, .int 0, .int 0, .int 0]))]) (tc := []) (ci := 7) (q0 := 4) hx hb hml hown hg gw_self hP hD hK hS hA hnw hgk [4] [] (by decide) rfl rfl (c_forgetThings0 l D ks H.size nt n0 n1 n2 n3 n4) w1514 w1515 w1516 w166 w1517 rfl rfl hdV_yX7_forgetThings ⟨Nat.le_of_ble_eq_true rfl, Nat.le_of_ble_eq_true rfl⟩ rfl hl.1 rfl (Nat.le_of_ble_eq_true rfl) dX11_call_13 ⟨Nat.le_of_ble_eq_true rfl, Nat.le_of_ble_eq_true rfl⟩) hP hD hK hS hA [4] [0, 1, 2, 3] [0] rfl rfl (by decide) (by decide) rfl (fun vu19 H locs vhw18 hP hD hK hS => ?_)
    have hP : va_P D vwCl [(h0, .inr (11, [.ref tp, .ref rd, .ref ck, .ref sk, .ref nt, .ref mc, .ref sh, .ref sp, .int 0, .int 0])), (mc, .inr (5, [.ref sk, .ref nt, .ref m0, .ref m1, .ref m2, .ref sh, .int 0, .int 0, .int 0, .int 0, .int 0, .int 0, .int 0, .int 0, .int 0])), (sk, .inr (8, [.ref s0, .ref s1, .ref s2, .ref s3, .ref s4, .ref s5, .ref s6, .ref s7, .ref s8, .ref s9, .ref s10, .ref s11, .int 1, .int 0, .int 0, .int 0])), (s2, .inl (ks2, 40, .inl (upd (fun _ => 0) 0 1))), (nt, .inr (7, [.ref n0, .ref n1, .ref n2, .ref n3, .ref n4, .int 0, .int 0, .int 0, .int 0, .int 0]))] H := hP
    have hD : va_D A [(h0, .inr (11, [.ref tp, .ref rd, .ref ck, .ref sk, .ref nt, .ref mc, .ref sh, .ref sp, .int 0, .int 0])), (mc, .inr (5, [.ref sk, .ref nt, .ref m0, .ref m1, .ref m2, .ref sh, .int 0, .int 0, .int 0, .int 0, .int 0, .int 0, .int 0, .int 0, .int 0])), (sk, .inr (8, [.ref s0, .ref s1, .ref s2, .ref s3, .ref s4, .ref s5, .ref s6, .ref s7, .ref s8, .ref s9, .ref s10, .ref s11, .int 1, .int 0, .int 0, .int 0])), (s2, .inl (ks2, 40, .inl (upd (fun _ => 0) 0 1))), (nt, .inr (7, [.ref n0, .ref n1, .ref n2, .ref n3, .ref n4, .int 0, .int 0, .int 0, .int 0, .int 0]))] := hD
    have hK : va_K D vwCl [(ks2, .boolean)] s := hK
    refine lv_aload_n hx hb dX11_call_16 rfl (lv_at hl 0 rfl) ?_
    refine va_get (D := D) (ci := 11) (v := .ref mc) (C := RX11) (T := TX11) (N := 10) hx hb hg inX11 hown hK hP 0 rfl rfl 5 (by decide) (hg _ w720) (fun _ h9 => h9) rfl dX11_call_17 ?_
    refine g_void (wr := [(h0, .inr (11, [.ref tp, .ref rd, .ref ck, .ref sk, .ref nt, .ref mc, .ref sh, .ref sp, .int 0, .int 0])), (sk, .inr (8, [.ref s0, .ref s1, .ref s2, .ref s3, .ref s4, .ref s5, .ref s6, .ref s7, .ref s8, .ref s9, .ref s10, .ref s11, .int 1, .int 0, .int 0, .int 0])), (s2, .inl (ks2, 40, .inl (upd (fun _ => 0) 0 1))), (nt, .inr (7, [.ref n0, .ref n1, .ref n2, .ref n3, .ref n4, .int 0, .int 0, .int 0, .int 0, .int 0]))]) (tr := [(ks2, .boolean)]) (g_runV (As := []) (rest := []) (wc := [(mc, .inr (5, [.ref sk, .ref nt, .ref m0, .ref m1, .ref m2, .ref sh, .int 0, .int 0, .int 0, .int 0, .int 0, .int 0, .int 0, .int 0, .int 0]))]) (tc := []) (ci := 5) (q0 := 1) hx hb hml hown hg gw_self hP hD hK hS hA hnw hgk [1] [] (by decide) rfl rfl (c_restart0 l D ks H.size mc sk nt m0 m1 m2 sh) w1170 w1044 w1045 w171 w1046 rfl rfl hdV_yX5_restart ⟨Nat.le_of_ble_eq_true rfl, Nat.le_of_ble_eq_true rfl⟩ rfl hl.1 rfl (Nat.le_of_ble_eq_true rfl) dX11_call_20 ⟨Nat.le_of_ble_eq_true rfl, Nat.le_of_ble_eq_true rfl⟩) hP hD hK hS hA [1] [0, 2, 3, 4] [0] rfl rfl (by decide) (by decide) rfl (fun vu21 H locs vhw20 hP hD hK hS => ?_)
    have hP : va_P D vwCl [(h0, .inr (11, [.ref tp, .ref rd, .ref ck, .ref sk, .ref nt, .ref mc, .ref sh, .ref sp, .int 0, .int 0])), (sk, .inr (8, [.ref s0, .ref s1, .ref s2, .ref s3, .ref s4, .ref s5, .ref s6, .ref s7, .ref s8, .ref s9, .ref s10, .ref s11, .int 1, .int 0, .int 0, .int 0])), (s2, .inl (ks2, 40, .inl (upd (fun _ => 0) 0 1))), (nt, .inr (7, [.ref n0, .ref n1, .ref n2, .ref n3, .ref n4, .int 0, .int 0, .int 0, .int 0, .int 0])), (mc, .inr (5, [.ref sk, .ref nt, .ref m0, .ref m1, .ref m2, .ref sh, .int 0, .int 0, .int 0, .int 0, .int 0, .int 0, .int 0, .int 0, .int 0]))] H := hP
    have hD : va_D A [(h0, .inr (11, [.ref tp, .ref rd, .ref ck, .ref sk, .ref nt, .ref mc, .ref sh, .ref sp, .int 0, .int 0])), (sk, .inr (8, [.ref s0, .ref s1, .ref s2, .ref s3, .ref s4, .ref s5, .ref s6, .ref s7, .ref s8, .ref s9, .ref s10, .ref s11, .int 1, .int 0, .int 0, .int 0])), (s2, .inl (ks2, 40, .inl (upd (fun _ => 0) 0 1))), (nt, .inr (7, [.ref n0, .ref n1, .ref n2, .ref n3, .ref n4, .int 0, .int 0, .int 0, .int 0, .int 0])), (mc, .inr (5, [.ref sk, .ref nt, .ref m0, .ref m1, .ref m2, .ref sh, .int 0, .int 0, .int 0, .int 0, .int 0, .int 0, .int 0, .int 0, .int 0]))] := hD
    have hK : va_K D vwCl [(ks2, .boolean)] s := hK
    refine lv_aload_n hx hb dX11_call_23 rfl (lv_at hl 0 rfl) ?_
    refine va_get (D := D) (ci := 11) (v := .ref sk) (C := RX11) (T := TX11) (N := 10) hx hb hg inX11 hown hK hP 0 rfl rfl 3 (by decide) (hg _ w718) (fun _ h9 => h9) rfl dX11_call_24 ?_
    refine lv_iload_n hx hb dX11_call_27 rfl (lv_at hl 1 rfl) ?_
    refine g_int (wr := [(h0, .inr (11, [.ref tp, .ref rd, .ref ck, .ref sk, .ref nt, .ref mc, .ref sh, .ref sp, .int 0, .int 0])), (nt, .inr (7, [.ref n0, .ref n1, .ref n2, .ref n3, .ref n4, .int 0, .int 0, .int 0, .int 0, .int 0])), (mc, .inr (5, [.ref sk, .ref nt, .ref m0, .ref m1, .ref m2, .ref sh, .int 0, .int 0, .int 0, .int 0, .int 0, .int 0, .int 0, .int 0, .int 0]))]) (tr := []) (g_runV (As := [.int p0]) (rest := []) (wc := [(sk, .inr (8, [.ref s0, .ref s1, .ref s2, .ref s3, .ref s4, .ref s5, .ref s6, .ref s7, .ref s8, .ref s9, .ref s10, .ref s11, .int 1, .int 0, .int 0, .int 0])), (s2, .inl (ks2, 40, .inl (upd (fun _ => 0) 0 1)))]) (tc := [(ks2, .boolean)]) (ci := 8) (q0 := 1) hx hb hml hown hg gw_self hP hD hK hS hA hnw hgk [1, 2] [0] (by decide) rfl rfl (c_isOpenN l D ks H.size sk s0 s1 s2 s3 s4 s5 s6 s7 s8 s9 s10 s11 ks2 p0 hp0) w1158 w1159 w1160 w164 w1161 rfl rfl hdV_yX8_isOpen ⟨Nat.le_of_ble_eq_true rfl, Nat.le_of_ble_eq_true rfl⟩ rfl hl.1 rfl (Nat.le_of_ble_eq_true rfl) dX11_call_28 ⟨Nat.le_of_ble_eq_true rfl, Nat.le_of_ble_eq_true rfl⟩) hP hD hK hS hA [1, 2] [0, 3, 4] [] rfl rfl (by decide) (by decide) rfl (fun vr24 vu23 H locs vhw22 hP hD hK hS => ?_)
    have vhw22 : vr24 = 0 := vhw22
    subst vhw22
    have hP : va_P D vwCl [(h0, .inr (11, [.ref tp, .ref rd, .ref ck, .ref sk, .ref nt, .ref mc, .ref sh, .ref sp, .int 0, .int 0])), (nt, .inr (7, [.ref n0, .ref n1, .ref n2, .ref n3, .ref n4, .int 0, .int 0, .int 0, .int 0, .int 0])), (mc, .inr (5, [.ref sk, .ref nt, .ref m0, .ref m1, .ref m2, .ref sh, .int 0, .int 0, .int 0, .int 0, .int 0, .int 0, .int 0, .int 0, .int 0])), (sk, .inr (8, [.ref s0, .ref s1, .ref s2, .ref s3, .ref s4, .ref s5, .ref s6, .ref s7, .ref s8, .ref s9, .ref s10, .ref s11, .int 1, .int 0, .int 0, .int 0])), (s2, .inl (ks2, 40, .inl (upd (fun _ => 0) 0 1)))] H := hP
    have hD : va_D A [(h0, .inr (11, [.ref tp, .ref rd, .ref ck, .ref sk, .ref nt, .ref mc, .ref sh, .ref sp, .int 0, .int 0])), (nt, .inr (7, [.ref n0, .ref n1, .ref n2, .ref n3, .ref n4, .int 0, .int 0, .int 0, .int 0, .int 0])), (mc, .inr (5, [.ref sk, .ref nt, .ref m0, .ref m1, .ref m2, .ref sh, .int 0, .int 0, .int 0, .int 0, .int 0, .int 0, .int 0, .int 0, .int 0])), (sk, .inr (8, [.ref s0, .ref s1, .ref s2, .ref s3, .ref s4, .ref s5, .ref s6, .ref s7, .ref s8, .ref s9, .ref s10, .ref s11, .int 1, .int 0, .int 0, .int 0])), (s2, .inl (ks2, 40, .inl (upd (fun _ => 0) 0 1)))] := hD
    have hK : va_K D vwCl [(ks2, .boolean)] s := hK
    refine lv_if_ne (tgt := 41) hx hb dX11_call_31 (by decide) (fun q => absurd rfl q) (fun _ => ?_)
    refine lv_aload_n hx hb dX11_call_34 rfl (lv_at hl 0 rfl) ?_
    refine lv_iconst (v := 3) hx hb dX11_call_35 (by decide) ?_
    refine lv_iconst (v := 0) hx hb dX11_call_36 (by decide) ?_
    refine g_int (wr := [(nt, .inr (7, [.ref n0, .ref n1, .ref n2, .ref n3, .ref n4, .int 0, .int 0, .int 0, .int 0, .int 0])), (mc, .inr (5, [.ref sk, .ref nt, .ref m0, .ref m1, .ref m2, .ref sh, .int 0, .int 0, .int 0, .int 0, .int 0, .int 0, .int 0, .int 0, .int 0])), (sk, .inr (8, [.ref s0, .ref s1, .ref s2, .ref s3, .ref s4, .ref s5, .ref s6, .ref s7, .ref s8, .ref s9, .ref s10, .ref s11, .int 1, .int 0, .int 0, .int 0])), (s2, .inl (ks2, 40, .inl (upd (fun _ => 0) 0 1)))]) (tr := [(ks2, .boolean)]) (g_runV (As := [.int 3, .int 0]) (rest := []) (wc := [(h0, .inr (11, [.ref tp, .ref rd, .ref ck, .ref sk, .ref nt, .ref mc, .ref sh, .ref sp, .int 0, .int 0]))]) (tc := []) (ci := 11) (q0 := 0) hx hb hml hown hg gw_self hP hD hK hS hA hnw hgk [0] [] (by decide) rfl rfl (c_ends l D ks H.size h0 tp rd ck sk nt mc sh sp 3 0) w1171 w1173 w42 w156 w1174 rfl rfl hdV_yX11_ends ⟨Nat.le_of_ble_eq_true rfl, Nat.le_of_ble_eq_true rfl⟩ rfl hl.1 rfl (Nat.le_of_ble_eq_true rfl) dX11_call_37 ⟨Nat.le_of_ble_eq_true rfl, Nat.le_of_ble_eq_true rfl⟩) hP hD hK hS hA [0] [1, 2, 3, 4] [0] rfl rfl (by decide) (by decide) rfl (fun vr27 vu26 H locs vhw25 hP hD hK hS => ?_)
    have vhw25 : vr27 = 0 := vhw25
    subst vhw25
    have hP : va_P D vwCl [(nt, .inr (7, [.ref n0, .ref n1, .ref n2, .ref n3, .ref n4, .int 0, .int 0, .int 0, .int 0, .int 0])), (mc, .inr (5, [.ref sk, .ref nt, .ref m0, .ref m1, .ref m2, .ref sh, .int 0, .int 0, .int 0, .int 0, .int 0, .int 0, .int 0, .int 0, .int 0])), (sk, .inr (8, [.ref s0, .ref s1, .ref s2, .ref s3, .ref s4, .ref s5, .ref s6, .ref s7, .ref s8, .ref s9, .ref s10, .ref s11, .int 1, .int 0, .int 0, .int 0])), (s2, .inl (ks2, 40, .inl (upd (fun _ => 0) 0 1)))] H := hP
    have hD : va_D A [(nt, .inr (7, [.ref n0, .ref n1, .ref n2, .ref n3, .ref n4, .int 0, .int 0, .int 0, .int 0, .int 0])), (mc, .inr (5, [.ref sk, .ref nt, .ref m0, .ref m1, .ref m2, .ref sh, .int 0, .int 0, .int 0, .int 0, .int 0, .int 0, .int 0, .int 0, .int 0])), (sk, .inr (8, [.ref s0, .ref s1, .ref s2, .ref s3, .ref s4, .ref s5, .ref s6, .ref s7, .ref s8, .ref s9, .ref s10, .ref s11, .int 1, .int 0, .int 0, .int 0])), (s2, .inl (ks2, 40, .inl (upd (fun _ => 0) 0 1)))] := hD
    have hK : va_K D vwCl [(ks2, .boolean)] s := hK
    refine W.widen (k := 0) (n := 0) (Nat.le_of_ble_eq_true rfl) (Nat.le_of_ble_eq_true rfl) ?_
    have hP9 := hP.sub (ws' := []) [] rfl
    have hD9 := hD.sub (ws' := []) [] (by decide) rfl
    have hK9 := hK.sub (tys' := []) [] rfl
    exact W.iret (v := 0) hx hb hr (fun t ht hW => ⟨⟨0, (), rfl, (by first | rfl | trivial | assumption | decide), by rw [ht]; exact hP9, va_K.moved hW.alike hK9, hD9⟩, hS.F ht⟩) hS.2.2 dX11_call_40
abbrev r_c_close : Room := { frames := 2, cells := 0, slots := 0, locals := 46 }
abbrev q_c_close (D : va_G) (h0 : Nat) (tp : Nat) (rd : Nat) (ck : Nat) (sk : Nat) (nt : Nat) (mc : Nat) (sh : Nat) (sp : Nat) (m0 : Nat) (m1 : Nat) (m2 : Nat) (s0 : Nat) (s1 : Nat) (s2 : Nat) (s3 : Nat) (s4 : Nat) (s5 : Nat) (s6 : Nat) (s7 : Nat) (s8 : Nat) (s9 : Nat) (s10 : Nat) (s11 : Nat) (ks2 : ClassId) (ks3 : ClassId) (p0 : Int32) (A : Nat → Prop) : Array Value → State → Outcome → State → Prop := va_Qi (fun (r : Int32) (_ : Unit) => r = if p0 = 0 then 0 else -1) (fun u t => gq D A ((fun (_ : Unit) => []) u) ((fun (_ : Unit) => ([] : List (ClassId × FieldType))) u) t) A
set_option maxHeartbeats 4000000 in
set_option maxRecDepth 100000 in
theorem c_close (l : Launch) (D : va_G) (ks : Nat × Nat × Option Nat) (sz : Nat) (h0 : Nat) (tp : Nat) (rd : Nat) (ck : Nat) (sk : Nat) (nt : Nat) (mc : Nat) (sh : Nat) (sp : Nat) (m0 : Nat) (m1 : Nat) (m2 : Nat) (s0 : Nat) (s1 : Nat) (s2 : Nat) (s3 : Nat) (s4 : Nat) (s5 : Nat) (s6 : Nat) (s7 : Nat) (s8 : Nat) (s9 : Nat) (s10 : Nat) (s11 : Nat) (ks2 : ClassId) (ks3 : ClassId) (p0 : Int32) : Met l yX11_close (Cond.code yX11_close cX11_close 7 (some .int) :: GW) r_c_close (va_Pc [.ref h0, .int p0] (gp D ks [(h0, .inr (11, [.ref tp, .ref rd, .ref ck, .ref sk, .ref nt, .ref mc, .ref sh, .ref sp, .int 0, .int 0])), (mc, .inr (5, [.ref sk, .ref nt, .ref m0, .ref m1, .ref m2, .ref sh, .int 0, .int 0, .int 0, .int 0, .int 0, .int 0, .int 0, .int 0, .int 0])), (sk, .inr (8, [.ref s0, .ref s1, .ref s2, .ref s3, .ref s4, .ref s5, .ref s6, .ref s7, .ref s8, .ref s9, .ref s10, .ref s11, .int 1, .int 0, .int 0, .int 0])), (s2, .inl (ks2, 40, .inl (upd (fun _ => 0) 0 1))), (s3, .inl (ks3, 40, .inl (fun _ => 0)))] [(ks2, .boolean), (ks3, .int)] sz)) (q_c_close D h0 tp rd ck sk nt mc sh sp m0 m1 m2 s0 s1 s2 s3 s4 s5 s6 s7 s8 s9 s10 s11 ks2 ks3 p0 (va_A [(h0, .inr (11, [.ref tp, .ref rd, .ref ck, .ref sk, .ref nt, .ref mc, .ref sh, .ref sp, .int 0, .int 0])), (mc, .inr (5, [.ref sk, .ref nt, .ref m0, .ref m1, .ref m2, .ref sh, .int 0, .int 0, .int 0, .int 0, .int 0, .int 0, .int 0, .int 0, .int 0])), (sk, .inr (8, [.ref s0, .ref s1, .ref s2, .ref s3, .ref s4, .ref s5, .ref s6, .ref s7, .ref s8, .ref s9, .ref s10, .ref s11, .int 1, .int 0, .int 0, .int 0])), (s2, .inl (ks2, 40, .inl (upd (fun _ => 0) 0 1))), (s3, .inl (ks3, 40, .inl (fun _ => 0)))] sz)) 0 0 (va_A [(h0, .inr (11, [.ref tp, .ref rd, .ref ck, .ref sk, .ref nt, .ref mc, .ref sh, .ref sp, .int 0, .int 0])), (mc, .inr (5, [.ref sk, .ref nt, .ref m0, .ref m1, .ref m2, .ref sh, .int 0, .int 0, .int 0, .int 0, .int 0, .int 0, .int 0, .int 0, .int 0])), (sk, .inr (8, [.ref s0, .ref s1, .ref s2, .ref s3, .ref s4, .ref s5, .ref s6, .ref s7, .ref s8, .ref s9, .ref s10, .ref s11, .int 1, .int 0, .int 0, .int 0])), (s2, .inl (ks2, 40, .inl (upd (fun _ => 0) 0 1))), (s3, .inl (ks3, 40, .inl (fun _ => 0)))] sz) := by
  refine g_met (q_c_close D h0 tp rd ck sk nt mc sh sp m0 m1 m2 s0 s1 s2 s3 s4 s5 s6 s7 s8 s9 s10 s11 ks2 ks3 p0) (by decide) (Nat.le_of_ble_eq_true rfl) ?_
  intro p e s m below meth c A ls H locs hx hb hr hml hown hg hlocks hin hnw hgk hP hK hD hS hA hl
  have hown : s.vm.findClass RX11 = some m.cls := hown
  have hl : lv_has ls 7 [(0, .ref h0), (1, .int p0)] := hl
  by_cases hp0 : p0 = 0
  · subst hp0
    refine lv_aload_n hx hb dX11_close_0 rfl (lv_at hl 0 rfl) ?_
    refine va_get (D := D) (ci := 11) (v := .ref mc) (C := RX11) (T := TX11) (N := 10) hx hb hg inX11 hown hK hP 0 rfl rfl 5 (by decide) (hg _ w720) (fun _ h9 => h9) rfl dX11_close_1 ?_
    refine g_void (wr := [(h0, .inr (11, [.ref tp, .ref rd, .ref ck, .ref sk, .ref nt, .ref mc, .ref sh, .ref sp, .int 0, .int 0])), (sk, .inr (8, [.ref s0, .ref s1, .ref s2, .ref s3, .ref s4, .ref s5, .ref s6, .ref s7, .ref s8, .ref s9, .ref s10, .ref s11, .int 1, .int 0, .int 0, .int 0])), (s2, .inl (ks2, 40, .inl (upd (fun _ => 0) 0 1))), (s3, .inl (ks3, 40, .inl (fun _ => 0)))]) (tr := [(ks2, .boolean), (ks3, .int)]) (g_runV (As := []) (rest := []) (wc := [(mc, .inr (5, [.ref sk, .ref nt, .ref m0, .ref m1, .ref m2, .ref sh, .int 0, .int 0, .int 0, .int 0, .int 0, .int 0, .int 0, .int 0, .int 0]))]) (tc := []) (ci := 5) (q0 := 1) hx hb hml hown hg gw_self hP hD hK hS hA hnw hgk [1] [] (by decide) rfl rfl (c_restart0 l D ks H.size mc sk nt m0 m1 m2 sh) w1170 w1044 w1045 w171 w1046 rfl rfl hdV_yX5_restart ⟨Nat.le_of_ble_eq_true rfl, Nat.le_of_ble_eq_true rfl⟩ rfl hl.1 rfl (Nat.le_of_ble_eq_true rfl) dX11_close_4 ⟨Nat.le_of_ble_eq_true rfl, Nat.le_of_ble_eq_true rfl⟩) hP hD hK hS hA [1] [0, 2, 3, 4] [0, 1] rfl rfl (by decide) (by decide) rfl (fun vu2 H locs vhw1 hP hD hK hS => ?_)
    have hP : va_P D vwCl [(h0, .inr (11, [.ref tp, .ref rd, .ref ck, .ref sk, .ref nt, .ref mc, .ref sh, .ref sp, .int 0, .int 0])), (sk, .inr (8, [.ref s0, .ref s1, .ref s2, .ref s3, .ref s4, .ref s5, .ref s6, .ref s7, .ref s8, .ref s9, .ref s10, .ref s11, .int 1, .int 0, .int 0, .int 0])), (s2, .inl (ks2, 40, .inl (upd (fun _ => 0) 0 1))), (s3, .inl (ks3, 40, .inl (fun _ => 0))), (mc, .inr (5, [.ref sk, .ref nt, .ref m0, .ref m1, .ref m2, .ref sh, .int 0, .int 0, .int 0, .int 0, .int 0, .int 0, .int 0, .int 0, .int 0]))] H := hP
    have hD : va_D A [(h0, .inr (11, [.ref tp, .ref rd, .ref ck, .ref sk, .ref nt, .ref mc, .ref sh, .ref sp, .int 0, .int 0])), (sk, .inr (8, [.ref s0, .ref s1, .ref s2, .ref s3, .ref s4, .ref s5, .ref s6, .ref s7, .ref s8, .ref s9, .ref s10, .ref s11, .int 1, .int 0, .int 0, .int 0])), (s2, .inl (ks2, 40, .inl (upd (fun _ => 0) 0 1))), (s3, .inl (ks3, 40, .inl (fun _ => 0))), (mc, .inr (5, [.ref sk, .ref nt, .ref m0, .ref m1, .ref m2, .ref sh, .int 0, .int 0, .int 0, .int 0, .int 0, .int 0, .int 0, .int 0, .int 0]))] := hD
    have hK : va_K D vwCl [(ks2, .boolean), (ks3, .int)] s := hK
    refine lv_aload_n hx hb dX11_close_7 rfl (lv_at hl 0 rfl) ?_
    refine va_get (D := D) (ci := 11) (v := .ref sk) (C := RX11) (T := TX11) (N := 10) hx hb hg inX11 hown hK hP 0 rfl rfl 3 (by decide) (hg _ w718) (fun _ h9 => h9) rfl dX11_close_8 ?_
    refine lv_iload_n hx hb dX11_close_11 rfl (lv_at hl 1 rfl) ?_
    refine g_int (wr := [(h0, .inr (11, [.ref tp, .ref rd, .ref ck, .ref sk, .ref nt, .ref mc, .ref sh, .ref sp, .int 0, .int 0])), (s3, .inl (ks3, 40, .inl (fun _ => 0))), (mc, .inr (5, [.ref sk, .ref nt, .ref m0, .ref m1, .ref m2, .ref sh, .int 0, .int 0, .int 0, .int 0, .int 0, .int 0, .int 0, .int 0, .int 0]))]) (tr := [(ks3, .int)]) (g_runV (As := [.int 0]) (rest := []) (wc := [(sk, .inr (8, [.ref s0, .ref s1, .ref s2, .ref s3, .ref s4, .ref s5, .ref s6, .ref s7, .ref s8, .ref s9, .ref s10, .ref s11, .int 1, .int 0, .int 0, .int 0])), (s2, .inl (ks2, 40, .inl (upd (fun _ => 0) 0 1)))]) (tc := [(ks2, .boolean)]) (ci := 8) (q0 := 1) hx hb hml hown hg gw_self hP hD hK hS hA hnw hgk [1, 2] [0] (by decide) rfl rfl (c_isOpen0 l D ks H.size sk s0 s1 s2 s3 s4 s5 s6 s7 s8 s9 s10 s11 ks2) w1158 w1159 w1160 w164 w1161 rfl rfl hdV_yX8_isOpen ⟨Nat.le_of_ble_eq_true rfl, Nat.le_of_ble_eq_true rfl⟩ rfl hl.1 rfl (Nat.le_of_ble_eq_true rfl) dX11_close_12 ⟨Nat.le_of_ble_eq_true rfl, Nat.le_of_ble_eq_true rfl⟩) hP hD hK hS hA [1, 2] [0, 3, 4] [1] rfl rfl (by decide) (by decide) rfl (fun vr5 vu4 H locs vhw3 hP hD hK hS => ?_)
    have vhw3 : vr5 = 1 := vhw3
    subst vhw3
    have hP : va_P D vwCl [(h0, .inr (11, [.ref tp, .ref rd, .ref ck, .ref sk, .ref nt, .ref mc, .ref sh, .ref sp, .int 0, .int 0])), (s3, .inl (ks3, 40, .inl (fun _ => 0))), (mc, .inr (5, [.ref sk, .ref nt, .ref m0, .ref m1, .ref m2, .ref sh, .int 0, .int 0, .int 0, .int 0, .int 0, .int 0, .int 0, .int 0, .int 0])), (sk, .inr (8, [.ref s0, .ref s1, .ref s2, .ref s3, .ref s4, .ref s5, .ref s6, .ref s7, .ref s8, .ref s9, .ref s10, .ref s11, .int 1, .int 0, .int 0, .int 0])), (s2, .inl (ks2, 40, .inl (upd (fun _ => 0) 0 1)))] H := hP
    have hD : va_D A [(h0, .inr (11, [.ref tp, .ref rd, .ref ck, .ref sk, .ref nt, .ref mc, .ref sh, .ref sp, .int 0, .int 0])), (s3, .inl (ks3, 40, .inl (fun _ => 0))), (mc, .inr (5, [.ref sk, .ref nt, .ref m0, .ref m1, .ref m2, .ref sh, .int 0, .int 0, .int 0, .int 0, .int 0, .int 0, .int 0, .int 0, .int 0])), (sk, .inr (8, [.ref s0, .ref s1, .ref s2, .ref s3, .ref s4, .ref s5, .ref s6, .ref s7, .ref s8, .ref s9, .ref s10, .ref s11, .int 1, .int 0, .int 0, .int 0])), (s2, .inl (ks2, 40, .inl (upd (fun _ => 0) 0 1)))] := hD
    have hK : va_K D vwCl [(ks3, .int), (ks2, .boolean)] s := hK
    refine lv_if_ne (tgt := 25) hx hb dX11_close_15 (by decide) (fun _ => ?_) (fun q => absurd q (by decide))
    refine lv_iconst (v := 0) hx hb dX11_close_25 (by decide) ?_
    refine lv_istore_n (lv' := [(2, .int 0), (0, .ref h0), (1, .int 0)]) hx hb dX11_close_26 rfl hl (by decide) rfl (fun ls hl => ?_)
    refine lv_iconst (v := 0) hx hb dX11_close_27 (by decide) ?_
    refine lv_istore_n (lv' := [(3, .int 0), (2, .int 0), (0, .ref h0), (1, .int 0)]) hx hb dX11_close_28 rfl hl (by decide) rfl (fun ls hl => ?_)
    refine lv_iconst (v := 0) hx hb dX11_close_29 (by decide) ?_
    refine lv_istore (lv' := [(4, .int 0), (3, .int 0), (2, .int 0), (0, .ref h0), (1, .int 0)]) hx hb dX11_close_30 hl (by decide) rfl (fun ls hl => ?_)
    refine lv_iload hx hb dX11_close_32 (lv_at hl 0 rfl) ?_
    refine lv_sipush (v := 340) hx hb dX11_close_34 (by decide) ?_
    refine lv_icmp_ge (tgt := 126) hx hb dX11_close_37 (by decide) (fun q => absurd q (by decide)) (fun _ => ?_)
    refine lv_aload_n hx hb dX11_close_40 rfl (lv_at hl 3 rfl) ?_
    refine va_get (D := D) (ci := 11) (v := .ref sk) (C := RX11) (T := TX11) (N := 10) hx hb hg inX11 hown hK hP 0 rfl rfl 3 (by decide) (hg _ w718) (fun _ h9 => h9) rfl dX11_close_41 ?_
    refine lv_iload_n hx hb dX11_close_44 rfl (lv_at hl 4 rfl) ?_
    refine g_int (wr := [(h0, .inr (11, [.ref tp, .ref rd, .ref ck, .ref sk, .ref nt, .ref mc, .ref sh, .ref sp, .int 0, .int 0])), (s3, .inl (ks3, 40, .inl (fun _ => 0))), (mc, .inr (5, [.ref sk, .ref nt, .ref m0, .ref m1, .ref m2, .ref sh, .int 0, .int 0, .int 0, .int 0, .int 0, .int 0, .int 0, .int 0, .int 0]))]) (tr := [(ks3, .int)]) (g_runV (As := [.int 0]) (rest := []) (wc := [(sk, .inr (8, [.ref s0, .ref s1, .ref s2, .ref s3, .ref s4, .ref s5, .ref s6, .ref s7, .ref s8, .ref s9, .ref s10, .ref s11, .int 1, .int 0, .int 0, .int 0])), (s2, .inl (ks2, 40, .inl (upd (fun _ => 0) 0 1)))]) (tc := [(ks2, .boolean)]) (ci := 8) (q0 := 3) hx hb hml hown hg gw_self hP hD hK hS hA hnw hgk [3, 4] [1] (by decide) rfl rfl (c_isOpen0 l D ks H.size sk s0 s1 s2 s3 s4 s5 s6 s7 s8 s9 s10 s11 ks2) w1158 w1159 w1160 w164 w1161 rfl rfl hdV_yX8_isOpen ⟨Nat.le_of_ble_eq_true rfl, Nat.le_of_ble_eq_true rfl⟩ rfl hl.1 rfl (Nat.le_of_ble_eq_true rfl) dX11_close_45 ⟨Nat.le_of_ble_eq_true rfl, Nat.le_of_ble_eq_true rfl⟩) hP hD hK hS hA [3, 4] [0, 1, 2] [0] rfl rfl (by decide) (by decide) rfl (fun vr8 vu7 H locs vhw6 hP hD hK hS => ?_)
    have vhw6 : vr8 = 1 := vhw6
    subst vhw6
    have hP : va_P D vwCl [(h0, .inr (11, [.ref tp, .ref rd, .ref ck, .ref sk, .ref nt, .ref mc, .ref sh, .ref sp, .int 0, .int 0])), (s3, .inl (ks3, 40, .inl (fun _ => 0))), (mc, .inr (5, [.ref sk, .ref nt, .ref m0, .ref m1, .ref m2, .ref sh, .int 0, .int 0, .int 0, .int 0, .int 0, .int 0, .int 0, .int 0, .int 0])), (sk, .inr (8, [.ref s0, .ref s1, .ref s2, .ref s3, .ref s4, .ref s5, .ref s6, .ref s7, .ref s8, .ref s9, .ref s10, .ref s11, .int 1, .int 0, .int 0, .int 0])), (s2, .inl (ks2, 40, .inl (upd (fun _ => 0) 0 1)))] H := hP
    have hD : va_D A [(h0, .inr (11, [.ref tp, .ref rd, .ref ck, .ref sk, .ref nt, .ref mc, .ref sh, .ref sp, .int 0, .int 0])), (s3, .inl (ks3, 40, .inl (fun _ => 0))), (mc, .inr (5, [.ref sk, .ref nt, .ref m0, .ref m1, .ref m2, .ref sh, .int 0, .int 0, .int 0, .int 0, .int 0, .int 0, .int 0, .int 0, .int 0])), (sk, .inr (8, [.ref s0, .ref s1, .ref s2, .ref s3, .ref s4, .ref s5, .ref s6, .ref s7, .ref s8, .ref s9, .ref s10, .ref s11, .int 1, .int 0, .int 0, .int 0])), (s2, .inl (ks2, 40, .inl (upd (fun _ => 0) 0 1)))] := hD
    have hK : va_K D vwCl [(ks3, .int), (ks2, .boolean)] s := hK
    refine lv_if_eq (tgt := 126) hx hb dX11_close_48 (by decide) (fun q => absurd q (by decide)) (fun _ => ?_)
    refine lv_aload_n hx hb dX11_close_51 rfl (lv_at hl 3 rfl) ?_
    refine va_get (D := D) (ci := 11) (v := .ref sk) (C := RX11) (T := TX11) (N := 10) hx hb hg inX11 hown hK hP 0 rfl rfl 3 (by decide) (hg _ w718) (fun _ h9 => h9) rfl dX11_close_52 ?_
    refine lv_iload_n hx hb dX11_close_55 rfl (lv_at hl 4 rfl) ?_
    refine g_int (wr := [(h0, .inr (11, [.ref tp, .ref rd, .ref ck, .ref sk, .ref nt, .ref mc, .ref sh, .ref sp, .int 0, .int 0])), (s3, .inl (ks3, 40, .inl (fun _ => 0))), (mc, .inr (5, [.ref sk, .ref nt, .ref m0, .ref m1, .ref m2, .ref sh, .int 0, .int 0, .int 0, .int 0, .int 0, .int 0, .int 0, .int 0, .int 0])), (s2, .inl (ks2, 40, .inl (upd (fun _ => 0) 0 1)))]) (tr := [(ks3, .int), (ks2, .boolean)]) (g_runV (As := [.int 0]) (rest := []) (wc := [(sk, .inr (8, [.ref s0, .ref s1, .ref s2, .ref s3, .ref s4, .ref s5, .ref s6, .ref s7, .ref s8, .ref s9, .ref s10, .ref s11, .int 1, .int 0, .int 0, .int 0]))]) (tc := []) (ci := 8) (q0 := 3) hx hb hml hown hg gw_self hP hD hK hS hA hnw hgk [3] [] (by decide) rfl rfl (c_innermost0 l D ks H.size sk s0 s1 s2 s3 s4 s5 s6 s7 s8 s9 s10 s11) w1524 w1525 w1526 w164 w1527 rfl rfl hdV_yX8_innermost ⟨Nat.le_of_ble_eq_true rfl, Nat.le_of_ble_eq_true rfl⟩ rfl hl.1 rfl (Nat.le_of_ble_eq_true rfl) dX11_close_56 ⟨Nat.le_of_ble_eq_true rfl, Nat.le_of_ble_eq_true rfl⟩) hP hD hK hS hA [3] [0, 1, 2, 4] [0, 1] rfl rfl (by decide) (by decide) rfl (fun vr11 vu10 H locs vhw9 hP hD hK hS => ?_)
    have vhw9 : vr11 = 0 := vhw9
    subst vhw9
    have hP : va_P D vwCl [(h0, .inr (11, [.ref tp, .ref rd, .ref ck, .ref sk, .ref nt, .ref mc, .ref sh, .ref sp, .int 0, .int 0])), (s3, .inl (ks3, 40, .inl (fun _ => 0))), (mc, .inr (5, [.ref sk, .ref nt, .ref m0, .ref m1, .ref m2, .ref sh, .int 0, .int 0, .int 0, .int 0, .int 0, .int 0, .int 0, .int 0, .int 0])), (s2, .inl (ks2, 40, .inl (upd (fun _ => 0) 0 1))), (sk, .inr (8, [.ref s0, .ref s1, .ref s2, .ref s3, .ref s4, .ref s5, .ref s6, .ref s7, .ref s8, .ref s9, .ref s10, .ref s11, .int 1, .int 0, .int 0, .int 0]))] H := hP
    have hD : va_D A [(h0, .inr (11, [.ref tp, .ref rd, .ref ck, .ref sk, .ref nt, .ref mc, .ref sh, .ref sp, .int 0, .int 0])), (s3, .inl (ks3, 40, .inl (fun _ => 0))), (mc, .inr (5, [.ref sk, .ref nt, .ref m0, .ref m1, .ref m2, .ref sh, .int 0, .int 0, .int 0, .int 0, .int 0, .int 0, .int 0, .int 0, .int 0])), (s2, .inl (ks2, 40, .inl (upd (fun _ => 0) 0 1))), (sk, .inr (8, [.ref s0, .ref s1, .ref s2, .ref s3, .ref s4, .ref s5, .ref s6, .ref s7, .ref s8, .ref s9, .ref s10, .ref s11, .int 1, .int 0, .int 0, .int 0]))] := hD
    have hK : va_K D vwCl [(ks3, .int), (ks2, .boolean)] s := hK
    refine lv_istore (lv' := [(5, .int 0), (4, .int 0), (3, .int 0), (2, .int 0), (0, .ref h0), (1, .int 0)]) hx hb dX11_close_59 hl (by decide) rfl (fun ls hl => ?_)
    refine lv_aload_n hx hb dX11_close_61 rfl (lv_at hl 4 rfl) ?_
    refine va_get (D := D) (ci := 11) (v := .ref sk) (C := RX11) (T := TX11) (N := 10) hx hb hg inX11 hown hK hP 0 rfl rfl 3 (by decide) (hg _ w718) (fun _ h9 => h9) rfl dX11_close_62 ?_
    refine lv_iload hx hb dX11_close_65 (lv_at hl 0 rfl) ?_
    refine g_int (wr := [(h0, .inr (11, [.ref tp, .ref rd, .ref ck, .ref sk, .ref nt, .ref mc, .ref sh, .ref sp, .int 0, .int 0])), (s3, .inl (ks3, 40, .inl (fun _ => 0))), (mc, .inr (5, [.ref sk, .ref nt, .ref m0, .ref m1, .ref m2, .ref sh, .int 0, .int 0, .int 0, .int 0, .int 0, .int 0, .int 0, .int 0, .int 0])), (s2, .inl (ks2, 40, .inl (upd (fun _ => 0) 0 1)))]) (tr := [(ks3, .int), (ks2, .boolean)]) (g_runV (As := [.int 0]) (rest := []) (wc := [(sk, .inr (8, [.ref s0, .ref s1, .ref s2, .ref s3, .ref s4, .ref s5, .ref s6, .ref s7, .ref s8, .ref s9, .ref s10, .ref s11, .int 1, .int 0, .int 0, .int 0]))]) (tc := []) (ci := 8) (q0 := 4) hx hb hml hown hg gw_self hP hD hK hS hA hnw hgk [4] [] (by decide) rfl rfl (c_latestMade0 l D ks H.size sk s0 s1 s2 s3 s4 s5 s6 s7 s8 s9 s10 s11 0) w1532 w1533 w1534 w164 w1535 rfl rfl hdV_yX8_latestMade ⟨Nat.le_of_ble_eq_true rfl, Nat.le_of_ble_eq_true rfl⟩ rfl hl.1 rfl (Nat.le_of_ble_eq_true rfl) dX11_close_67 ⟨Nat.le_of_ble_eq_true rfl, Nat.le_of_ble_eq_true rfl⟩) hP hD hK hS hA [4] [0, 1, 2, 3] [0, 1] rfl rfl (by decide) (by decide) rfl (fun vr14 vu13 H locs vhw12 hP hD hK hS => ?_)
    have vhw12 : vr14 = -1 := vhw12
    subst vhw12
    have hP : va_P D vwCl [(h0, .inr (11, [.ref tp, .ref rd, .ref ck, .ref sk, .ref nt, .ref mc, .ref sh, .ref sp, .int 0, .int 0])), (s3, .inl (ks3, 40, .inl (fun _ => 0))), (mc, .inr (5, [.ref sk, .ref nt, .ref m0, .ref m1, .ref m2, .ref sh, .int 0, .int 0, .int 0, .int 0, .int 0, .int 0, .int 0, .int 0, .int 0])), (s2, .inl (ks2, 40, .inl (upd (fun _ => 0) 0 1))), (sk, .inr (8, [.ref s0, .ref s1, .ref s2, .ref s3, .ref s4, .ref s5, .ref s6, .ref s7, .ref s8, .ref s9, .ref s10, .ref s11, .int 1, .int 0, .int 0, .int 0]))] H := hP
    have hD : va_D A [(h0, .inr (11, [.ref tp, .ref rd, .ref ck, .ref sk, .ref nt, .ref mc, .ref sh, .ref sp, .int 0, .int 0])), (s3, .inl (ks3, 40, .inl (fun _ => 0))), (mc, .inr (5, [.ref sk, .ref nt, .ref m0, .ref m1, .ref m2, .ref sh, .int 0, .int 0, .int 0, .int 0, .int 0, .int 0, .int 0, .int 0, .int 0])), (s2, .inl (ks2, 40, .inl (upd (fun _ => 0) 0 1))), (sk, .inr (8, [.ref s0, .ref s1, .ref s2, .ref s3, .ref s4, .ref s5, .ref s6, .ref s7, .ref s8, .ref s9, .ref s10, .ref s11, .int 1, .int 0, .int 0, .int 0]))] := hD
    have hK : va_K D vwCl [(ks3, .int), (ks2, .boolean)] s := hK
    refine lv_istore (lv' := [(6, .int (-1)), (5, .int 0), (4, .int 0), (3, .int 0), (2, .int 0), (0, .ref h0), (1, .int 0)]) hx hb dX11_close_70 hl (by decide) rfl (fun ls hl => ?_)
    refine lv_iload hx hb dX11_close_72 (lv_at hl 0 rfl) ?_
    refine lv_iconst (v := (-1)) hx hb dX11_close_74 (by decide) ?_
    refine lv_icmp_eq (tgt := 111) hx hb dX11_close_75 (by decide) (fun _ => ?_) (fun q => absurd (by decide) q)
    refine lv_aload_n hx hb dX11_close_111 rfl (lv_at hl 5 rfl) ?_
    refine va_get (D := D) (ci := 11) (v := .ref sk) (C := RX11) (T := TX11) (N := 10) hx hb hg inX11 hown hK hP 0 rfl rfl 3 (by decide) (hg _ w718) (fun _ h9 => h9) rfl dX11_close_112 ?_
    refine lv_iload hx hb dX11_close_115 (lv_at hl 1 rfl) ?_
    refine g_void (wr := [(h0, .inr (11, [.ref tp, .ref rd, .ref ck, .ref sk, .ref nt, .ref mc, .ref sh, .ref sp, .int 0, .int 0])), (mc, .inr (5, [.ref sk, .ref nt, .ref m0, .ref m1, .ref m2, .ref sh, .int 0, .int 0, .int 0, .int 0, .int 0, .int 0, .int 0, .int 0, .int 0]))]) (tr := []) (g_runV (As := [.int 0]) (rest := []) (wc := [(sk, .inr (8, [.ref s0, .ref s1, .ref s2, .ref s3, .ref s4, .ref s5, .ref s6, .ref s7, .ref s8, .ref s9, .ref s10, .ref s11, .int 1, .int 0, .int 0, .int 0])), (s2, .inl (ks2, 40, .inl (upd (fun _ => 0) 0 1))), (s3, .inl (ks3, 40, .inl (fun _ => 0)))]) (tc := [(ks2, .boolean), (ks3, .int)]) (ci := 8) (q0 := 4) hx hb hml hown hg gw_self hP hD hK hS hA hnw hgk [4, 3, 1] [1, 0] (by decide) rfl rfl (c_shut0 l D ks H.size sk s0 s1 s2 s3 s4 s5 s6 s7 s8 s9 s10 s11 ks2 ks3) w1541 w1028 w1029 w164 w1030 rfl rfl hdV_yX8_shut ⟨Nat.le_of_ble_eq_true rfl, Nat.le_of_ble_eq_true rfl⟩ rfl hl.1 rfl (Nat.le_of_ble_eq_true rfl) dX11_close_117 ⟨Nat.le_of_ble_eq_true rfl, Nat.le_of_ble_eq_true rfl⟩) hP hD hK hS hA [4, 3, 1] [0, 2] [] rfl rfl (by decide) (by decide) rfl (fun vu17 H locs vhw16 hP hD hK hS => ?_)
    obtain ⟨vgo_15, rfl⟩ : ∃ z, z = vu17 := ⟨_, rfl⟩
    have vhw16 : vgo_15 0 = 0 := vhw16
    have hP : va_P D vwCl [(h0, .inr (11, [.ref tp, .ref rd, .ref ck, .ref sk, .ref nt, .ref mc, .ref sh, .ref sp, .int 0, .int 0])), (mc, .inr (5, [.ref sk, .ref nt, .ref m0, .ref m1, .ref m2, .ref sh, .int 0, .int 0, .int 0, .int 0, .int 0, .int 0, .int 0, .int 0, .int 0])), (sk, .inr (8, [.ref s0, .ref s1, .ref s2, .ref s3, .ref s4, .ref s5, .ref s6, .ref s7, .ref s8, .ref s9, .ref s10, .ref s11, .int 1, .int 0, .int 0, .int 0])), (s2, .inl (ks2, 40, .inl (vgo_15)))] H := hP
    have hD : va_D A [(h0, .inr (11, [.ref tp, .ref rd, .ref ck, .ref sk, .ref nt, .ref mc, .ref sh, .ref sp, .int 0, .int 0])), (mc, .inr (5, [.ref sk, .ref nt, .ref m0, .ref m1, .ref m2, .ref sh, .int 0, .int 0, .int 0, .int 0, .int 0, .int 0, .int 0, .int 0, .int 0])), (sk, .inr (8, [.ref s0, .ref s1, .ref s2, .ref s3, .ref s4, .ref s5, .ref s6, .ref s7, .ref s8, .ref s9, .ref s10, .ref s11, .int 1, .int 0, .int 0, .int 0])), (s2, .inl (ks2, 40, .inl (vgo_15)))] := hD
    have hK : va_K D vwCl [(ks2, .boolean)] s := hK
    refine lv_iinc (v := 1) (lv' := [(4, .int 1), (6, .int (-1)), (5, .int 0), (3, .int 0), (2, .int 0), (0, .ref h0), (1, .int 0)]) hx hb dX11_close_120 hl (k := 2) rfl (by decide) (by decide) rfl (fun ls hl => ?_)
    refine lv_goto (tgt := 32) hx hb dX11_close_123 (by decide) ?_
    refine lv_iload hx hb dX11_close_32 (lv_at hl 0 rfl) ?_
    refine lv_sipush (v := 340) hx hb dX11_close_34 (by decide) ?_
    refine lv_icmp_ge (tgt := 126) hx hb dX11_close_37 (by decide) (fun q => absurd q (by decide)) (fun _ => ?_)
    refine lv_aload_n hx hb dX11_close_40 rfl (lv_at hl 5 rfl) ?_
    refine va_get (D := D) (ci := 11) (v := .ref sk) (C := RX11) (T := TX11) (N := 10) hx hb hg inX11 hown hK hP 0 rfl rfl 3 (by decide) (hg _ w718) (fun _ h9 => h9) rfl dX11_close_41 ?_
    refine lv_iload_n hx hb dX11_close_44 rfl (lv_at hl 6 rfl) ?_
    refine g_int (wr := [(h0, .inr (11, [.ref tp, .ref rd, .ref ck, .ref sk, .ref nt, .ref mc, .ref sh, .ref sp, .int 0, .int 0])), (mc, .inr (5, [.ref sk, .ref nt, .ref m0, .ref m1, .ref m2, .ref sh, .int 0, .int 0, .int 0, .int 0, .int 0, .int 0, .int 0, .int 0, .int 0]))]) (tr := []) (g_runV (As := [.int 0]) (rest := []) (wc := [(sk, .inr (8, [.ref s0, .ref s1, .ref s2, .ref s3, .ref s4, .ref s5, .ref s6, .ref s7, .ref s8, .ref s9, .ref s10, .ref s11, .int 1, .int 0, .int 0, .int 0])), (s2, .inl (ks2, 40, .inl (vgo_15)))]) (tc := [(ks2, .boolean)]) (ci := 8) (q0 := 2) hx hb hml hown hg gw_self hP hD hK hS hA hnw hgk [2, 3] [0] (by decide) rfl rfl (c_isOpen_shut l D ks H.size sk s0 s1 s2 s3 s4 s5 s6 s7 s8 s9 s10 s11 ks2 vgo_15 vhw16) w1158 w1159 w1160 w164 w1161 rfl rfl hdV_yX8_isOpen ⟨Nat.le_of_ble_eq_true rfl, Nat.le_of_ble_eq_true rfl⟩ rfl hl.1 rfl (Nat.le_of_ble_eq_true rfl) dX11_close_45 ⟨Nat.le_of_ble_eq_true rfl, Nat.le_of_ble_eq_true rfl⟩) hP hD hK hS hA [2, 3] [0, 1] [] rfl rfl (by decide) (by decide) rfl (fun vr20 vu19 H locs vhw18 hP hD hK hS => ?_)
    have vhw18 : vr20 = 0 := vhw18
    subst vhw18
    have hP : va_P D vwCl [(h0, .inr (11, [.ref tp, .ref rd, .ref ck, .ref sk, .ref nt, .ref mc, .ref sh, .ref sp, .int 0, .int 0])), (mc, .inr (5, [.ref sk, .ref nt, .ref m0, .ref m1, .ref m2, .ref sh, .int 0, .int 0, .int 0, .int 0, .int 0, .int 0, .int 0, .int 0, .int 0])), (sk, .inr (8, [.ref s0, .ref s1, .ref s2, .ref s3, .ref s4, .ref s5, .ref s6, .ref s7, .ref s8, .ref s9, .ref s10, .ref s11, .int 1, .int 0, .int 0, .int 0])), (s2, .inl (ks2, 40, .inl (vgo_15)))] H := hP
    have hD : va_D A [(h0, .inr (11, [.ref tp, .ref rd, .ref ck, .ref sk, .ref nt, .ref mc, .ref sh, .ref sp, .int 0, .int 0])), (mc, .inr (5, [.ref sk, .ref nt, .ref m0, .ref m1, .ref m2, .ref sh, .int 0, .int 0, .int 0, .int 0, .int 0, .int 0, .int 0, .int 0, .int 0])), (sk, .inr (8, [.ref s0, .ref s1, .ref s2, .ref s3, .ref s4, .ref s5, .ref s6, .ref s7, .ref s8, .ref s9, .ref s10, .ref s11, .int 1, .int 0, .int 0, .int 0])), (s2, .inl (ks2, 40, .inl (vgo_15)))] := hD
    have hK : va_K D vwCl [(ks2, .boolean)] s := hK
    refine lv_if_eq (tgt := 126) hx hb dX11_close_48 (by decide) (fun _ => ?_) (fun q => absurd (by decide) q)
    refine lv_aload_n hx hb dX11_close_126 rfl (lv_at hl 5 rfl) ?_
    refine va_get (D := D) (ci := 11) (v := .ref sk) (C := RX11) (T := TX11) (N := 10) hx hb hg inX11 hown hK hP 0 rfl rfl 3 (by decide) (hg _ w718) (fun _ h9 => h9) rfl dX11_close_127 ?_
    refine g_void (wr := [(h0, .inr (11, [.ref tp, .ref rd, .ref ck, .ref sk, .ref nt, .ref mc, .ref sh, .ref sp, .int 0, .int 0])), (mc, .inr (5, [.ref sk, .ref nt, .ref m0, .ref m1, .ref m2, .ref sh, .int 0, .int 0, .int 0, .int 0, .int 0, .int 0, .int 0, .int 0, .int 0]))]) (tr := []) (g_runV (As := []) (rest := []) (wc := [(sk, .inr (8, [.ref s0, .ref s1, .ref s2, .ref s3, .ref s4, .ref s5, .ref s6, .ref s7, .ref s8, .ref s9, .ref s10, .ref s11, .int 1, .int 0, .int 0, .int 0])), (s2, .inl (ks2, 40, .inl (vgo_15)))]) (tc := [(ks2, .boolean)]) (ci := 8) (q0 := 2) hx hb hml hown hg gw_self hP hD hK hS hA hnw hgk [2, 3] [0] (by decide) rfl rfl (c_reopen l D ks H.size sk s0 s1 s2 s3 s4 s5 s6 s7 s8 s9 s10 s11 ks2 vgo_15) w1542 w1543 w1544 w164 w1545 rfl rfl hdV_yX8_reopenHouse ⟨Nat.le_of_ble_eq_true rfl, Nat.le_of_ble_eq_true rfl⟩ rfl hl.1 rfl (Nat.le_of_ble_eq_true rfl) dX11_close_130 ⟨Nat.le_of_ble_eq_true rfl, Nat.le_of_ble_eq_true rfl⟩) hP hD hK hS hA [2, 3] [0, 1] [] rfl rfl (by decide) (by decide) rfl (fun vu22 H locs vhw21 hP hD hK hS => ?_)
    have hP : va_P D vwCl [(h0, .inr (11, [.ref tp, .ref rd, .ref ck, .ref sk, .ref nt, .ref mc, .ref sh, .ref sp, .int 0, .int 0])), (mc, .inr (5, [.ref sk, .ref nt, .ref m0, .ref m1, .ref m2, .ref sh, .int 0, .int 0, .int 0, .int 0, .int 0, .int 0, .int 0, .int 0, .int 0]))] H := hP
    have hD : va_D A [(h0, .inr (11, [.ref tp, .ref rd, .ref ck, .ref sk, .ref nt, .ref mc, .ref sh, .ref sp, .int 0, .int 0])), (mc, .inr (5, [.ref sk, .ref nt, .ref m0, .ref m1, .ref m2, .ref sh, .int 0, .int 0, .int 0, .int 0, .int 0, .int 0, .int 0, .int 0, .int 0]))] := hD
    have hK : va_K D vwCl [] s := hK
    refine lv_iload_n hx hb dX11_close_133 rfl (lv_at hl 4 rfl) ?_
    refine lv_if_eq (tgt := 147) hx hb dX11_close_134 (by decide) (fun _ => ?_) (fun q => absurd (by decide) q)
    refine lv_aload_n hx hb dX11_close_147 rfl (lv_at hl 5 rfl) ?_
    refine lv_iconst (v := 0) hx hb dX11_close_148 (by decide) ?_
    refine lv_iload_n hx hb dX11_close_149 rfl (lv_at hl 3 rfl) ?_
    refine g_int (wr := [(mc, .inr (5, [.ref sk, .ref nt, .ref m0, .ref m1, .ref m2, .ref sh, .int 0, .int 0, .int 0, .int 0, .int 0, .int 0, .int 0, .int 0, .int 0]))]) (tr := []) (g_runV (As := [.int 0, .int 0]) (rest := []) (wc := [(h0, .inr (11, [.ref tp, .ref rd, .ref ck, .ref sk, .ref nt, .ref mc, .ref sh, .ref sp, .int 0, .int 0]))]) (tc := []) (ci := 11) (q0 := 0) hx hb hml hown hg gw_self hP hD hK hS hA hnw hgk [0] [] (by decide) rfl rfl (c_ends l D ks H.size h0 tp rd ck sk nt mc sh sp 0 0) w1171 w1173 w42 w156 w1174 rfl rfl hdV_yX11_ends ⟨Nat.le_of_ble_eq_true rfl, Nat.le_of_ble_eq_true rfl⟩ rfl hl.1 rfl (Nat.le_of_ble_eq_true rfl) dX11_close_150 ⟨Nat.le_of_ble_eq_true rfl, Nat.le_of_ble_eq_true rfl⟩) hP hD hK hS hA [0] [1] [] rfl rfl (by decide) (by decide) rfl (fun vr25 vu24 H locs vhw23 hP hD hK hS => ?_)
    have vhw23 : vr25 = 0 := vhw23
    subst vhw23
    have hP : va_P D vwCl [(mc, .inr (5, [.ref sk, .ref nt, .ref m0, .ref m1, .ref m2, .ref sh, .int 0, .int 0, .int 0, .int 0, .int 0, .int 0, .int 0, .int 0, .int 0]))] H := hP
    have hD : va_D A [(mc, .inr (5, [.ref sk, .ref nt, .ref m0, .ref m1, .ref m2, .ref sh, .int 0, .int 0, .int 0, .int 0, .int 0, .int 0, .int 0, .int 0, .int 0]))] := hD
    have hK : va_K D vwCl [] s := hK
    refine W.widen (k := 0) (n := 0) (Nat.le_of_ble_eq_true rfl) (Nat.le_of_ble_eq_true rfl) ?_
    have hP9 := hP.sub (ws' := []) [] rfl
    have hD9 := hD.sub (ws' := []) [] (by decide) rfl
    have hK9 := hK.sub (tys' := []) [] rfl
    exact W.iret (v := 0) hx hb hr (fun t ht hW => ⟨⟨0, (), rfl, (by decide), by rw [ht]; exact hP9, va_K.moved hW.alike hK9, hD9⟩, hS.F ht⟩) hS.2.2 dX11_close_153
  · skip
    refine lv_aload_n hx hb dX11_close_0 rfl (lv_at hl 0 rfl) ?_
    refine va_get (D := D) (ci := 11) (v := .ref mc) (C := RX11) (T := TX11) (N := 10) hx hb hg inX11 hown hK hP 0 rfl rfl 5 (by decide) (hg _ w720) (fun _ h9 => h9) rfl dX11_close_1 ?_
    refine g_void (wr := [(h0, .inr (11, [.ref tp, .ref rd, .ref ck, .ref sk, .ref nt, .ref mc, .ref sh, .ref sp, .int 0, .int 0])), (sk, .inr (8, [.ref s0, .ref s1, .ref s2, .ref s3, .ref s4, .ref s5, .ref s6, .ref s7, .ref s8, .ref s9, .ref s10, .ref s11, .int 1, .int 0, .int 0, .int 0])), (s2, .inl (ks2, 40, .inl (upd (fun _ => 0) 0 1))), (s3, .inl (ks3, 40, .inl (fun _ => 0)))]) (tr := [(ks2, .boolean), (ks3, .int)]) (g_runV (As := []) (rest := []) (wc := [(mc, .inr (5, [.ref sk, .ref nt, .ref m0, .ref m1, .ref m2, .ref sh, .int 0, .int 0, .int 0, .int 0, .int 0, .int 0, .int 0, .int 0, .int 0]))]) (tc := []) (ci := 5) (q0 := 1) hx hb hml hown hg gw_self hP hD hK hS hA hnw hgk [1] [] (by decide) rfl rfl (c_restart0 l D ks H.size mc sk nt m0 m1 m2 sh) w1170 w1044 w1045 w171 w1046 rfl rfl hdV_yX5_restart ⟨Nat.le_of_ble_eq_true rfl, Nat.le_of_ble_eq_true rfl⟩ rfl hl.1 rfl (Nat.le_of_ble_eq_true rfl) dX11_close_4 ⟨Nat.le_of_ble_eq_true rfl, Nat.le_of_ble_eq_true rfl⟩) hP hD hK hS hA [1] [0, 2, 3, 4] [0, 1] rfl rfl (by decide) (by decide) rfl (fun vu27 H locs vhw26 hP hD hK hS => ?_)
    have hP : va_P D vwCl [(h0, .inr (11, [.ref tp, .ref rd, .ref ck, .ref sk, .ref nt, .ref mc, .ref sh, .ref sp, .int 0, .int 0])), (sk, .inr (8, [.ref s0, .ref s1, .ref s2, .ref s3, .ref s4, .ref s5, .ref s6, .ref s7, .ref s8, .ref s9, .ref s10, .ref s11, .int 1, .int 0, .int 0, .int 0])), (s2, .inl (ks2, 40, .inl (upd (fun _ => 0) 0 1))), (s3, .inl (ks3, 40, .inl (fun _ => 0))), (mc, .inr (5, [.ref sk, .ref nt, .ref m0, .ref m1, .ref m2, .ref sh, .int 0, .int 0, .int 0, .int 0, .int 0, .int 0, .int 0, .int 0, .int 0]))] H := hP
    have hD : va_D A [(h0, .inr (11, [.ref tp, .ref rd, .ref ck, .ref sk, .ref nt, .ref mc, .ref sh, .ref sp, .int 0, .int 0])), (sk, .inr (8, [.ref s0, .ref s1, .ref s2, .ref s3, .ref s4, .ref s5, .ref s6, .ref s7, .ref s8, .ref s9, .ref s10, .ref s11, .int 1, .int 0, .int 0, .int 0])), (s2, .inl (ks2, 40, .inl (upd (fun _ => 0) 0 1))), (s3, .inl (ks3, 40, .inl (fun _ => 0))), (mc, .inr (5, [.ref sk, .ref nt, .ref m0, .ref m1, .ref m2, .ref sh, .int 0, .int 0, .int 0, .int 0, .int 0, .int 0, .int 0, .int 0, .int 0]))] := hD
    have hK : va_K D vwCl [(ks2, .boolean), (ks3, .int)] s := hK
    refine lv_aload_n hx hb dX11_close_7 rfl (lv_at hl 0 rfl) ?_
    refine va_get (D := D) (ci := 11) (v := .ref sk) (C := RX11) (T := TX11) (N := 10) hx hb hg inX11 hown hK hP 0 rfl rfl 3 (by decide) (hg _ w718) (fun _ h9 => h9) rfl dX11_close_8 ?_
    refine lv_iload_n hx hb dX11_close_11 rfl (lv_at hl 1 rfl) ?_
    refine g_int (wr := [(h0, .inr (11, [.ref tp, .ref rd, .ref ck, .ref sk, .ref nt, .ref mc, .ref sh, .ref sp, .int 0, .int 0])), (s3, .inl (ks3, 40, .inl (fun _ => 0))), (mc, .inr (5, [.ref sk, .ref nt, .ref m0, .ref m1, .ref m2, .ref sh, .int 0, .int 0, .int 0, .int 0, .int 0, .int 0, .int 0, .int 0, .int 0]))]) (tr := [(ks3, .int)]) (g_runV (As := [.int p0]) (rest := []) (wc := [(sk, .inr (8, [.ref s0, .ref s1, .ref s2, .ref s3, .ref s4, .ref s5, .ref s6, .ref s7, .ref s8, .ref s9, .ref s10, .ref s11, .int 1, .int 0, .int 0, .int 0])), (s2, .inl (ks2, 40, .inl (upd (fun _ => 0) 0 1)))]) (tc := [(ks2, .boolean)]) (ci := 8) (q0 := 1) hx hb hml hown hg gw_self hP hD hK hS hA hnw hgk [1, 2] [0] (by decide) rfl rfl (c_isOpenN l D ks H.size sk s0 s1 s2 s3 s4 s5 s6 s7 s8 s9 s10 s11 ks2 p0 hp0) w1158 w1159 w1160 w164 w1161 rfl rfl hdV_yX8_isOpen ⟨Nat.le_of_ble_eq_true rfl, Nat.le_of_ble_eq_true rfl⟩ rfl hl.1 rfl (Nat.le_of_ble_eq_true rfl) dX11_close_12 ⟨Nat.le_of_ble_eq_true rfl, Nat.le_of_ble_eq_true rfl⟩) hP hD hK hS hA [1, 2] [0, 3, 4] [1] rfl rfl (by decide) (by decide) rfl (fun vr30 vu29 H locs vhw28 hP hD hK hS => ?_)
    have vhw28 : vr30 = 0 := vhw28
    subst vhw28
    have hP : va_P D vwCl [(h0, .inr (11, [.ref tp, .ref rd, .ref ck, .ref sk, .ref nt, .ref mc, .ref sh, .ref sp, .int 0, .int 0])), (s3, .inl (ks3, 40, .inl (fun _ => 0))), (mc, .inr (5, [.ref sk, .ref nt, .ref m0, .ref m1, .ref m2, .ref sh, .int 0, .int 0, .int 0, .int 0, .int 0, .int 0, .int 0, .int 0, .int 0])), (sk, .inr (8, [.ref s0, .ref s1, .ref s2, .ref s3, .ref s4, .ref s5, .ref s6, .ref s7, .ref s8, .ref s9, .ref s10, .ref s11, .int 1, .int 0, .int 0, .int 0])), (s2, .inl (ks2, 40, .inl (upd (fun _ => 0) 0 1)))] H := hP
    have hD : va_D A [(h0, .inr (11, [.ref tp, .ref rd, .ref ck, .ref sk, .ref nt, .ref mc, .ref sh, .ref sp, .int 0, .int 0])), (s3, .inl (ks3, 40, .inl (fun _ => 0))), (mc, .inr (5, [.ref sk, .ref nt, .ref m0, .ref m1, .ref m2, .ref sh, .int 0, .int 0, .int 0, .int 0, .int 0, .int 0, .int 0, .int 0, .int 0])), (sk, .inr (8, [.ref s0, .ref s1, .ref s2, .ref s3, .ref s4, .ref s5, .ref s6, .ref s7, .ref s8, .ref s9, .ref s10, .ref s11, .int 1, .int 0, .int 0, .int 0])), (s2, .inl (ks2, 40, .inl (upd (fun _ => 0) 0 1)))] := hD
    have hK : va_K D vwCl [(ks3, .int), (ks2, .boolean)] s := hK
    refine lv_if_ne (tgt := 25) hx hb dX11_close_15 (by decide) (fun q => absurd rfl q) (fun _ => ?_)
    refine lv_aload_n hx hb dX11_close_18 rfl (lv_at hl 0 rfl) ?_
    refine lv_iconst (v := 3) hx hb dX11_close_19 (by decide) ?_
    refine lv_iconst (v := (-1)) hx hb dX11_close_20 (by decide) ?_
    refine g_int (wr := [(s3, .inl (ks3, 40, .inl (fun _ => 0))), (mc, .inr (5, [.ref sk, .ref nt, .ref m0, .ref m1, .ref m2, .ref sh, .int 0, .int 0, .int 0, .int 0, .int 0, .int 0, .int 0, .int 0, .int 0])), (sk, .inr (8, [.ref s0, .ref s1, .ref s2, .ref s3, .ref s4, .ref s5, .ref s6, .ref s7, .ref s8, .ref s9, .ref s10, .ref s11, .int 1, .int 0, .int 0, .int 0])), (s2, .inl (ks2, 40, .inl (upd (fun _ => 0) 0 1)))]) (tr := [(ks3, .int), (ks2, .boolean)]) (g_runV (As := [.int 3, .int (-1)]) (rest := []) (wc := [(h0, .inr (11, [.ref tp, .ref rd, .ref ck, .ref sk, .ref nt, .ref mc, .ref sh, .ref sp, .int 0, .int 0]))]) (tc := []) (ci := 11) (q0 := 0) hx hb hml hown hg gw_self hP hD hK hS hA hnw hgk [0] [] (by decide) rfl rfl (c_ends l D ks H.size h0 tp rd ck sk nt mc sh sp 3 (-1)) w1171 w1173 w42 w156 w1174 rfl rfl hdV_yX11_ends ⟨Nat.le_of_ble_eq_true rfl, Nat.le_of_ble_eq_true rfl⟩ rfl hl.1 rfl (Nat.le_of_ble_eq_true rfl) dX11_close_21 ⟨Nat.le_of_ble_eq_true rfl, Nat.le_of_ble_eq_true rfl⟩) hP hD hK hS hA [0] [1, 2, 3, 4] [0, 1] rfl rfl (by decide) (by decide) rfl (fun vr33 vu32 H locs vhw31 hP hD hK hS => ?_)
    have vhw31 : vr33 = (-1) := vhw31
    subst vhw31
    have hP : va_P D vwCl [(s3, .inl (ks3, 40, .inl (fun _ => 0))), (mc, .inr (5, [.ref sk, .ref nt, .ref m0, .ref m1, .ref m2, .ref sh, .int 0, .int 0, .int 0, .int 0, .int 0, .int 0, .int 0, .int 0, .int 0])), (sk, .inr (8, [.ref s0, .ref s1, .ref s2, .ref s3, .ref s4, .ref s5, .ref s6, .ref s7, .ref s8, .ref s9, .ref s10, .ref s11, .int 1, .int 0, .int 0, .int 0])), (s2, .inl (ks2, 40, .inl (upd (fun _ => 0) 0 1)))] H := hP
    have hD : va_D A [(s3, .inl (ks3, 40, .inl (fun _ => 0))), (mc, .inr (5, [.ref sk, .ref nt, .ref m0, .ref m1, .ref m2, .ref sh, .int 0, .int 0, .int 0, .int 0, .int 0, .int 0, .int 0, .int 0, .int 0])), (sk, .inr (8, [.ref s0, .ref s1, .ref s2, .ref s3, .ref s4, .ref s5, .ref s6, .ref s7, .ref s8, .ref s9, .ref s10, .ref s11, .int 1, .int 0, .int 0, .int 0])), (s2, .inl (ks2, 40, .inl (upd (fun _ => 0) 0 1)))] := hD
    have hK : va_K D vwCl [(ks3, .int), (ks2, .boolean)] s := hK
    refine W.widen (k := 0) (n := 0) (Nat.le_of_ble_eq_true rfl) (Nat.le_of_ble_eq_true rfl) ?_
    have hP9 := hP.sub (ws' := []) [] rfl
    have hD9 := hD.sub (ws' := []) [] (by decide) rfl
    have hK9 := hK.sub (tys' := []) [] rfl
    exact W.iret (v := (-1)) hx hb hr (fun t ht hW => ⟨⟨(-1), (), rfl, (by show _ = _; rw [if_neg hp0]), by rw [ht]; exact hP9, va_K.moved hW.alike hK9, hD9⟩, hS.F ht⟩) hS.2.2 dX11_close_24
abbrev r_c_outcome : Room := { frames := 0, cells := 0, slots := 0, locals := 0 }
abbrev q_c_outcome (D : va_G) (h0 : Nat) (tp : Nat) (rd : Nat) (ck : Nat) (sk : Nat) (nt : Nat) (mc : Nat) (sh : Nat) (sp : Nat) (A : Nat → Prop) : Array Value → State → Outcome → State → Prop := va_Qi (fun (r : Int32) (_ : Unit) => r = 0) (fun u t => gq D A ((fun (_ : Unit) => []) u) ((fun (_ : Unit) => ([] : List (ClassId × FieldType))) u) t) A
set_option maxHeartbeats 4000000 in
set_option maxRecDepth 100000 in
theorem c_outcome (l : Launch) (D : va_G) (ks : Nat × Nat × Option Nat) (sz : Nat) (h0 : Nat) (tp : Nat) (rd : Nat) (ck : Nat) (sk : Nat) (nt : Nat) (mc : Nat) (sh : Nat) (sp : Nat) : Met l yX11_outcome (Cond.code yX11_outcome cX11_outcome 1 (some .int) :: GW) r_c_outcome (va_Pc [.ref h0] (gp D ks [(h0, .inr (11, [.ref tp, .ref rd, .ref ck, .ref sk, .ref nt, .ref mc, .ref sh, .ref sp, .int 0, .int 0]))] [] sz)) (q_c_outcome D h0 tp rd ck sk nt mc sh sp (va_A [(h0, .inr (11, [.ref tp, .ref rd, .ref ck, .ref sk, .ref nt, .ref mc, .ref sh, .ref sp, .int 0, .int 0]))] sz)) 0 0 (va_A [(h0, .inr (11, [.ref tp, .ref rd, .ref ck, .ref sk, .ref nt, .ref mc, .ref sh, .ref sp, .int 0, .int 0]))] sz) := by
  refine g_met (q_c_outcome D h0 tp rd ck sk nt mc sh sp) (by decide) (Nat.le_of_ble_eq_true rfl) ?_
  intro p e s m below meth c A ls H locs hx hb hr hml hown hg hlocks hin hnw hgk hP hK hD hS hA hl
  have hown : s.vm.findClass RX11 = some m.cls := hown
  have hl : lv_has ls 1 [(0, .ref h0)] := hl
  refine lv_aload_n hx hb dX11_outcome_0 rfl (lv_at hl 0 rfl) ?_
  refine va_get (D := D) (ci := 11) (v := .int 0) (C := RX11) (T := TX11) (N := 10) hx hb hg inX11 hown hK hP 0 rfl rfl 9 (by decide) (hg _ w724) (fun _ h9 => h9) rfl dX11_outcome_1 ?_
  refine W.widen (k := 0) (n := 0) (Nat.le_of_ble_eq_true rfl) (Nat.le_of_ble_eq_true rfl) ?_
  have hP9 := hP.sub (ws' := []) [] rfl
  have hD9 := hD.sub (ws' := []) [] (by decide) rfl
  have hK9 := hK.sub (tys' := []) [] rfl
  exact W.iret (v := 0) hx hb hr (fun t ht hW => ⟨⟨0, (), rfl, (by first | rfl | trivial | assumption | decide), by rw [ht]; exact hP9, va_K.moved hW.alike hK9, hD9⟩, hS.F ht⟩) hS.2.2 dX11_outcome_4
abbrev r_c_cause : Room := { frames := 1, cells := 0, slots := 0, locals := 21 }
abbrev q_c_cause (D : va_G) (h0 : Nat) (tp : Nat) (rd : Nat) (ck : Nat) (sk : Nat) (nt : Nat) (mc : Nat) (sh : Nat) (sp : Nat) (n0 : Nat) (n1 : Nat) (n2 : Nat) (n3 : Nat) (n4 : Nat) (p0 : Int32) (A : Nat → Prop) : Array Value → State → Outcome → State → Prop := va_Qi (fun (r : Int32) (_ : Unit) => r = 0) (fun u t => gq D A ((fun (_ : Unit) => []) u) ((fun (_ : Unit) => ([] : List (ClassId × FieldType))) u) t) A
set_option maxHeartbeats 4000000 in
set_option maxRecDepth 100000 in
theorem c_cause (l : Launch) (D : va_G) (ks : Nat × Nat × Option Nat) (sz : Nat) (h0 : Nat) (tp : Nat) (rd : Nat) (ck : Nat) (sk : Nat) (nt : Nat) (mc : Nat) (sh : Nat) (sp : Nat) (n0 : Nat) (n1 : Nat) (n2 : Nat) (n3 : Nat) (n4 : Nat) (p0 : Int32) : Met l yX11_cause (Cond.code yX11_cause cX11_cause 2 (some .int) :: GW) r_c_cause (va_Pc [.ref h0, .int p0] (gp D ks [(h0, .inr (11, [.ref tp, .ref rd, .ref ck, .ref sk, .ref nt, .ref mc, .ref sh, .ref sp, .int 0, .int 0])), (nt, .inr (7, [.ref n0, .ref n1, .ref n2, .ref n3, .ref n4, .int 0, .int 0, .int 0, .int 0, .int 0]))] [] sz)) (q_c_cause D h0 tp rd ck sk nt mc sh sp n0 n1 n2 n3 n4 p0 (va_A [(h0, .inr (11, [.ref tp, .ref rd, .ref ck, .ref sk, .ref nt, .ref mc, .ref sh, .ref sp, .int 0, .int 0])), (nt, .inr (7, [.ref n0, .ref n1, .ref n2, .ref n3, .ref n4, .int 0, .int 0, .int 0, .int 0, .int 0]))] sz)) 0 0 (va_A [(h0, .inr (11, [.ref tp, .ref rd, .ref ck, .ref sk, .ref nt, .ref mc, .ref sh, .ref sp, .int 0, .int 0])), (nt, .inr (7, [.ref n0, .ref n1, .ref n2, .ref n3, .ref n4, .int 0, .int 0, .int 0, .int 0, .int 0]))] sz) := by
  refine g_met (q_c_cause D h0 tp rd ck sk nt mc sh sp n0 n1 n2 n3 n4 p0) (by decide) (Nat.le_of_ble_eq_true rfl) ?_
  intro p e s m below meth c A ls H locs hx hb hr hml hown hg hlocks hin hnw hgk hP hK hD hS hA hl
  have hown : s.vm.findClass RX11 = some m.cls := hown
  have hl : lv_has ls 2 [(0, .ref h0), (1, .int p0)] := hl
  refine lv_aload_n hx hb dX11_cause_0 rfl (lv_at hl 0 rfl) ?_
  refine va_get (D := D) (ci := 11) (v := .ref nt) (C := RX11) (T := TX11) (N := 10) hx hb hg inX11 hown hK hP 0 rfl rfl 4 (by decide) (hg _ w719) (fun _ h9 => h9) rfl dX11_cause_1 ?_
  refine lv_iload_n hx hb dX11_cause_4 rfl (lv_at hl 1 rfl) ?_
  refine g_int (wr := [(h0, .inr (11, [.ref tp, .ref rd, .ref ck, .ref sk, .ref nt, .ref mc, .ref sh, .ref sp, .int 0, .int 0]))]) (tr := []) (g_runV (As := [.int p0]) (rest := []) (wc := [(nt, .inr (7, [.ref n0, .ref n1, .ref n2, .ref n3, .ref n4, .int 0, .int 0, .int 0, .int 0, .int 0]))]) (tc := []) (ci := 7) (q0 := 1) hx hb hml hown hg gw_self hP hD hK hS hA hnw hgk [1] [] (by decide) rfl rfl (c_kindOfCause0 l D ks H.size nt n0 n1 n2 n3 n4 p0) w1554 w1555 w1556 w166 w1557 rfl rfl hdV_yX7_kindOfCause ⟨Nat.le_of_ble_eq_true rfl, Nat.le_of_ble_eq_true rfl⟩ rfl hl.1 rfl (Nat.le_of_ble_eq_true rfl) dX11_cause_5 ⟨Nat.le_of_ble_eq_true rfl, Nat.le_of_ble_eq_true rfl⟩) hP hD hK hS hA [1] [0] [] rfl rfl (by decide) (by decide) rfl (fun vr3 vu2 H locs vhw1 hP hD hK hS => ?_)
  have vhw1 : vr3 = 0 := vhw1
  subst vhw1
  have hP : va_P D vwCl [(h0, .inr (11, [.ref tp, .ref rd, .ref ck, .ref sk, .ref nt, .ref mc, .ref sh, .ref sp, .int 0, .int 0]))] H := hP
  have hD : va_D A [(h0, .inr (11, [.ref tp, .ref rd, .ref ck, .ref sk, .ref nt, .ref mc, .ref sh, .ref sp, .int 0, .int 0]))] := hD
  have hK : va_K D vwCl [] s := hK
  refine W.widen (k := 0) (n := 0) (Nat.le_of_ble_eq_true rfl) (Nat.le_of_ble_eq_true rfl) ?_
  have hP9 := hP.sub (ws' := []) [] rfl
  have hD9 := hD.sub (ws' := []) [] (by decide) rfl
  have hK9 := hK.sub (tys' := []) [] rfl
  exact W.iret (v := 0) hx hb hr (fun t ht hW => ⟨⟨0, (), rfl, (by first | rfl | trivial | assumption | decide), by rw [ht]; exact hP9, va_K.moved hW.alike hK9, hD9⟩, hS.F ht⟩) hS.2.2 dX11_cause_8
abbrev r_c_joined : Room := { frames := 2, cells := 0, slots := 0, locals := 46 }
abbrev q_c_joined (D : va_G) (h0 : Nat) (tp : Nat) (rd : Nat) (ck : Nat) (sk : Nat) (nt : Nat) (mc : Nat) (sh : Nat) (sp : Nat) (s0 : Nat) (s1 : Nat) (s2 : Nat) (s3 : Nat) (s4 : Nat) (s5 : Nat) (s6 : Nat) (s7 : Nat) (s8 : Nat) (s9 : Nat) (s10 : Nat) (s11 : Nat) (p0 : Int32) (p1 : Int32) (p2 : Int32) (A : Nat → Prop) : Array Value → State → Outcome → State → Prop := va_Qi (fun (r : Int32) (_ : Unit) => r = -1) (fun u t => gq D A ((fun (_ : Unit) => []) u) ((fun (_ : Unit) => ([] : List (ClassId × FieldType))) u) t) A
set_option maxHeartbeats 4000000 in
set_option maxRecDepth 100000 in
theorem c_joined (l : Launch) (D : va_G) (ks : Nat × Nat × Option Nat) (sz : Nat) (h0 : Nat) (tp : Nat) (rd : Nat) (ck : Nat) (sk : Nat) (nt : Nat) (mc : Nat) (sh : Nat) (sp : Nat) (s0 : Nat) (s1 : Nat) (s2 : Nat) (s3 : Nat) (s4 : Nat) (s5 : Nat) (s6 : Nat) (s7 : Nat) (s8 : Nat) (s9 : Nat) (s10 : Nat) (s11 : Nat) (p0 : Int32) (p1 : Int32) (p2 : Int32) : Met l yX11_joined (Cond.code yX11_joined cX11_joined 4 (some .int) :: GW) r_c_joined (va_Pc [.ref h0, .int p0, .int p1, .int p2] (gp D ks [(h0, .inr (11, [.ref tp, .ref rd, .ref ck, .ref sk, .ref nt, .ref mc, .ref sh, .ref sp, .int 0, .int 0])), (sk, .inr (8, [.ref s0, .ref s1, .ref s2, .ref s3, .ref s4, .ref s5, .ref s6, .ref s7, .ref s8, .ref s9, .ref s10, .ref s11, .int 1, .int 0, .int 0, .int 0]))] [] sz)) (q_c_joined D h0 tp rd ck sk nt mc sh sp s0 s1 s2 s3 s4 s5 s6 s7 s8 s9 s10 s11 p0 p1 p2 (va_A [(h0, .inr (11, [.ref tp, .ref rd, .ref ck, .ref sk, .ref nt, .ref mc, .ref sh, .ref sp, .int 0, .int 0])), (sk, .inr (8, [.ref s0, .ref s1, .ref s2, .ref s3, .ref s4, .ref s5, .ref s6, .ref s7, .ref s8, .ref s9, .ref s10, .ref s11, .int 1, .int 0, .int 0, .int 0]))] sz)) 0 0 (va_A [(h0, .inr (11, [.ref tp, .ref rd, .ref ck, .ref sk, .ref nt, .ref mc, .ref sh, .ref sp, .int 0, .int 0])), (sk, .inr (8, [.ref s0, .ref s1, .ref s2, .ref s3, .ref s4, .ref s5, .ref s6, .ref s7, .ref s8, .ref s9, .ref s10, .ref s11, .int 1, .int 0, .int 0, .int 0]))] sz) := by
  refine g_met (q_c_joined D h0 tp rd ck sk nt mc sh sp s0 s1 s2 s3 s4 s5 s6 s7 s8 s9 s10 s11 p0 p1 p2) (by decide) (Nat.le_of_ble_eq_true rfl) ?_
  intro p e s m below meth c A ls H locs hx hb hr hml hown hg hlocks hin hnw hgk hP hK hD hS hA hl
  have hown : s.vm.findClass RX11 = some m.cls := hown
  have hl : lv_has ls 4 [(0, .ref h0), (1, .int p0), (2, .int p1), (3, .int p2)] := hl
  refine lv_aload_n hx hb dX11_joined_0 rfl (lv_at hl 0 rfl) ?_
  refine va_get (D := D) (ci := 11) (v := .ref sk) (C := RX11) (T := TX11) (N := 10) hx hb hg inX11 hown hK hP 0 rfl rfl 3 (by decide) (hg _ w718) (fun _ h9 => h9) rfl dX11_joined_1 ?_
  refine lv_iload_n hx hb dX11_joined_4 rfl (lv_at hl 1 rfl) ?_
  refine lv_iload_n hx hb dX11_joined_5 rfl (lv_at hl 2 rfl) ?_
  refine lv_iload_n hx hb dX11_joined_6 rfl (lv_at hl 3 rfl) ?_
  refine g_int (wr := [(h0, .inr (11, [.ref tp, .ref rd, .ref ck, .ref sk, .ref nt, .ref mc, .ref sh, .ref sp, .int 0, .int 0]))]) (tr := []) (g_runV (As := [.int p0, .int p1, .int p2]) (rest := []) (wc := [(sk, .inr (8, [.ref s0, .ref s1, .ref s2, .ref s3, .ref s4, .ref s5, .ref s6, .ref s7, .ref s8, .ref s9, .ref s10, .ref s11, .int 1, .int 0, .int 0, .int 0]))]) (tc := []) (ci := 8) (q0 := 1) hx hb hml hown hg gw_self hP hD hK hS hA hnw hgk [1] [] (by decide) rfl rfl (c_joinedTo0 l D ks H.size sk s0 s1 s2 s3 s4 s5 s6 s7 s8 s9 s10 s11 p0 p1 p2) w1562 w1440 w1441 w164 w1442 rfl rfl hdV_yX8_joinedTo ⟨Nat.le_of_ble_eq_true rfl, Nat.le_of_ble_eq_true rfl⟩ rfl hl.1 rfl (Nat.le_of_ble_eq_true rfl) dX11_joined_7 ⟨Nat.le_of_ble_eq_true rfl, Nat.le_of_ble_eq_true rfl⟩) hP hD hK hS hA [1] [0] [] rfl rfl (by decide) (by decide) rfl (fun vr3 vu2 H locs vhw1 hP hD hK hS => ?_)
  have vhw1 : vr3 = -1 := vhw1
  subst vhw1
  have hP : va_P D vwCl [(h0, .inr (11, [.ref tp, .ref rd, .ref ck, .ref sk, .ref nt, .ref mc, .ref sh, .ref sp, .int 0, .int 0]))] H := hP
  have hD : va_D A [(h0, .inr (11, [.ref tp, .ref rd, .ref ck, .ref sk, .ref nt, .ref mc, .ref sh, .ref sp, .int 0, .int 0]))] := hD
  have hK : va_K D vwCl [] s := hK
  refine W.widen (k := 0) (n := 0) (Nat.le_of_ble_eq_true rfl) (Nat.le_of_ble_eq_true rfl) ?_
  have hP9 := hP.sub (ws' := []) [] rfl
  have hD9 := hD.sub (ws' := []) [] (by decide) rfl
  have hK9 := hK.sub (tys' := []) [] rfl
  exact W.iret (v := (-1)) hx hb hr (fun t ht hW => ⟨⟨(-1), (), rfl, (by first | rfl | trivial | assumption | decide), by rw [ht]; exact hP9, va_K.moved hW.alike hK9, hD9⟩, hS.F ht⟩) hS.2.2 dX11_joined_10
abbrev r_c_closed : Room := { frames := 1, cells := 0, slots := 0, locals := 22 }
abbrev q_c_closed (D : va_G) (h0 : Nat) (tp : Nat) (rd : Nat) (ck : Nat) (sk : Nat) (nt : Nat) (mc : Nat) (sh : Nat) (sp : Nat) (n0 : Nat) (n1 : Nat) (n2 : Nat) (n3 : Nat) (n4 : Nat) (p0 : Int32) (p1 : Int32) (A : Nat → Prop) : Array Value → State → Outcome → State → Prop := va_Qi (fun (r : Int32) (_ : Unit) => r = -1) (fun u t => gq D A ((fun (_ : Unit) => []) u) ((fun (_ : Unit) => ([] : List (ClassId × FieldType))) u) t) A
set_option maxHeartbeats 4000000 in
set_option maxRecDepth 100000 in
theorem c_closed (l : Launch) (D : va_G) (ks : Nat × Nat × Option Nat) (sz : Nat) (h0 : Nat) (tp : Nat) (rd : Nat) (ck : Nat) (sk : Nat) (nt : Nat) (mc : Nat) (sh : Nat) (sp : Nat) (n0 : Nat) (n1 : Nat) (n2 : Nat) (n3 : Nat) (n4 : Nat) (p0 : Int32) (p1 : Int32) : Met l yX11_closed (Cond.code yX11_closed cX11_closed 3 (some .int) :: GW) r_c_closed (va_Pc [.ref h0, .int p0, .int p1] (gp D ks [(h0, .inr (11, [.ref tp, .ref rd, .ref ck, .ref sk, .ref nt, .ref mc, .ref sh, .ref sp, .int 0, .int 0])), (nt, .inr (7, [.ref n0, .ref n1, .ref n2, .ref n3, .ref n4, .int 0, .int 0, .int 0, .int 0, .int 0]))] [] sz)) (q_c_closed D h0 tp rd ck sk nt mc sh sp n0 n1 n2 n3 n4 p0 p1 (va_A [(h0, .inr (11, [.ref tp, .ref rd, .ref ck, .ref sk, .ref nt, .ref mc, .ref sh, .ref sp, .int 0, .int 0])), (nt, .inr (7, [.ref n0, .ref n1, .ref n2, .ref n3, .ref n4, .int 0, .int 0, .int 0, .int 0, .int 0]))] sz)) 0 0 (va_A [(h0, .inr (11, [.ref tp, .ref rd, .ref ck, .ref sk, .ref nt, .ref mc, .ref sh, .ref sp, .int 0, .int 0])), (nt, .inr (7, [.ref n0, .ref n1, .ref n2, .ref n3, .ref n4, .int 0, .int 0, .int 0, .int 0, .int 0]))] sz) := by
  refine g_met (q_c_closed D h0 tp rd ck sk nt mc sh sp n0 n1 n2 n3 n4 p0 p1) (by decide) (Nat.le_of_ble_eq_true rfl) ?_
  intro p e s m below meth c A ls H locs hx hb hr hml hown hg hlocks hin hnw hgk hP hK hD hS hA hl
  have hown : s.vm.findClass RX11 = some m.cls := hown
  have hl : lv_has ls 3 [(0, .ref h0), (1, .int p0), (2, .int p1)] := hl
  refine lv_aload_n hx hb dX11_closed_0 rfl (lv_at hl 0 rfl) ?_
  refine va_get (D := D) (ci := 11) (v := .ref nt) (C := RX11) (T := TX11) (N := 10) hx hb hg inX11 hown hK hP 0 rfl rfl 4 (by decide) (hg _ w719) (fun _ h9 => h9) rfl dX11_closed_1 ?_
  refine lv_iload_n hx hb dX11_closed_4 rfl (lv_at hl 1 rfl) ?_
  refine lv_iload_n hx hb dX11_closed_5 rfl (lv_at hl 2 rfl) ?_
  refine g_int (wr := [(h0, .inr (11, [.ref tp, .ref rd, .ref ck, .ref sk, .ref nt, .ref mc, .ref sh, .ref sp, .int 0, .int 0]))]) (tr := []) (g_runV (As := [.int p0, .int p1]) (rest := []) (wc := [(nt, .inr (7, [.ref n0, .ref n1, .ref n2, .ref n3, .ref n4, .int 0, .int 0, .int 0, .int 0, .int 0]))]) (tc := []) (ci := 7) (q0 := 1) hx hb hml hown hg gw_self hP hD hK hS hA hnw hgk [1] [] (by decide) rfl rfl (c_ofClosing0 l D ks H.size nt n0 n1 n2 n3 n4 p0 p1) w1567 w1568 w1569 w166 w1570 rfl rfl hdV_yX7_ofClosing ⟨Nat.le_of_ble_eq_true rfl, Nat.le_of_ble_eq_true rfl⟩ rfl hl.1 rfl (Nat.le_of_ble_eq_true rfl) dX11_closed_6 ⟨Nat.le_of_ble_eq_true rfl, Nat.le_of_ble_eq_true rfl⟩) hP hD hK hS hA [1] [0] [] rfl rfl (by decide) (by decide) rfl (fun vr3 vu2 H locs vhw1 hP hD hK hS => ?_)
  have vhw1 : vr3 = -1 := vhw1
  subst vhw1
  have hP : va_P D vwCl [(h0, .inr (11, [.ref tp, .ref rd, .ref ck, .ref sk, .ref nt, .ref mc, .ref sh, .ref sp, .int 0, .int 0]))] H := hP
  have hD : va_D A [(h0, .inr (11, [.ref tp, .ref rd, .ref ck, .ref sk, .ref nt, .ref mc, .ref sh, .ref sp, .int 0, .int 0]))] := hD
  have hK : va_K D vwCl [] s := hK
  refine W.widen (k := 0) (n := 0) (Nat.le_of_ble_eq_true rfl) (Nat.le_of_ble_eq_true rfl) ?_
  have hP9 := hP.sub (ws' := []) [] rfl
  have hD9 := hD.sub (ws' := []) [] (by decide) rfl
  have hK9 := hK.sub (tys' := []) [] rfl
  exact W.iret (v := (-1)) hx hb hr (fun t ht hW => ⟨⟨(-1), (), rfl, (by first | rfl | trivial | assumption | decide), by rw [ht]; exact hP9, va_K.moved hW.alike hK9, hD9⟩, hS.F ht⟩) hS.2.2 dX11_closed_9
abbrev r_c_spoiled : Room := { frames := 1, cells := 0, slots := 0, locals := 21 }
abbrev q_c_spoiled (D : va_G) (h0 : Nat) (tp : Nat) (rd : Nat) (ck : Nat) (sk : Nat) (nt : Nat) (mc : Nat) (sh : Nat) (sp : Nat) (s0 : Nat) (s1 : Nat) (s2 : Nat) (s3 : Nat) (s4 : Nat) (s5 : Nat) (s6 : Nat) (s7 : Nat) (s8 : Nat) (s9 : Nat) (s10 : Nat) (s11 : Nat) (ks2 : ClassId) (b0 : Nat) (b1 : Nat) (b2 : Nat) (b3 : Nat) (b4 : Nat) (d5 : Nat) (d6 : Nat) (d7 : Nat) (d8 : Nat) (d9 : Nat) (d10 : Nat) (e2 : Nat) (p0 : Int32) (p1 : Int32) (A : Nat → Prop) : Array Value → State → Outcome → State → Prop := va_Qi (fun (r : Int32) (_ : Unit) => r = -1) (fun u t => gq D A ((fun (_ : Unit) => []) u) ((fun (_ : Unit) => ([] : List (ClassId × FieldType))) u) t) A
set_option maxHeartbeats 4000000 in
set_option maxRecDepth 100000 in
theorem c_spoiled (l : Launch) (D : va_G) (ks : Nat × Nat × Option Nat) (sz : Nat) (h0 : Nat) (tp : Nat) (rd : Nat) (ck : Nat) (sk : Nat) (nt : Nat) (mc : Nat) (sh : Nat) (sp : Nat) (s0 : Nat) (s1 : Nat) (s2 : Nat) (s3 : Nat) (s4 : Nat) (s5 : Nat) (s6 : Nat) (s7 : Nat) (s8 : Nat) (s9 : Nat) (s10 : Nat) (s11 : Nat) (ks2 : ClassId) (b0 : Nat) (b1 : Nat) (b2 : Nat) (b3 : Nat) (b4 : Nat) (d5 : Nat) (d6 : Nat) (d7 : Nat) (d8 : Nat) (d9 : Nat) (d10 : Nat) (e2 : Nat) (p0 : Int32) (p1 : Int32) : Met l yX11_spoiled (Cond.code yX11_spoiled cX11_spoiled 4 (some .int) :: GW) r_c_spoiled (va_Pc [.ref h0, .int p0, .int p1] (gp D ks [(h0, .inr (11, [.ref tp, .ref rd, .ref ck, .ref sk, .ref nt, .ref mc, .ref sh, .ref sp, .int 0, .int 0])), (sk, .inr (8, [.ref s0, .ref s1, .ref s2, .ref s3, .ref s4, .ref s5, .ref s6, .ref s7, .ref s8, .ref s9, .ref s10, .ref s11, .int 1, .int 0, .int 0, .int 0])), (s2, .inl (ks2, 40, .inl (upd (fun _ => 0) 0 1))), (sh, .inr (0, [.ref b0, .ref b1, .ref b2, .ref b3, .ref b4, .ref d5, .ref d6, .ref d7, .ref d8, .ref d9, .ref d10, .int 0, .int 0])), (b2, .inr (6, [.ref e2, .int 0]))] [(ks2, .boolean)] sz)) (q_c_spoiled D h0 tp rd ck sk nt mc sh sp s0 s1 s2 s3 s4 s5 s6 s7 s8 s9 s10 s11 ks2 b0 b1 b2 b3 b4 d5 d6 d7 d8 d9 d10 e2 p0 p1 (va_A [(h0, .inr (11, [.ref tp, .ref rd, .ref ck, .ref sk, .ref nt, .ref mc, .ref sh, .ref sp, .int 0, .int 0])), (sk, .inr (8, [.ref s0, .ref s1, .ref s2, .ref s3, .ref s4, .ref s5, .ref s6, .ref s7, .ref s8, .ref s9, .ref s10, .ref s11, .int 1, .int 0, .int 0, .int 0])), (s2, .inl (ks2, 40, .inl (upd (fun _ => 0) 0 1))), (sh, .inr (0, [.ref b0, .ref b1, .ref b2, .ref b3, .ref b4, .ref d5, .ref d6, .ref d7, .ref d8, .ref d9, .ref d10, .int 0, .int 0])), (b2, .inr (6, [.ref e2, .int 0]))] sz)) 0 0 (va_A [(h0, .inr (11, [.ref tp, .ref rd, .ref ck, .ref sk, .ref nt, .ref mc, .ref sh, .ref sp, .int 0, .int 0])), (sk, .inr (8, [.ref s0, .ref s1, .ref s2, .ref s3, .ref s4, .ref s5, .ref s6, .ref s7, .ref s8, .ref s9, .ref s10, .ref s11, .int 1, .int 0, .int 0, .int 0])), (s2, .inl (ks2, 40, .inl (upd (fun _ => 0) 0 1))), (sh, .inr (0, [.ref b0, .ref b1, .ref b2, .ref b3, .ref b4, .ref d5, .ref d6, .ref d7, .ref d8, .ref d9, .ref d10, .int 0, .int 0])), (b2, .inr (6, [.ref e2, .int 0]))] sz) := by
  refine g_met (q_c_spoiled D h0 tp rd ck sk nt mc sh sp s0 s1 s2 s3 s4 s5 s6 s7 s8 s9 s10 s11 ks2 b0 b1 b2 b3 b4 d5 d6 d7 d8 d9 d10 e2 p0 p1) (by decide) (Nat.le_of_ble_eq_true rfl) ?_
  intro p e s m below meth c A ls H locs hx hb hr hml hown hg hlocks hin hnw hgk hP hK hD hS hA hl
  have hown : s.vm.findClass RX11 = some m.cls := hown
  have hl : lv_has ls 4 [(0, .ref h0), (1, .int p0), (2, .int p1)] := hl
  by_cases hp0 : p0 = 0
  · subst hp0
    refine lv_aload_n hx hb dX11_spoiled_0 rfl (lv_at hl 0 rfl) ?_
    refine va_get (D := D) (ci := 11) (v := .ref sk) (C := RX11) (T := TX11) (N := 10) hx hb hg inX11 hown hK hP 0 rfl rfl 3 (by decide) (hg _ w718) (fun _ h9 => h9) rfl dX11_spoiled_1 ?_
    refine lv_iload_n hx hb dX11_spoiled_4 rfl (lv_at hl 1 rfl) ?_
    refine g_int (wr := [(h0, .inr (11, [.ref tp, .ref rd, .ref ck, .ref sk, .ref nt, .ref mc, .ref sh, .ref sp, .int 0, .int 0])), (sh, .inr (0, [.ref b0, .ref b1, .ref b2, .ref b3, .ref b4, .ref d5, .ref d6, .ref d7, .ref d8, .ref d9, .ref d10, .int 0, .int 0])), (b2, .inr (6, [.ref e2, .int 0]))]) (tr := []) (g_runV (As := [.int 0]) (rest := []) (wc := [(sk, .inr (8, [.ref s0, .ref s1, .ref s2, .ref s3, .ref s4, .ref s5, .ref s6, .ref s7, .ref s8, .ref s9, .ref s10, .ref s11, .int 1, .int 0, .int 0, .int 0])), (s2, .inl (ks2, 40, .inl (upd (fun _ => 0) 0 1)))]) (tc := [(ks2, .boolean)]) (ci := 8) (q0 := 1) hx hb hml hown hg gw_self hP hD hK hS hA hnw hgk [1, 2] [0] (by decide) rfl rfl (c_isOpen0 l D ks H.size sk s0 s1 s2 s3 s4 s5 s6 s7 s8 s9 s10 s11 ks2) w1158 w1159 w1160 w164 w1161 rfl rfl hdV_yX8_isOpen ⟨Nat.le_of_ble_eq_true rfl, Nat.le_of_ble_eq_true rfl⟩ rfl hl.1 rfl (Nat.le_of_ble_eq_true rfl) dX11_spoiled_5 ⟨Nat.le_of_ble_eq_true rfl, Nat.le_of_ble_eq_true rfl⟩) hP hD hK hS hA [1, 2] [0, 3, 4] [] rfl rfl (by decide) (by decide) rfl (fun vr3 vu2 H locs vhw1 hP hD hK hS => ?_)
    have vhw1 : vr3 = 1 := vhw1
    subst vhw1
    have hP : va_P D vwCl [(h0, .inr (11, [.ref tp, .ref rd, .ref ck, .ref sk, .ref nt, .ref mc, .ref sh, .ref sp, .int 0, .int 0])), (sh, .inr (0, [.ref b0, .ref b1, .ref b2, .ref b3, .ref b4, .ref d5, .ref d6, .ref d7, .ref d8, .ref d9, .ref d10, .int 0, .int 0])), (b2, .inr (6, [.ref e2, .int 0])), (sk, .inr (8, [.ref s0, .ref s1, .ref s2, .ref s3, .ref s4, .ref s5, .ref s6, .ref s7, .ref s8, .ref s9, .ref s10, .ref s11, .int 1, .int 0, .int 0, .int 0])), (s2, .inl (ks2, 40, .inl (upd (fun _ => 0) 0 1)))] H := hP
    have hD : va_D A [(h0, .inr (11, [.ref tp, .ref rd, .ref ck, .ref sk, .ref nt, .ref mc, .ref sh, .ref sp, .int 0, .int 0])), (sh, .inr (0, [.ref b0, .ref b1, .ref b2, .ref b3, .ref b4, .ref d5, .ref d6, .ref d7, .ref d8, .ref d9, .ref d10, .int 0, .int 0])), (b2, .inr (6, [.ref e2, .int 0])), (sk, .inr (8, [.ref s0, .ref s1, .ref s2, .ref s3, .ref s4, .ref s5, .ref s6, .ref s7, .ref s8, .ref s9, .ref s10, .ref s11, .int 1, .int 0, .int 0, .int 0])), (s2, .inl (ks2, 40, .inl (upd (fun _ => 0) 0 1)))] := hD
    have hK : va_K D vwCl [(ks2, .boolean)] s := hK
    refine lv_if_eq (tgt := 22) hx hb dX11_spoiled_8 (by decide) (fun q => absurd q (by decide)) (fun _ => ?_)
    refine lv_aload_n hx hb dX11_spoiled_11 rfl (lv_at hl 0 rfl) ?_
    refine va_get (D := D) (ci := 11) (v := .ref sh) (C := RX11) (T := TX11) (N := 10) hx hb hg inX11 hown hK hP 0 rfl rfl 6 (by decide) (hg _ w721) (fun _ h9 => h9) rfl dX11_spoiled_12 ?_
    refine lv_iload_n hx hb dX11_spoiled_15 rfl (lv_at hl 2 rfl) ?_
    refine g_int (wr := [(h0, .inr (11, [.ref tp, .ref rd, .ref ck, .ref sk, .ref nt, .ref mc, .ref sh, .ref sp, .int 0, .int 0])), (sk, .inr (8, [.ref s0, .ref s1, .ref s2, .ref s3, .ref s4, .ref s5, .ref s6, .ref s7, .ref s8, .ref s9, .ref s10, .ref s11, .int 1, .int 0, .int 0, .int 0])), (s2, .inl (ks2, 40, .inl (upd (fun _ => 0) 0 1)))]) (tr := [(ks2, .boolean)]) (g_runV (As := [.int p1]) (rest := []) (wc := [(sh, .inr (0, [.ref b0, .ref b1, .ref b2, .ref b3, .ref b4, .ref d5, .ref d6, .ref d7, .ref d8, .ref d9, .ref d10, .int 0, .int 0])), (b2, .inr (6, [.ref e2, .int 0]))]) (tc := []) (ci := 0) (q0 := 1) hx hb hml hown hg gw_self hP hD hK hS hA hnw hgk [1, 2] [] (by decide) rfl rfl (c_Book_has0 l D ks H.size sh b0 b1 b2 b3 b4 d5 d6 d7 d8 d9 d10 e2 p1) w1137 w1138 w1139 w167 w1140 rfl rfl hdV_yX0_has ⟨Nat.le_of_ble_eq_true rfl, Nat.le_of_ble_eq_true rfl⟩ rfl hl.1 rfl (Nat.le_of_ble_eq_true rfl) dX11_spoiled_16 ⟨Nat.le_of_ble_eq_true rfl, Nat.le_of_ble_eq_true rfl⟩) hP hD hK hS hA [1, 2] [0, 3, 4] [0] rfl rfl (by decide) (by decide) rfl (fun vr6 vu5 H locs vhw4 hP hD hK hS => ?_)
    have vhw4 : vr6 = 0 := vhw4
    subst vhw4
    have hP : va_P D vwCl [(h0, .inr (11, [.ref tp, .ref rd, .ref ck, .ref sk, .ref nt, .ref mc, .ref sh, .ref sp, .int 0, .int 0])), (sk, .inr (8, [.ref s0, .ref s1, .ref s2, .ref s3, .ref s4, .ref s5, .ref s6, .ref s7, .ref s8, .ref s9, .ref s10, .ref s11, .int 1, .int 0, .int 0, .int 0])), (s2, .inl (ks2, 40, .inl (upd (fun _ => 0) 0 1))), (sh, .inr (0, [.ref b0, .ref b1, .ref b2, .ref b3, .ref b4, .ref d5, .ref d6, .ref d7, .ref d8, .ref d9, .ref d10, .int 0, .int 0])), (b2, .inr (6, [.ref e2, .int 0]))] H := hP
    have hD : va_D A [(h0, .inr (11, [.ref tp, .ref rd, .ref ck, .ref sk, .ref nt, .ref mc, .ref sh, .ref sp, .int 0, .int 0])), (sk, .inr (8, [.ref s0, .ref s1, .ref s2, .ref s3, .ref s4, .ref s5, .ref s6, .ref s7, .ref s8, .ref s9, .ref s10, .ref s11, .int 1, .int 0, .int 0, .int 0])), (s2, .inl (ks2, 40, .inl (upd (fun _ => 0) 0 1))), (sh, .inr (0, [.ref b0, .ref b1, .ref b2, .ref b3, .ref b4, .ref d5, .ref d6, .ref d7, .ref d8, .ref d9, .ref d10, .int 0, .int 0])), (b2, .inr (6, [.ref e2, .int 0]))] := hD
    have hK : va_K D vwCl [(ks2, .boolean)] s := hK
    refine lv_if_ne (tgt := 24) hx hb dX11_spoiled_19 (by decide) (fun q => absurd rfl q) (fun _ => ?_)
    refine lv_iconst (v := (-1)) hx hb dX11_spoiled_22 (by decide) ?_
    refine W.widen (k := 0) (n := 0) (Nat.le_of_ble_eq_true rfl) (Nat.le_of_ble_eq_true rfl) ?_
    have hP9 := hP.sub (ws' := []) [] rfl
    have hD9 := hD.sub (ws' := []) [] (by decide) rfl
    have hK9 := hK.sub (tys' := []) [] rfl
    exact W.iret (v := (-1)) hx hb hr (fun t ht hW => ⟨⟨(-1), (), rfl, (by first | rfl | trivial | assumption | decide), by rw [ht]; exact hP9, va_K.moved hW.alike hK9, hD9⟩, hS.F ht⟩) hS.2.2 dX11_spoiled_23
  · skip
    refine lv_aload_n hx hb dX11_spoiled_0 rfl (lv_at hl 0 rfl) ?_
    refine va_get (D := D) (ci := 11) (v := .ref sk) (C := RX11) (T := TX11) (N := 10) hx hb hg inX11 hown hK hP 0 rfl rfl 3 (by decide) (hg _ w718) (fun _ h9 => h9) rfl dX11_spoiled_1 ?_
    refine lv_iload_n hx hb dX11_spoiled_4 rfl (lv_at hl 1 rfl) ?_
    refine g_int (wr := [(h0, .inr (11, [.ref tp, .ref rd, .ref ck, .ref sk, .ref nt, .ref mc, .ref sh, .ref sp, .int 0, .int 0])), (sh, .inr (0, [.ref b0, .ref b1, .ref b2, .ref b3, .ref b4, .ref d5, .ref d6, .ref d7, .ref d8, .ref d9, .ref d10, .int 0, .int 0])), (b2, .inr (6, [.ref e2, .int 0]))]) (tr := []) (g_runV (As := [.int p0]) (rest := []) (wc := [(sk, .inr (8, [.ref s0, .ref s1, .ref s2, .ref s3, .ref s4, .ref s5, .ref s6, .ref s7, .ref s8, .ref s9, .ref s10, .ref s11, .int 1, .int 0, .int 0, .int 0])), (s2, .inl (ks2, 40, .inl (upd (fun _ => 0) 0 1)))]) (tc := [(ks2, .boolean)]) (ci := 8) (q0 := 1) hx hb hml hown hg gw_self hP hD hK hS hA hnw hgk [1, 2] [0] (by decide) rfl rfl (c_isOpenN l D ks H.size sk s0 s1 s2 s3 s4 s5 s6 s7 s8 s9 s10 s11 ks2 p0 hp0) w1158 w1159 w1160 w164 w1161 rfl rfl hdV_yX8_isOpen ⟨Nat.le_of_ble_eq_true rfl, Nat.le_of_ble_eq_true rfl⟩ rfl hl.1 rfl (Nat.le_of_ble_eq_true rfl) dX11_spoiled_5 ⟨Nat.le_of_ble_eq_true rfl, Nat.le_of_ble_eq_true rfl⟩) hP hD hK hS hA [1, 2] [0, 3, 4] [] rfl rfl (by decide) (by decide) rfl (fun vr9 vu8 H locs vhw7 hP hD hK hS => ?_)
    have vhw7 : vr9 = 0 := vhw7
    subst vhw7
    have hP : va_P D vwCl [(h0, .inr (11, [.ref tp, .ref rd, .ref ck, .ref sk, .ref nt, .ref mc, .ref sh, .ref sp, .int 0, .int 0])), (sh, .inr (0, [.ref b0, .ref b1, .ref b2, .ref b3, .ref b4, .ref d5, .ref d6, .ref d7, .ref d8, .ref d9, .ref d10, .int 0, .int 0])), (b2, .inr (6, [.ref e2, .int 0])), (sk, .inr (8, [.ref s0, .ref s1, .ref s2, .ref s3, .ref s4, .ref s5, .ref s6, .ref s7, .ref s8, .ref s9, .ref s10, .ref s11, .int 1, .int 0, .int 0, .int 0])), (s2, .inl (ks2, 40, .inl (upd (fun _ => 0) 0 1)))] H := hP
    have hD : va_D A [(h0, .inr (11, [.ref tp, .ref rd, .ref ck, .ref sk, .ref nt, .ref mc, .ref sh, .ref sp, .int 0, .int 0])), (sh, .inr (0, [.ref b0, .ref b1, .ref b2, .ref b3, .ref b4, .ref d5, .ref d6, .ref d7, .ref d8, .ref d9, .ref d10, .int 0, .int 0])), (b2, .inr (6, [.ref e2, .int 0])), (sk, .inr (8, [.ref s0, .ref s1, .ref s2, .ref s3, .ref s4, .ref s5, .ref s6, .ref s7, .ref s8, .ref s9, .ref s10, .ref s11, .int 1, .int 0, .int 0, .int 0])), (s2, .inl (ks2, 40, .inl (upd (fun _ => 0) 0 1)))] := hD
    have hK : va_K D vwCl [(ks2, .boolean)] s := hK
    refine lv_if_eq (tgt := 22) hx hb dX11_spoiled_8 (by decide) (fun _ => ?_) (fun q => absurd (by decide) q)
    refine lv_iconst (v := (-1)) hx hb dX11_spoiled_22 (by decide) ?_
    refine W.widen (k := 0) (n := 0) (Nat.le_of_ble_eq_true rfl) (Nat.le_of_ble_eq_true rfl) ?_
    have hP9 := hP.sub (ws' := []) [] rfl
    have hD9 := hD.sub (ws' := []) [] (by decide) rfl
    have hK9 := hK.sub (tys' := []) [] rfl
    exact W.iret (v := (-1)) hx hb hr (fun t ht hW => ⟨⟨(-1), (), rfl, (by first | rfl | trivial | assumption | decide), by rw [ht]; exact hP9, va_K.moved hW.alike hK9, hD9⟩, hS.F ht⟩) hS.2.2 dX11_spoiled_23
abbrev r_c_did : Room := { frames := 1, cells := 0, slots := 0, locals := 22 }
abbrev q_c_did (D : va_G) (h0 : Nat) (tp : Nat) (rd : Nat) (ck : Nat) (sk : Nat) (nt : Nat) (mc : Nat) (sh : Nat) (sp : Nat) (n0 : Nat) (n1 : Nat) (n2 : Nat) (n3 : Nat) (n4 : Nat) (p0 : Int32) (p1 : Int32) (A : Nat → Prop) : Array Value → State → Outcome → State → Prop := va_Qi (fun (r : Int32) (_ : Unit) => r = -1) (fun u t => gq D A ((fun (_ : Unit) => []) u) ((fun (_ : Unit) => ([] : List (ClassId × FieldType))) u) t) A
set_option maxHeartbeats 4000000 in
set_option maxRecDepth 100000 in
theorem c_did (l : Launch) (D : va_G) (ks : Nat × Nat × Option Nat) (sz : Nat) (h0 : Nat) (tp : Nat) (rd : Nat) (ck : Nat) (sk : Nat) (nt : Nat) (mc : Nat) (sh : Nat) (sp : Nat) (n0 : Nat) (n1 : Nat) (n2 : Nat) (n3 : Nat) (n4 : Nat) (p0 : Int32) (p1 : Int32) : Met l yX11_did (Cond.code yX11_did cX11_did 3 (some .int) :: GW) r_c_did (va_Pc [.ref h0, .int p0, .int p1] (gp D ks [(h0, .inr (11, [.ref tp, .ref rd, .ref ck, .ref sk, .ref nt, .ref mc, .ref sh, .ref sp, .int 0, .int 0])), (nt, .inr (7, [.ref n0, .ref n1, .ref n2, .ref n3, .ref n4, .int 0, .int 0, .int 0, .int 0, .int 0]))] [] sz)) (q_c_did D h0 tp rd ck sk nt mc sh sp n0 n1 n2 n3 n4 p0 p1 (va_A [(h0, .inr (11, [.ref tp, .ref rd, .ref ck, .ref sk, .ref nt, .ref mc, .ref sh, .ref sp, .int 0, .int 0])), (nt, .inr (7, [.ref n0, .ref n1, .ref n2, .ref n3, .ref n4, .int 0, .int 0, .int 0, .int 0, .int 0]))] sz)) 0 0 (va_A [(h0, .inr (11, [.ref tp, .ref rd, .ref ck, .ref sk, .ref nt, .ref mc, .ref sh, .ref sp, .int 0, .int 0])), (nt, .inr (7, [.ref n0, .ref n1, .ref n2, .ref n3, .ref n4, .int 0, .int 0, .int 0, .int 0, .int 0]))] sz) := by
  refine g_met (q_c_did D h0 tp rd ck sk nt mc sh sp n0 n1 n2 n3 n4 p0 p1) (by decide) (Nat.le_of_ble_eq_true rfl) ?_
  intro p e s m below meth c A ls H locs hx hb hr hml hown hg hlocks hin hnw hgk hP hK hD hS hA hl
  have hown : s.vm.findClass RX11 = some m.cls := hown
  have hl : lv_has ls 3 [(0, .ref h0), (1, .int p0), (2, .int p1)] := hl
  refine lv_aload_n hx hb dX11_did_0 rfl (lv_at hl 0 rfl) ?_
  refine va_get (D := D) (ci := 11) (v := .ref nt) (C := RX11) (T := TX11) (N := 10) hx hb hg inX11 hown hK hP 0 rfl rfl 4 (by decide) (hg _ w719) (fun _ h9 => h9) rfl dX11_did_1 ?_
  refine lv_iload_n hx hb dX11_did_4 rfl (lv_at hl 1 rfl) ?_
  refine lv_iload_n hx hb dX11_did_5 rfl (lv_at hl 2 rfl) ?_
  refine g_int (wr := [(h0, .inr (11, [.ref tp, .ref rd, .ref ck, .ref sk, .ref nt, .ref mc, .ref sh, .ref sp, .int 0, .int 0]))]) (tr := []) (g_runV (As := [.int p0, .int p1]) (rest := []) (wc := [(nt, .inr (7, [.ref n0, .ref n1, .ref n2, .ref n3, .ref n4, .int 0, .int 0, .int 0, .int 0, .int 0]))]) (tc := []) (ci := 7) (q0 := 1) hx hb hml hown hg gw_self hP hD hK hS hA hnw hgk [1] [] (by decide) rfl rfl (c_ofThing0 l D ks H.size nt n0 n1 n2 n3 n4 p0 p1) w1581 w1582 w1583 w166 w1584 rfl rfl hdV_yX7_ofThing ⟨Nat.le_of_ble_eq_true rfl, Nat.le_of_ble_eq_true rfl⟩ rfl hl.1 rfl (Nat.le_of_ble_eq_true rfl) dX11_did_6 ⟨Nat.le_of_ble_eq_true rfl, Nat.le_of_ble_eq_true rfl⟩) hP hD hK hS hA [1] [0] [] rfl rfl (by decide) (by decide) rfl (fun vr3 vu2 H locs vhw1 hP hD hK hS => ?_)
  have vhw1 : vr3 = -1 := vhw1
  subst vhw1
  have hP : va_P D vwCl [(h0, .inr (11, [.ref tp, .ref rd, .ref ck, .ref sk, .ref nt, .ref mc, .ref sh, .ref sp, .int 0, .int 0]))] H := hP
  have hD : va_D A [(h0, .inr (11, [.ref tp, .ref rd, .ref ck, .ref sk, .ref nt, .ref mc, .ref sh, .ref sp, .int 0, .int 0]))] := hD
  have hK : va_K D vwCl [] s := hK
  refine W.widen (k := 0) (n := 0) (Nat.le_of_ble_eq_true rfl) (Nat.le_of_ble_eq_true rfl) ?_
  have hP9 := hP.sub (ws' := []) [] rfl
  have hD9 := hD.sub (ws' := []) [] (by decide) rfl
  have hK9 := hK.sub (tys' := []) [] rfl
  exact W.iret (v := (-1)) hx hb hr (fun t ht hW => ⟨⟨(-1), (), rfl, (by first | rfl | trivial | assumption | decide), by rw [ht]; exact hP9, va_K.moved hW.alike hK9, hD9⟩, hS.F ht⟩) hS.2.2 dX11_did_9
abbrev r_c_count : Room := { frames := 1, cells := 0, slots := 0, locals := 22 }
abbrev q_c_count (D : va_G) (h0 : Nat) (tp : Nat) (rd : Nat) (ck : Nat) (sk : Nat) (nt : Nat) (mc : Nat) (sh : Nat) (sp : Nat) (t0 : Nat) (t1 : Nat) (t2 : Nat) (t3 : Nat) (t4 : Nat) (c0 : Nat) (c1 : Nat) (c2 : Nat) (c3 : Nat) (c4 : Nat) (c5 : Nat) (s0 : Nat) (s1 : Nat) (s2 : Nat) (s3 : Nat) (s4 : Nat) (s5 : Nat) (s6 : Nat) (s7 : Nat) (s8 : Nat) (s9 : Nat) (s10 : Nat) (s11 : Nat) (ks2 : ClassId) (b0 : Nat) (b1 : Nat) (b2 : Nat) (b3 : Nat) (b4 : Nat) (d5 : Nat) (d6 : Nat) (d7 : Nat) (d8 : Nat) (d9 : Nat) (d10 : Nat) (e0 : Nat) (e1 : Nat) (e2 : Nat) (e3 : Nat) (m0 : Nat) (m1 : Nat) (m2 : Nat) (p0 : Int32) (A : Nat → Prop) : Array Value → State → Outcome → State → Prop := va_Qi (fun (r : Int32) (_ : Unit) => r = cnt_ p0) (fun u t => gq D A ((fun (_ : Unit) => []) u) ((fun (_ : Unit) => ([] : List (ClassId × FieldType))) u) t) A
set_option maxHeartbeats 4000000 in
set_option maxRecDepth 100000 in
theorem c_count (l : Launch) (D : va_G) (ks : Nat × Nat × Option Nat) (sz : Nat) (h0 : Nat) (tp : Nat) (rd : Nat) (ck : Nat) (sk : Nat) (nt : Nat) (mc : Nat) (sh : Nat) (sp : Nat) (t0 : Nat) (t1 : Nat) (t2 : Nat) (t3 : Nat) (t4 : Nat) (c0 : Nat) (c1 : Nat) (c2 : Nat) (c3 : Nat) (c4 : Nat) (c5 : Nat) (s0 : Nat) (s1 : Nat) (s2 : Nat) (s3 : Nat) (s4 : Nat) (s5 : Nat) (s6 : Nat) (s7 : Nat) (s8 : Nat) (s9 : Nat) (s10 : Nat) (s11 : Nat) (ks2 : ClassId) (b0 : Nat) (b1 : Nat) (b2 : Nat) (b3 : Nat) (b4 : Nat) (d5 : Nat) (d6 : Nat) (d7 : Nat) (d8 : Nat) (d9 : Nat) (d10 : Nat) (e0 : Nat) (e1 : Nat) (e2 : Nat) (e3 : Nat) (m0 : Nat) (m1 : Nat) (m2 : Nat) (p0 : Int32) : Met l yX11_count (Cond.code yX11_count cX11_count 2 (some .int) :: GW) r_c_count (va_Pc [.ref h0, .int p0] (gp D ks [(h0, .inr (11, [.ref tp, .ref rd, .ref ck, .ref sk, .ref nt, .ref mc, .ref sh, .ref sp, .int 0, .int 0])), (tp, .inr (9, [.ref t0, .ref t1, .ref t2, .ref t3, .ref t4, .int 0, .int 0, .int 0, .int 0, .int 0, .int 0, .long 0])), (ck, .inr (2, [.ref c0, .ref c1, .ref c2, .ref c3, .ref c4, .ref c5, .null, .int 0])), (sk, .inr (8, [.ref s0, .ref s1, .ref s2, .ref s3, .ref s4, .ref s5, .ref s6, .ref s7, .ref s8, .ref s9, .ref s10, .ref s11, .int 1, .int 0, .int 0, .int 0])), (s2, .inl (ks2, 40, .inl (upd (fun _ => 0) 0 1))), (sh, .inr (0, [.ref b0, .ref b1, .ref b2, .ref b3, .ref b4, .ref d5, .ref d6, .ref d7, .ref d8, .ref d9, .ref d10, .int 0, .int 0])), (b0, .inr (6, [.ref e0, .int 0])), (b1, .inr (6, [.ref e1, .int 0])), (b2, .inr (6, [.ref e2, .int 0])), (b3, .inr (6, [.ref e3, .int 0])), (mc, .inr (5, [.ref sk, .ref nt, .ref m0, .ref m1, .ref m2, .ref sh, .int 0, .int 0, .int 0, .int 0, .int 0, .int 0, .int 0, .int 0, .int 0]))] [(ks2, .boolean)] sz)) (q_c_count D h0 tp rd ck sk nt mc sh sp t0 t1 t2 t3 t4 c0 c1 c2 c3 c4 c5 s0 s1 s2 s3 s4 s5 s6 s7 s8 s9 s10 s11 ks2 b0 b1 b2 b3 b4 d5 d6 d7 d8 d9 d10 e0 e1 e2 e3 m0 m1 m2 p0 (va_A [(h0, .inr (11, [.ref tp, .ref rd, .ref ck, .ref sk, .ref nt, .ref mc, .ref sh, .ref sp, .int 0, .int 0])), (tp, .inr (9, [.ref t0, .ref t1, .ref t2, .ref t3, .ref t4, .int 0, .int 0, .int 0, .int 0, .int 0, .int 0, .long 0])), (ck, .inr (2, [.ref c0, .ref c1, .ref c2, .ref c3, .ref c4, .ref c5, .null, .int 0])), (sk, .inr (8, [.ref s0, .ref s1, .ref s2, .ref s3, .ref s4, .ref s5, .ref s6, .ref s7, .ref s8, .ref s9, .ref s10, .ref s11, .int 1, .int 0, .int 0, .int 0])), (s2, .inl (ks2, 40, .inl (upd (fun _ => 0) 0 1))), (sh, .inr (0, [.ref b0, .ref b1, .ref b2, .ref b3, .ref b4, .ref d5, .ref d6, .ref d7, .ref d8, .ref d9, .ref d10, .int 0, .int 0])), (b0, .inr (6, [.ref e0, .int 0])), (b1, .inr (6, [.ref e1, .int 0])), (b2, .inr (6, [.ref e2, .int 0])), (b3, .inr (6, [.ref e3, .int 0])), (mc, .inr (5, [.ref sk, .ref nt, .ref m0, .ref m1, .ref m2, .ref sh, .int 0, .int 0, .int 0, .int 0, .int 0, .int 0, .int 0, .int 0, .int 0]))] sz)) 0 0 (va_A [(h0, .inr (11, [.ref tp, .ref rd, .ref ck, .ref sk, .ref nt, .ref mc, .ref sh, .ref sp, .int 0, .int 0])), (tp, .inr (9, [.ref t0, .ref t1, .ref t2, .ref t3, .ref t4, .int 0, .int 0, .int 0, .int 0, .int 0, .int 0, .long 0])), (ck, .inr (2, [.ref c0, .ref c1, .ref c2, .ref c3, .ref c4, .ref c5, .null, .int 0])), (sk, .inr (8, [.ref s0, .ref s1, .ref s2, .ref s3, .ref s4, .ref s5, .ref s6, .ref s7, .ref s8, .ref s9, .ref s10, .ref s11, .int 1, .int 0, .int 0, .int 0])), (s2, .inl (ks2, 40, .inl (upd (fun _ => 0) 0 1))), (sh, .inr (0, [.ref b0, .ref b1, .ref b2, .ref b3, .ref b4, .ref d5, .ref d6, .ref d7, .ref d8, .ref d9, .ref d10, .int 0, .int 0])), (b0, .inr (6, [.ref e0, .int 0])), (b1, .inr (6, [.ref e1, .int 0])), (b2, .inr (6, [.ref e2, .int 0])), (b3, .inr (6, [.ref e3, .int 0])), (mc, .inr (5, [.ref sk, .ref nt, .ref m0, .ref m1, .ref m2, .ref sh, .int 0, .int 0, .int 0, .int 0, .int 0, .int 0, .int 0, .int 0, .int 0]))] sz) := by
  refine g_met (q_c_count D h0 tp rd ck sk nt mc sh sp t0 t1 t2 t3 t4 c0 c1 c2 c3 c4 c5 s0 s1 s2 s3 s4 s5 s6 s7 s8 s9 s10 s11 ks2 b0 b1 b2 b3 b4 d5 d6 d7 d8 d9 d10 e0 e1 e2 e3 m0 m1 m2 p0) (by decide) (Nat.le_of_ble_eq_true rfl) ?_
  intro p e s m below meth c A ls H locs hx hb hr hml hown hg hlocks hin hnw hgk hP hK hD hS hA hl
  have hown : s.vm.findClass RX11 = some m.cls := hown
  have hl : lv_has ls 2 [(0, .ref h0), (1, .int p0)] := hl
  by_cases hq0 : p0 = 0
  · subst hq0
    refine lv_iload_n hx hb dX11_count_0 rfl (lv_at hl 1 rfl) ?_
    refine lv_tableIn (x := 0) (off := 67) (tgt := 68) hx hb dX11_count_1 (by decide) (by decide) (by decide) (by decide) ?_
    refine lv_aload_n hx hb dX11_count_68 rfl (lv_at hl 0 rfl) ?_
    refine va_get (D := D) (ci := 11) (v := .ref sh) (C := RX11) (T := TX11) (N := 10) hx hb hg inX11 hown hK hP 0 rfl rfl 6 (by decide) (hg _ w721) (fun _ h9 => h9) rfl dX11_count_69 ?_
    refine va_getN (D := D) (ci := 0) (v := .ref b0) (C := RX0) (T := TX0) (N := 13) hx hb hg inX0 hown hK hP 5 rfl rfl 0 (by decide) (hnw.use 595 n595 rfl) (fun _ h9 => h9) rfl dX11_count_72 ?_
    refine va_getN (D := D) (ci := 6) (v := .int 0) (C := RX6) (T := TX6) (N := 2) hx hb hg inX6 hown hK hP 6 rfl rfl 1 (by decide) (hnw.use 483 n483 rfl) (fun _ h9 => h9) rfl dX11_count_75 ?_
    refine W.widen (k := 0) (n := 0) (Nat.le_of_ble_eq_true rfl) (Nat.le_of_ble_eq_true rfl) ?_
    have hP9 := hP.sub (ws' := []) [] rfl
    have hD9 := hD.sub (ws' := []) [] (by decide) rfl
    have hK9 := hK.sub (tys' := []) [] rfl
    exact W.iret (v := 0) hx hb hr (fun t ht hW => ⟨⟨0, (), rfl, (by decide), by rw [ht]; exact hP9, va_K.moved hW.alike hK9, hD9⟩, hS.F ht⟩) hS.2.2 dX11_count_78
  by_cases hq1 : p0 = 1
  · subst hq1
    refine lv_iload_n hx hb dX11_count_0 rfl (lv_at hl 1 rfl) ?_
    refine lv_tableIn (x := 1) (off := 78) (tgt := 79) hx hb dX11_count_1 (by decide) (by decide) (by decide) (by decide) ?_
    refine lv_aload_n hx hb dX11_count_79 rfl (lv_at hl 0 rfl) ?_
    refine va_get (D := D) (ci := 11) (v := .ref sh) (C := RX11) (T := TX11) (N := 10) hx hb hg inX11 hown hK hP 0 rfl rfl 6 (by decide) (hg _ w721) (fun _ h9 => h9) rfl dX11_count_80 ?_
    refine va_getN (D := D) (ci := 0) (v := .ref b1) (C := RX0) (T := TX0) (N := 13) hx hb hg inX0 hown hK hP 5 rfl rfl 1 (by decide) (hnw.use 598 n598 rfl) (fun _ h9 => h9) rfl dX11_count_83 ?_
    refine va_getN (D := D) (ci := 6) (v := .int 0) (C := RX6) (T := TX6) (N := 2) hx hb hg inX6 hown hK hP 7 rfl rfl 1 (by decide) (hnw.use 483 n483 rfl) (fun _ h9 => h9) rfl dX11_count_86 ?_
    refine W.widen (k := 0) (n := 0) (Nat.le_of_ble_eq_true rfl) (Nat.le_of_ble_eq_true rfl) ?_
    have hP9 := hP.sub (ws' := []) [] rfl
    have hD9 := hD.sub (ws' := []) [] (by decide) rfl
    have hK9 := hK.sub (tys' := []) [] rfl
    exact W.iret (v := 0) hx hb hr (fun t ht hW => ⟨⟨0, (), rfl, (by decide), by rw [ht]; exact hP9, va_K.moved hW.alike hK9, hD9⟩, hS.F ht⟩) hS.2.2 dX11_count_89
  by_cases hq2 : p0 = 2
  · subst hq2
    refine lv_iload_n hx hb dX11_count_0 rfl (lv_at hl 1 rfl) ?_
    refine lv_tableIn (x := 2) (off := 89) (tgt := 90) hx hb dX11_count_1 (by decide) (by decide) (by decide) (by decide) ?_
    refine lv_aload_n hx hb dX11_count_90 rfl (lv_at hl 0 rfl) ?_
    refine va_get (D := D) (ci := 11) (v := .ref sh) (C := RX11) (T := TX11) (N := 10) hx hb hg inX11 hown hK hP 0 rfl rfl 6 (by decide) (hg _ w721) (fun _ h9 => h9) rfl dX11_count_91 ?_
    refine va_getN (D := D) (ci := 0) (v := .ref b2) (C := RX0) (T := TX0) (N := 13) hx hb hg inX0 hown hK hP 5 rfl rfl 2 (by decide) (hnw.use 602 n602 rfl) (fun _ h9 => h9) rfl dX11_count_94 ?_
    refine va_getN (D := D) (ci := 6) (v := .int 0) (C := RX6) (T := TX6) (N := 2) hx hb hg inX6 hown hK hP 8 rfl rfl 1 (by decide) (hnw.use 483 n483 rfl) (fun _ h9 => h9) rfl dX11_count_97 ?_
    refine W.widen (k := 0) (n := 0) (Nat.le_of_ble_eq_true rfl) (Nat.le_of_ble_eq_true rfl) ?_
    have hP9 := hP.sub (ws' := []) [] rfl
    have hD9 := hD.sub (ws' := []) [] (by decide) rfl
    have hK9 := hK.sub (tys' := []) [] rfl
    exact W.iret (v := 0) hx hb hr (fun t ht hW => ⟨⟨0, (), rfl, (by decide), by rw [ht]; exact hP9, va_K.moved hW.alike hK9, hD9⟩, hS.F ht⟩) hS.2.2 dX11_count_100
  by_cases hq3 : p0 = 3
  · subst hq3
    refine lv_iload_n hx hb dX11_count_0 rfl (lv_at hl 1 rfl) ?_
    refine lv_tableIn (x := 3) (off := 100) (tgt := 101) hx hb dX11_count_1 (by decide) (by decide) (by decide) (by decide) ?_
    refine lv_aload_n hx hb dX11_count_101 rfl (lv_at hl 0 rfl) ?_
    refine va_get (D := D) (ci := 11) (v := .ref sh) (C := RX11) (T := TX11) (N := 10) hx hb hg inX11 hown hK hP 0 rfl rfl 6 (by decide) (hg _ w721) (fun _ h9 => h9) rfl dX11_count_102 ?_
    refine va_getN (D := D) (ci := 0) (v := .ref b3) (C := RX0) (T := TX0) (N := 13) hx hb hg inX0 hown hK hP 5 rfl rfl 3 (by decide) (hnw.use 604 n604 rfl) (fun _ h9 => h9) rfl dX11_count_105 ?_
    refine va_getN (D := D) (ci := 6) (v := .int 0) (C := RX6) (T := TX6) (N := 2) hx hb hg inX6 hown hK hP 9 rfl rfl 1 (by decide) (hnw.use 483 n483 rfl) (fun _ h9 => h9) rfl dX11_count_108 ?_
    refine W.widen (k := 0) (n := 0) (Nat.le_of_ble_eq_true rfl) (Nat.le_of_ble_eq_true rfl) ?_
    have hP9 := hP.sub (ws' := []) [] rfl
    have hD9 := hD.sub (ws' := []) [] (by decide) rfl
    have hK9 := hK.sub (tys' := []) [] rfl
    exact W.iret (v := 0) hx hb hr (fun t ht hW => ⟨⟨0, (), rfl, (by decide), by rw [ht]; exact hP9, va_K.moved hW.alike hK9, hD9⟩, hS.F ht⟩) hS.2.2 dX11_count_111
  by_cases hq4 : p0 = 4
  · subst hq4
    refine lv_iload_n hx hb dX11_count_0 rfl (lv_at hl 1 rfl) ?_
    refine lv_tableIn (x := 4) (off := 111) (tgt := 112) hx hb dX11_count_1 (by decide) (by decide) (by decide) (by decide) ?_
    refine lv_aload_n hx hb dX11_count_112 rfl (lv_at hl 0 rfl) ?_
    refine va_get (D := D) (ci := 11) (v := .ref sh) (C := RX11) (T := TX11) (N := 10) hx hb hg inX11 hown hK hP 0 rfl rfl 6 (by decide) (hg _ w721) (fun _ h9 => h9) rfl dX11_count_113 ?_
    refine va_getN (D := D) (ci := 0) (v := .int 0) (C := RX0) (T := TX0) (N := 13) hx hb hg inX0 hown hK hP 5 rfl rfl 11 (by decide) (hnw.use 627 n627 rfl) (fun _ h9 => h9) rfl dX11_count_116 ?_
    refine W.widen (k := 0) (n := 0) (Nat.le_of_ble_eq_true rfl) (Nat.le_of_ble_eq_true rfl) ?_
    have hP9 := hP.sub (ws' := []) [] rfl
    have hD9 := hD.sub (ws' := []) [] (by decide) rfl
    have hK9 := hK.sub (tys' := []) [] rfl
    exact W.iret (v := 0) hx hb hr (fun t ht hW => ⟨⟨0, (), rfl, (by decide), by rw [ht]; exact hP9, va_K.moved hW.alike hK9, hD9⟩, hS.F ht⟩) hS.2.2 dX11_count_119
  by_cases hq5 : p0 = 5
  · subst hq5
    refine lv_iload_n hx hb dX11_count_0 rfl (lv_at hl 1 rfl) ?_
    refine lv_tableIn (x := 5) (off := 119) (tgt := 120) hx hb dX11_count_1 (by decide) (by decide) (by decide) (by decide) ?_
    refine lv_aload_n hx hb dX11_count_120 rfl (lv_at hl 0 rfl) ?_
    refine va_get (D := D) (ci := 11) (v := .ref sk) (C := RX11) (T := TX11) (N := 10) hx hb hg inX11 hown hK hP 0 rfl rfl 3 (by decide) (hg _ w718) (fun _ h9 => h9) rfl dX11_count_121 ?_
    refine g_int (wr := [(h0, .inr (11, [.ref tp, .ref rd, .ref ck, .ref sk, .ref nt, .ref mc, .ref sh, .ref sp, .int 0, .int 0])), (tp, .inr (9, [.ref t0, .ref t1, .ref t2, .ref t3, .ref t4, .int 0, .int 0, .int 0, .int 0, .int 0, .int 0, .long 0])), (ck, .inr (2, [.ref c0, .ref c1, .ref c2, .ref c3, .ref c4, .ref c5, .null, .int 0])), (sh, .inr (0, [.ref b0, .ref b1, .ref b2, .ref b3, .ref b4, .ref d5, .ref d6, .ref d7, .ref d8, .ref d9, .ref d10, .int 0, .int 0])), (b0, .inr (6, [.ref e0, .int 0])), (b1, .inr (6, [.ref e1, .int 0])), (b2, .inr (6, [.ref e2, .int 0])), (b3, .inr (6, [.ref e3, .int 0])), (mc, .inr (5, [.ref sk, .ref nt, .ref m0, .ref m1, .ref m2, .ref sh, .int 0, .int 0, .int 0, .int 0, .int 0, .int 0, .int 0, .int 0, .int 0]))]) (tr := []) (g_runV (As := []) (rest := []) (wc := [(sk, .inr (8, [.ref s0, .ref s1, .ref s2, .ref s3, .ref s4, .ref s5, .ref s6, .ref s7, .ref s8, .ref s9, .ref s10, .ref s11, .int 1, .int 0, .int 0, .int 0])), (s2, .inl (ks2, 40, .inl (upd (fun _ => 0) 0 1)))]) (tc := [(ks2, .boolean)]) (ci := 8) (q0 := 3) hx hb hml hown hg gw_self hP hD hK hS hA hnw hgk [3, 4] [0] (by decide) rfl rfl (c_openScopes0 l D ks H.size sk s0 s1 s2 s3 s4 s5 s6 s7 s8 s9 s10 s11 ks2) w1589 w1590 w1591 w164 w1592 rfl rfl hdV_yX8_openScopes ⟨Nat.le_of_ble_eq_true rfl, Nat.le_of_ble_eq_true rfl⟩ rfl hl.1 rfl (Nat.le_of_ble_eq_true rfl) dX11_count_124 ⟨Nat.le_of_ble_eq_true rfl, Nat.le_of_ble_eq_true rfl⟩) hP hD hK hS hA [3, 4] [0, 1, 2, 5, 6, 7, 8, 9, 10] [] rfl rfl (by decide) (by decide) rfl (fun vr3 vu2 H locs vhw1 hP hD hK hS => ?_)
    have vhw1 : vr3 = 1 := vhw1
    subst vhw1
    have hP : va_P D vwCl [(h0, .inr (11, [.ref tp, .ref rd, .ref ck, .ref sk, .ref nt, .ref mc, .ref sh, .ref sp, .int 0, .int 0])), (tp, .inr (9, [.ref t0, .ref t1, .ref t2, .ref t3, .ref t4, .int 0, .int 0, .int 0, .int 0, .int 0, .int 0, .long 0])), (ck, .inr (2, [.ref c0, .ref c1, .ref c2, .ref c3, .ref c4, .ref c5, .null, .int 0])), (sh, .inr (0, [.ref b0, .ref b1, .ref b2, .ref b3, .ref b4, .ref d5, .ref d6, .ref d7, .ref d8, .ref d9, .ref d10, .int 0, .int 0])), (b0, .inr (6, [.ref e0, .int 0])), (b1, .inr (6, [.ref e1, .int 0])), (b2, .inr (6, [.ref e2, .int 0])), (b3, .inr (6, [.ref e3, .int 0])), (mc, .inr (5, [.ref sk, .ref nt, .ref m0, .ref m1, .ref m2, .ref sh, .int 0, .int 0, .int 0, .int 0, .int 0, .int 0, .int 0, .int 0, .int 0]))] H := hP
    have hD : va_D A [(h0, .inr (11, [.ref tp, .ref rd, .ref ck, .ref sk, .ref nt, .ref mc, .ref sh, .ref sp, .int 0, .int 0])), (tp, .inr (9, [.ref t0, .ref t1, .ref t2, .ref t3, .ref t4, .int 0, .int 0, .int 0, .int 0, .int 0, .int 0, .long 0])), (ck, .inr (2, [.ref c0, .ref c1, .ref c2, .ref c3, .ref c4, .ref c5, .null, .int 0])), (sh, .inr (0, [.ref b0, .ref b1, .ref b2, .ref b3, .ref b4, .ref d5, .ref d6, .ref d7, .ref d8, .ref d9, .ref d10, .int 0, .int 0])), (b0, .inr (6, [.ref e0, .int 0])), (b1, .inr (6, [.ref e1, .int 0])), (b2, .inr (6, [.ref e2, .int 0])), (b3, .inr (6, [.ref e3, .int 0])), (mc, .inr (5, [.ref sk, .ref nt, .ref m0, .ref m1, .ref m2, .ref sh, .int 0, .int 0, .int 0, .int 0, .int 0, .int 0, .int 0, .int 0, .int 0]))] := hD
    have hK : va_K D vwCl [] s := hK
    refine W.widen (k := 0) (n := 0) (Nat.le_of_ble_eq_true rfl) (Nat.le_of_ble_eq_true rfl) ?_
    have hP9 := hP.sub (ws' := []) [] rfl
    have hD9 := hD.sub (ws' := []) [] (by decide) rfl
    have hK9 := hK.sub (tys' := []) [] rfl
    exact W.iret (v := 1) hx hb hr (fun t ht hW => ⟨⟨1, (), rfl, (by decide), by rw [ht]; exact hP9, va_K.moved hW.alike hK9, hD9⟩, hS.F ht⟩) hS.2.2 dX11_count_127
  by_cases hq6 : p0 = 6
  · subst hq6
    refine lv_iload_n hx hb dX11_count_0 rfl (lv_at hl 1 rfl) ?_
    refine lv_tableIn (x := 6) (off := 127) (tgt := 128) hx hb dX11_count_1 (by decide) (by decide) (by decide) (by decide) ?_
    refine lv_aload_n hx hb dX11_count_128 rfl (lv_at hl 0 rfl) ?_
    refine va_get (D := D) (ci := 11) (v := .ref sk) (C := RX11) (T := TX11) (N := 10) hx hb hg inX11 hown hK hP 0 rfl rfl 3 (by decide) (hg _ w718) (fun _ h9 => h9) rfl dX11_count_129 ?_
    refine va_getN (D := D) (ci := 8) (v := .int 0) (C := RX8) (T := TX8) (N := 16) hx hb hg inX8 hown hK hP 3 rfl rfl 13 (by decide) (hnw.use 392 n392 rfl) (fun _ h9 => h9) rfl dX11_count_132 ?_
    refine W.widen (k := 0) (n := 0) (Nat.le_of_ble_eq_true rfl) (Nat.le_of_ble_eq_true rfl) ?_
    have hP9 := hP.sub (ws' := []) [] rfl
    have hD9 := hD.sub (ws' := []) [] (by decide) rfl
    have hK9 := hK.sub (tys' := []) [] rfl
    exact W.iret (v := 0) hx hb hr (fun t ht hW => ⟨⟨0, (), rfl, (by decide), by rw [ht]; exact hP9, va_K.moved hW.alike hK9, hD9⟩, hS.F ht⟩) hS.2.2 dX11_count_135
  by_cases hq7 : p0 = 7
  · subst hq7
    refine lv_iload_n hx hb dX11_count_0 rfl (lv_at hl 1 rfl) ?_
    refine lv_tableIn (x := 7) (off := 135) (tgt := 136) hx hb dX11_count_1 (by decide) (by decide) (by decide) (by decide) ?_
    refine lv_aload_n hx hb dX11_count_136 rfl (lv_at hl 0 rfl) ?_
    refine va_get (D := D) (ci := 11) (v := .ref sk) (C := RX11) (T := TX11) (N := 10) hx hb hg inX11 hown hK hP 0 rfl rfl 3 (by decide) (hg _ w718) (fun _ h9 => h9) rfl dX11_count_137 ?_
    refine g_int (wr := [(h0, .inr (11, [.ref tp, .ref rd, .ref ck, .ref sk, .ref nt, .ref mc, .ref sh, .ref sp, .int 0, .int 0])), (tp, .inr (9, [.ref t0, .ref t1, .ref t2, .ref t3, .ref t4, .int 0, .int 0, .int 0, .int 0, .int 0, .int 0, .long 0])), (ck, .inr (2, [.ref c0, .ref c1, .ref c2, .ref c3, .ref c4, .ref c5, .null, .int 0])), (s2, .inl (ks2, 40, .inl (upd (fun _ => 0) 0 1))), (sh, .inr (0, [.ref b0, .ref b1, .ref b2, .ref b3, .ref b4, .ref d5, .ref d6, .ref d7, .ref d8, .ref d9, .ref d10, .int 0, .int 0])), (b0, .inr (6, [.ref e0, .int 0])), (b1, .inr (6, [.ref e1, .int 0])), (b2, .inr (6, [.ref e2, .int 0])), (b3, .inr (6, [.ref e3, .int 0])), (mc, .inr (5, [.ref sk, .ref nt, .ref m0, .ref m1, .ref m2, .ref sh, .int 0, .int 0, .int 0, .int 0, .int 0, .int 0, .int 0, .int 0, .int 0]))]) (tr := [(ks2, .boolean)]) (g_runV (As := []) (rest := []) (wc := [(sk, .inr (8, [.ref s0, .ref s1, .ref s2, .ref s3, .ref s4, .ref s5, .ref s6, .ref s7, .ref s8, .ref s9, .ref s10, .ref s11, .int 1, .int 0, .int 0, .int 0]))]) (tc := []) (ci := 8) (q0 := 3) hx hb hml hown hg gw_self hP hD hK hS hA hnw hgk [3] [] (by decide) rfl rfl (c_madeObjects0 l D ks H.size sk s0 s1 s2 s3 s4 s5 s6 s7 s8 s9 s10 s11) w1593 w1594 w1595 w164 w1596 rfl rfl hdV_yX8_madeObjects ⟨Nat.le_of_ble_eq_true rfl, Nat.le_of_ble_eq_true rfl⟩ rfl hl.1 rfl (Nat.le_of_ble_eq_true rfl) dX11_count_140 ⟨Nat.le_of_ble_eq_true rfl, Nat.le_of_ble_eq_true rfl⟩) hP hD hK hS hA [3] [0, 1, 2, 4, 5, 6, 7, 8, 9, 10] [0] rfl rfl (by decide) (by decide) rfl (fun vr6 vu5 H locs vhw4 hP hD hK hS => ?_)
    have vhw4 : vr6 = 0 := vhw4
    subst vhw4
    have hP : va_P D vwCl [(h0, .inr (11, [.ref tp, .ref rd, .ref ck, .ref sk, .ref nt, .ref mc, .ref sh, .ref sp, .int 0, .int 0])), (tp, .inr (9, [.ref t0, .ref t1, .ref t2, .ref t3, .ref t4, .int 0, .int 0, .int 0, .int 0, .int 0, .int 0, .long 0])), (ck, .inr (2, [.ref c0, .ref c1, .ref c2, .ref c3, .ref c4, .ref c5, .null, .int 0])), (s2, .inl (ks2, 40, .inl (upd (fun _ => 0) 0 1))), (sh, .inr (0, [.ref b0, .ref b1, .ref b2, .ref b3, .ref b4, .ref d5, .ref d6, .ref d7, .ref d8, .ref d9, .ref d10, .int 0, .int 0])), (b0, .inr (6, [.ref e0, .int 0])), (b1, .inr (6, [.ref e1, .int 0])), (b2, .inr (6, [.ref e2, .int 0])), (b3, .inr (6, [.ref e3, .int 0])), (mc, .inr (5, [.ref sk, .ref nt, .ref m0, .ref m1, .ref m2, .ref sh, .int 0, .int 0, .int 0, .int 0, .int 0, .int 0, .int 0, .int 0, .int 0]))] H := hP
    have hD : va_D A [(h0, .inr (11, [.ref tp, .ref rd, .ref ck, .ref sk, .ref nt, .ref mc, .ref sh, .ref sp, .int 0, .int 0])), (tp, .inr (9, [.ref t0, .ref t1, .ref t2, .ref t3, .ref t4, .int 0, .int 0, .int 0, .int 0, .int 0, .int 0, .long 0])), (ck, .inr (2, [.ref c0, .ref c1, .ref c2, .ref c3, .ref c4, .ref c5, .null, .int 0])), (s2, .inl (ks2, 40, .inl (upd (fun _ => 0) 0 1))), (sh, .inr (0, [.ref b0, .ref b1, .ref b2, .ref b3, .ref b4, .ref d5, .ref d6, .ref d7, .ref d8, .ref d9, .ref d10, .int 0, .int 0])), (b0, .inr (6, [.ref e0, .int 0])), (b1, .inr (6, [.ref e1, .int 0])), (b2, .inr (6, [.ref e2, .int 0])), (b3, .inr (6, [.ref e3, .int 0])), (mc, .inr (5, [.ref sk, .ref nt, .ref m0, .ref m1, .ref m2, .ref sh, .int 0, .int 0, .int 0, .int 0, .int 0, .int 0, .int 0, .int 0, .int 0]))] := hD
    have hK : va_K D vwCl [(ks2, .boolean)] s := hK
    refine W.widen (k := 0) (n := 0) (Nat.le_of_ble_eq_true rfl) (Nat.le_of_ble_eq_true rfl) ?_
    have hP9 := hP.sub (ws' := []) [] rfl
    have hD9 := hD.sub (ws' := []) [] (by decide) rfl
    have hK9 := hK.sub (tys' := []) [] rfl
    exact W.iret (v := 0) hx hb hr (fun t ht hW => ⟨⟨0, (), rfl, (by decide), by rw [ht]; exact hP9, va_K.moved hW.alike hK9, hD9⟩, hS.F ht⟩) hS.2.2 dX11_count_143
  by_cases hq8 : p0 = 8
  · subst hq8
    refine lv_iload_n hx hb dX11_count_0 rfl (lv_at hl 1 rfl) ?_
    refine lv_tableIn (x := 8) (off := 143) (tgt := 144) hx hb dX11_count_1 (by decide) (by decide) (by decide) (by decide) ?_
    refine lv_aload_n hx hb dX11_count_144 rfl (lv_at hl 0 rfl) ?_
    refine va_get (D := D) (ci := 11) (v := .int 0) (C := RX11) (T := TX11) (N := 10) hx hb hg inX11 hown hK hP 0 rfl rfl 8 (by decide) (hg _ w723) (fun _ h9 => h9) rfl dX11_count_145 ?_
    refine lv_if_eq (tgt := 155) hx hb dX11_count_148 (by decide) (fun _ => ?_) (fun q => absurd (by decide) q)
    refine lv_iconst (v := 0) hx hb dX11_count_155 (by decide) ?_
    refine W.widen (k := 0) (n := 0) (Nat.le_of_ble_eq_true rfl) (Nat.le_of_ble_eq_true rfl) ?_
    have hP9 := hP.sub (ws' := []) [] rfl
    have hD9 := hD.sub (ws' := []) [] (by decide) rfl
    have hK9 := hK.sub (tys' := []) [] rfl
    exact W.iret (v := 0) hx hb hr (fun t ht hW => ⟨⟨0, (), rfl, (by decide), by rw [ht]; exact hP9, va_K.moved hW.alike hK9, hD9⟩, hS.F ht⟩) hS.2.2 dX11_count_156
  by_cases hq9 : p0 = 9
  · subst hq9
    refine lv_iload_n hx hb dX11_count_0 rfl (lv_at hl 1 rfl) ?_
    refine lv_tableIn (x := 9) (off := 156) (tgt := 157) hx hb dX11_count_1 (by decide) (by decide) (by decide) (by decide) ?_
    refine lv_aload_n hx hb dX11_count_157 rfl (lv_at hl 0 rfl) ?_
    refine va_get (D := D) (ci := 11) (v := .ref mc) (C := RX11) (T := TX11) (N := 10) hx hb hg inX11 hown hK hP 0 rfl rfl 5 (by decide) (hg _ w720) (fun _ h9 => h9) rfl dX11_count_158 ?_
    refine va_getN (D := D) (ci := 5) (v := .int 0) (C := RX5) (T := TX5) (N := 15) hx hb hg inX5 hown hK hP 10 rfl rfl 14 (by decide) (hnw.use 683 n683 rfl) (fun _ h9 => h9) rfl dX11_count_161 ?_
    refine W.widen (k := 0) (n := 0) (Nat.le_of_ble_eq_true rfl) (Nat.le_of_ble_eq_true rfl) ?_
    have hP9 := hP.sub (ws' := []) [] rfl
    have hD9 := hD.sub (ws' := []) [] (by decide) rfl
    have hK9 := hK.sub (tys' := []) [] rfl
    exact W.iret (v := 0) hx hb hr (fun t ht hW => ⟨⟨0, (), rfl, (by decide), by rw [ht]; exact hP9, va_K.moved hW.alike hK9, hD9⟩, hS.F ht⟩) hS.2.2 dX11_count_164
  by_cases hq10 : p0 = 10
  · subst hq10
    refine lv_iload_n hx hb dX11_count_0 rfl (lv_at hl 1 rfl) ?_
    refine lv_tableIn (x := 10) (off := 164) (tgt := 165) hx hb dX11_count_1 (by decide) (by decide) (by decide) (by decide) ?_
    refine lv_aload_n hx hb dX11_count_165 rfl (lv_at hl 0 rfl) ?_
    refine va_get (D := D) (ci := 11) (v := .ref mc) (C := RX11) (T := TX11) (N := 10) hx hb hg inX11 hown hK hP 0 rfl rfl 5 (by decide) (hg _ w720) (fun _ h9 => h9) rfl dX11_count_166 ?_
    refine va_getN (D := D) (ci := 5) (v := .int 0) (C := RX5) (T := TX5) (N := 15) hx hb hg inX5 hown hK hP 10 rfl rfl 13 (by decide) (hnw.use 681 n681 rfl) (fun _ h9 => h9) rfl dX11_count_169 ?_
    refine W.widen (k := 0) (n := 0) (Nat.le_of_ble_eq_true rfl) (Nat.le_of_ble_eq_true rfl) ?_
    have hP9 := hP.sub (ws' := []) [] rfl
    have hD9 := hD.sub (ws' := []) [] (by decide) rfl
    have hK9 := hK.sub (tys' := []) [] rfl
    exact W.iret (v := 0) hx hb hr (fun t ht hW => ⟨⟨0, (), rfl, (by decide), by rw [ht]; exact hP9, va_K.moved hW.alike hK9, hD9⟩, hS.F ht⟩) hS.2.2 dX11_count_172
  by_cases hq11 : p0 = 11
  · subst hq11
    refine lv_iload_n hx hb dX11_count_0 rfl (lv_at hl 1 rfl) ?_
    refine lv_tableIn (x := 11) (off := 172) (tgt := 173) hx hb dX11_count_1 (by decide) (by decide) (by decide) (by decide) ?_
    refine lv_aload_n hx hb dX11_count_173 rfl (lv_at hl 0 rfl) ?_
    refine va_get (D := D) (ci := 11) (v := .ref ck) (C := RX11) (T := TX11) (N := 10) hx hb hg inX11 hown hK hP 0 rfl rfl 2 (by decide) (hg _ w717) (fun _ h9 => h9) rfl dX11_count_174 ?_
    refine va_getN (D := D) (ci := 2) (v := .int 0) (C := RX2) (T := TX2) (N := 8) hx hb hg inX2 hown hK hP 2 rfl rfl 7 (by decide) (hnw.use 346 n346 rfl) (fun _ h9 => h9) rfl dX11_count_177 ?_
    refine W.widen (k := 0) (n := 0) (Nat.le_of_ble_eq_true rfl) (Nat.le_of_ble_eq_true rfl) ?_
    have hP9 := hP.sub (ws' := []) [] rfl
    have hD9 := hD.sub (ws' := []) [] (by decide) rfl
    have hK9 := hK.sub (tys' := []) [] rfl
    exact W.iret (v := 0) hx hb hr (fun t ht hW => ⟨⟨0, (), rfl, (by decide), by rw [ht]; exact hP9, va_K.moved hW.alike hK9, hD9⟩, hS.F ht⟩) hS.2.2 dX11_count_180
  by_cases hq12 : p0 = 12
  · subst hq12
    refine lv_iload_n hx hb dX11_count_0 rfl (lv_at hl 1 rfl) ?_
    refine lv_tableIn (x := 12) (off := 180) (tgt := 181) hx hb dX11_count_1 (by decide) (by decide) (by decide) (by decide) ?_
    refine lv_aload_n hx hb dX11_count_181 rfl (lv_at hl 0 rfl) ?_
    refine va_get (D := D) (ci := 11) (v := .ref tp) (C := RX11) (T := TX11) (N := 10) hx hb hg inX11 hown hK hP 0 rfl rfl 0 (by decide) (hg _ w715) (fun _ h9 => h9) rfl dX11_count_182 ?_
    refine va_getN (D := D) (ci := 9) (v := .int 0) (C := RX9) (T := TX9) (N := 12) hx hb hg inX9 hown hK hP 1 rfl rfl 5 (by decide) (hnw.use 257 n257 rfl) (fun _ h9 => h9) rfl dX11_count_185 ?_
    refine W.widen (k := 0) (n := 0) (Nat.le_of_ble_eq_true rfl) (Nat.le_of_ble_eq_true rfl) ?_
    have hP9 := hP.sub (ws' := []) [] rfl
    have hD9 := hD.sub (ws' := []) [] (by decide) rfl
    have hK9 := hK.sub (tys' := []) [] rfl
    exact W.iret (v := 0) hx hb hr (fun t ht hW => ⟨⟨0, (), rfl, (by decide), by rw [ht]; exact hP9, va_K.moved hW.alike hK9, hD9⟩, hS.F ht⟩) hS.2.2 dX11_count_188
  refine lv_iload_n hx hb dX11_count_0 rfl (lv_at hl 1 rfl) ?_
  refine lv_tableOut (x := p0) (tgt := 189) hx hb dX11_count_1 (tab_out p0 12 (by decide) (fun k hk => match k, hk with | 0, _ => hq0 | 1, _ => hq1 | 2, _ => hq2 | 3, _ => hq3 | 4, _ => hq4 | 5, _ => hq5 | 6, _ => hq6 | 7, _ => hq7 | 8, _ => hq8 | 9, _ => hq9 | 10, _ => hq10 | 11, _ => hq11 | 12, _ => hq12 | k + 13, hk => absurd hk (by omega))) (by decide) ?_
  refine lv_iconst (v := (-1)) hx hb dX11_count_189 (by decide) ?_
  refine W.widen (k := 0) (n := 0) (Nat.le_of_ble_eq_true rfl) (Nat.le_of_ble_eq_true rfl) ?_
  have hP9 := hP.sub (ws' := []) [] rfl
  have hD9 := hD.sub (ws' := []) [] (by decide) rfl
  have hK9 := hK.sub (tys' := []) [] rfl
  exact W.iret (v := (-1)) hx hb hr (fun t ht hW => ⟨⟨(-1), (), rfl, (by show _ = cnt_ p0; unfold cnt_; rw [if_neg hq0, if_neg hq1, if_neg hq2, if_neg hq3, if_neg hq4, if_neg hq5, if_neg hq6, if_neg hq7, if_neg hq8, if_neg hq9, if_neg hq10, if_neg hq11, if_neg hq12]), by rw [ht]; exact hP9, va_K.moved hW.alike hK9, hD9⟩, hS.F ht⟩) hS.2.2 dX11_count_190
